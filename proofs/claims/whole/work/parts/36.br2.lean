/-! the braced reader: words and numbers -/
theorem sp_S {k : Nat} (hk : k < 16) : ∃ t, bp_S[spI k]? = some t ∧ sT t = spT k := by
  have h8 : k = 0 ∨ k = 1 ∨ k = 2 ∨ k = 3 ∨ k = 4 ∨ k = 5 ∨ k = 6 ∨ k = 7 ∨ k = 8 ∨ k = 9 ∨ k = 10 ∨ k = 11 ∨ k = 12 ∨ k = 13 ∨ k = 14 ∨ k = 15 := by omega
  rcases h8 with e | e | e | e | e | e | e | e | e | e | e | e | e | e | e | e <;> subst e
  · exact ⟨sr23, hs23, st23⟩
  · exact ⟨sr8, hs8, st8⟩
  · exact ⟨sr9, hs9, st9⟩
  · exact ⟨sr10, hs10, st10⟩
  · exact ⟨sr11, hs11, st11⟩
  · exact ⟨sr12, hs12, st12⟩
  · exact ⟨sr13, hs13, st13⟩
  · exact ⟨sr14, hs14, st14⟩
  · exact ⟨sr15, hs15, st15⟩
  · exact ⟨sr16, hs16, st16⟩
  · exact ⟨sr17, hs17, st17⟩
  · exact ⟨sr18, hs18, st18⟩
  · exact ⟨sr19, hs19, st19⟩
  · exact ⟨sr20, hs20, st20⟩
  · exact ⟨sr21, hs21, st21⟩
  · exact ⟨sr22, hs22, st22⟩
theorem nI_sub {a b : Nat} (h : b ≤ a) : nI a - nI b = nI (a - b) := by
  have e := nI_add (a - b) b
  rw [Nat.sub_add_cancel h] at e
  rw [← e]
  exact Int32.add_sub_cancel _ _
theorem dg_val {x k : Nat} (h : 48 ≤ k) : (10 : Int32) * nI x + nI k - 48 = nI (10 * x + (k - 48)) := by
  have e : nI 10 * nI x + nI k - nI 48 = nI (10 * x + (k - 48)) := by
    rw [nI_mul, nI_add, nI_sub (by omega)]
    congr 1
    omega
  exact e
theorem wdf_le (T : List Nat) (u x : Nat) : ∀ m k, wdf T u x m k < k + m ∨ wdf T u x m k = 0
  | 0, k => Or.inr rfl
  | m + 1, k => by
    unfold wdf
    split
    · exact Or.inl (by omega)
    · rcases wdf_le T u x m (k + 1) with z | z
      · exact Or.inl (by omega)
      · exact Or.inr z
section BR2
variable {l : Launch} {G : bp_G} {H0 : Heap} {mx c0 s0 : Nat} {A P : Nat → Nat} {T : List Nat} {h0 : bp_H} {na0 : Nat} {h : bp_H} {na i : Nat} {fa me : Int32} {lv : Nat} {fr it en : Bool} {v : Nat → Nat} {nt : List (Nat → Nat)} {tb nm : List Nat} {L : List (Nat × Nat)} {ps : List (Nat × Nat × Nat)} {th w : Nat} {n : Int32} {d c s : Nat} {Q : Option Value → bp_H → Nat → Nat → Prop}
set_option maxRecDepth 100000 in
set_option maxHeartbeats 4000000 in
theorem lp_BR_wordOf {ro : Bool} {u x : Nat} (hB0 : BrX mx c0 s0 A P T h0 na0 h na i fa me lv fr it en v nt tb nm L ps th w n d c s) (hb : ∀ j, j < T.length → T.getD j 0 < 1000000) (hu : u < 10000) (hx : x < 10000) :
    ∀ (m k : Nat), m + k = 16 → 1 ≤ k → Q (some (.int (nI (wdf T u x m k)))) h c s → bp_A l G H0 (5, 109, ro, ro) M_BR_wordOf h c s 2 [some (.ref (A 0)), some (.int (nI u)), some (.int (nI x)), some (.int (nI k))] [] (fun o h' c' s' => ∃ v, o = .returned v ∧ Q v h' c' s') := by
  intro m
  induction m with
  | zero =>
    intro k hm hk1 hQ
    refine bp_iload_n (q := 3) 2 rfl rfl rfl rfl ?_
    refine bp_bipush (v := 15) (q := 5) 3 rfl rfl (by decide) ?_
    refine bp_icmp_gt (q := 8) (tgt := 32) 4 rfl rfl (by decide) (fun z5 => ?_) (fun z5 => ?_)
    · refine bp_iconst (v := 0) (q := 33) 17 rfl rfl (by decide) ?_
      exact bp_iret 18 rfl rfl rfl ⟨_, rfl, hQ⟩
    · exact absurd (nI_lt (a := 15) (b := k) (by omega) (by omega)) z5
  | succ m ih =>
    intro k hm hk1 hQ
    obtain ⟨tk, hSt, eT⟩ := sp_S (k := k) (by omega)
    refine bp_iload_n (q := 3) 2 rfl rfl rfl rfl ?_
    refine bp_bipush (v := 15) (q := 5) 3 rfl rfl (by decide) ?_
    refine bp_icmp_gt (q := 8) (tgt := 32) 4 rfl rfl (by decide) (fun z5 => ?_) (fun z5 => ?_)
    · exact absurd z5 (nI_nlt (b := k) (a := 15) (by omega) (by omega))
    · refine bp_aload_n (q := 9) 5 rfl rfl rfl rfl ?_
      refine bp_getR (x := A 6) (q := 12) (ci := 3) (j := 11) 6 rfl rfl fl_BR_52_3 hB0.kb rfl hB0.r11 ?_
      refine bp_iload_n (q := 13) 7 rfl rfl rfl rfl ?_
      refine bp_iload_n (q := 14) 8 rfl rfl rfl rfl ?_
      refine bp_iload_n (q := 15) 9 rfl rfl rfl rfl ?_
      refine bp_callS (q := 18) 10 rfl rfl cw_BR_spelling lk_BR_167 wd614 rfl rfl (Nat.le_of_ble_eq_true rfl) ⟨Nat.le_of_ble_eq_true rfl, Nat.le_of_ble_eq_true rfl⟩ (s_BR_spelling (ro := ro) (k := k) (by omega) ?_)
      refine bp_callV (q := 21) (ci := 1) 11 rfl rfl cw_Row_spells lk_BR_171 rfl hB0.kx wd525 wd526 rfl rfl (Nat.le_of_ble_eq_true rfl) ⟨Nat.le_of_ble_eq_true rfl, Nat.le_of_ble_eq_true rfl⟩ (s_Row_spells (ro := ro) (u := u) (v := x) hSt hB0.tx hb (by omega) (by omega) ?_)
      refine bp_if_eq (q := 24) (tgt := 26) 12 rfl rfl (by decide) (fun z21 => ?_) (fun z21 => ?_)
      · refine bp_iinc (v := nI (k + 1)) (q := 29) 15 rfl rfl rfl (nI_1 k) (by decide) (bp_up3 rfl) ?_
        refine bp_goto (tgt := 2) 16 rfl (by decide) ?_
        have y := bI0.mp z21
        rw [eT] at y
        rw [wdf, y] at hQ
        exact ih (k + 1) (by omega) (by omega) (by simpa using hQ)
      · refine bp_iload_n (q := 25) 13 rfl rfl rfl rfl ?_
        refine bp_iret 14 rfl rfl rfl ⟨_, rfl, ?_⟩
        have y := bI1 z21
        rw [eT] at y
        rw [wdf, y, if_pos rfl] at hQ
        exact hQ
set_option maxRecDepth 100000 in
set_option maxHeartbeats 4000000 in
theorem s_BR_wordOf {ro : Bool} {u x : Nat} (hB0 : BrX mx c0 s0 A P T h0 na0 h na i fa me lv fr it en v nt tb nm L ps th w n d c s) (hb : ∀ j, j < T.length → T.getD j 0 < 1000000) (hu : u < 10000) (hx : x < 10000) (hQ : Q (some (.int (nI (wdf T u x 15 1)))) h c s) : bp_AM l G H0 (5, 109, ro, ro) M_BR_wordOf h c s [.ref (A 0), .int (nI u), .int (nI x)] Q := by
  refine bp_of (ls := [some (.ref (A 0)), some (.int (nI u)), some (.int (nI x)), none]) (by decide) dt_BR_wordOf (Nat.le_of_ble_eq_true rfl) (fun q hq => hq) ro ?_
  refine bp_iconst (v := 1) (q := 1) 0 rfl rfl (by decide) ?_
  refine bp_istore_n (q := 2) 1 rfl rfl rfl (by decide) (bp_up3 rfl) ?_
  exact lp_BR_wordOf hB0 hb hu hx 15 1 rfl (by decide) hQ
set_option maxRecDepth 100000 in
set_option maxHeartbeats 4000000 in
theorem lp_BR_num {ng : Bool} (hT : okT T) {kk dd xx : Nat} (hQ : ∀ h', BrX mx c0 s0 A P T h0 na0 h' na (if dd = 0 then i else kk) fa me lv fr it en v nt tb nm L ps th w (if ng then - nI xx else nI xx) dd c s → Q none h' c s) :
    ∀ (m : Nat) {h : bp_H} {d x : Nat} (hB0 : BrX mx c0 s0 A P T h0 na0 h na i fa me lv fr it en v nt tb nm L ps th w (nI x) d c s) (k : Nat), T.length ≤ m + k → k ≤ T.length → d ≤ k → dgE T m k d x = (kk, dd, xx) → bp_A l G H0 (1, 21, false, false) M_BR_readNumber h c s 50 [some (.ref (A 0)), some (.int (bI ng)), some (.int (nI k))] [] (fun o h' c' s' => ∃ v, o = .returned v ∧ Q v h' c' s') := by
  have hT1 := hT.1
  intro m
  induction m with
  | zero =>
    intro h d x hB0 k hm hk hdk he
    refine bp_iload_n (q := 51) 27 rfl rfl rfl rfl ?_
    refine bp_aload_n (q := 52) 28 rfl rfl rfl rfl ?_
    refine bp_getR (x := A 6) (q := 55) (ci := 3) (j := 11) 29 rfl rfl fl_BR_52_3 hB0.kb rfl hB0.r11 ?_
    refine bp_callV (q := 58) (ci := 1) 30 rfl rfl cw_Row_size lk_BR_86 rfl hB0.kx wd455 wd456 rfl rfl (Nat.le_of_ble_eq_true rfl) ⟨Nat.le_of_ble_eq_true rfl, Nat.le_of_ble_eq_true rfl⟩ (s_Row_size (ro := false) hB0.tx ?_)
    refine bp_icmp_ge (q := 61) (tgt := 122) 31 rfl rfl (by decide) (fun z58 => ?_) (fun z58 => ?_)
    · refine bp_aload_n (q := 123) 63 rfl rfl rfl rfl ?_
      refine bp_getI (q := 126) (ci := 3) (j := 10) 64 rfl rfl fl_BR_164_3 hB0.kb rfl ?_
      rw [hB0.i10]
      refine bp_if_le (q := 129) (tgt := 134) 65 rfl rfl (by decide) (fun z126 => ?_) (fun z126 => ?_)
      · refine bp_iload_n (q := 135) 69 rfl rfl rfl rfl ?_
        refine bp_if_eq (q := 138) (tgt := 147) 70 rfl rfl (by decide) (fun z135 => ?_) (fun z135 => ?_)
        · refine bp_vret 76 rfl rfl  ⟨_, rfl, hQ _ ?_⟩
          have y58 := (nI_le_iff (by omega) (by omega)).mp z58
          have e_ : dgE T 0 k d x = (k, d, x) := by first | rfl | (rw [dgE, if_neg (by rw [tc_out y58]; decide)])
          obtain ⟨e91, e92, e93⟩ : k = kk ∧ d = dd ∧ x = xx := by simpa using e_.symm.trans he
          rw [← e91, ← e92, ← e93]
          rw [if_pos (show d = 0 by have := (nI_le_iff (b := 0) (by omega) (by decide)).mp z126; omega)]
          have yn : ng = false := bI0.mp z135
          subst yn
          exact hB0
        · refine bp_aload_n (q := 139) 71 rfl rfl rfl rfl ?_
          refine bp_aload_n (q := 140) 72 rfl rfl rfl rfl ?_
          refine bp_getI (q := 143) (ci := 3) (j := 9) 73 rfl rfl fl_BR_161_3 hB0.kb rfl ?_
          rw [hB0.i9]
          refine bp_ineg (q := 144) 74 rfl rfl ?_
          refine bp_putI (q := 147) (ci := 3) (j := 9) 75 rfl rfl fl_BR_161_3 cl3 hB0.kb (fun r hr => by cases hr; rfl) (by decide) rfl rfl ?_
          refine bp_nx (X := fun h1 => BrX mx c0 s0 A P T h0 na0 h1 na i fa me lv fr it en v nt tb nm L ps th w (- nI x) d c s) (hB0.s9 rfl) (fun h1 hB1 => ?_)
          refine bp_vret 76 rfl rfl  ⟨_, rfl, hQ _ ?_⟩
          have y58 := (nI_le_iff (by omega) (by omega)).mp z58
          have e_ : dgE T 0 k d x = (k, d, x) := by first | rfl | (rw [dgE, if_neg (by rw [tc_out y58]; decide)])
          obtain ⟨e91, e92, e93⟩ : k = kk ∧ d = dd ∧ x = xx := by simpa using e_.symm.trans he
          rw [← e91, ← e92, ← e93]
          rw [if_pos (show d = 0 by have := (nI_le_iff (b := 0) (by omega) (by decide)).mp z126; omega)]
          have yn : ng = true := bI1 z135
          subst yn
          exact hB1
      · refine bp_aload_n (q := 130) 66 rfl rfl rfl rfl ?_
        refine bp_iload_n (q := 131) 67 rfl rfl rfl rfl ?_
        refine bp_putI (q := 134) (ci := 3) (j := 13) 68 rfl rfl fl_BR_66_3 cl3 hB0.kb (fun r hr => by cases hr; rfl) (by decide) rfl rfl ?_
        refine bp_nx (X := fun h1 => BrX mx c0 s0 A P T h0 na0 h1 na k fa me lv fr it en v nt tb nm L ps th w (nI x) d c s) (hB0.s13 rfl) (fun h1 hB1 => ?_)
        refine bp_iload_n (q := 135) 69 rfl rfl rfl rfl ?_
        refine bp_if_eq (q := 138) (tgt := 147) 70 rfl rfl (by decide) (fun z135 => ?_) (fun z135 => ?_)
        · refine bp_vret 76 rfl rfl  ⟨_, rfl, hQ _ ?_⟩
          have y58 := (nI_le_iff (by omega) (by omega)).mp z58
          have e_ : dgE T 0 k d x = (k, d, x) := by first | rfl | (rw [dgE, if_neg (by rw [tc_out y58]; decide)])
          obtain ⟨e91, e92, e93⟩ : k = kk ∧ d = dd ∧ x = xx := by simpa using e_.symm.trans he
          rw [← e91, ← e92, ← e93]
          rw [if_neg (show ¬ d = 0 from fun q => z126 (by rw [q]; decide))]
          have yn : ng = false := bI0.mp z135
          subst yn
          exact hB1
        · refine bp_aload_n (q := 139) 71 rfl rfl rfl rfl ?_
          refine bp_aload_n (q := 140) 72 rfl rfl rfl rfl ?_
          refine bp_getI (q := 143) (ci := 3) (j := 9) 73 rfl rfl fl_BR_161_3 hB1.kb rfl ?_
          rw [hB1.i9]
          refine bp_ineg (q := 144) 74 rfl rfl ?_
          refine bp_putI (q := 147) (ci := 3) (j := 9) 75 rfl rfl fl_BR_161_3 cl3 hB1.kb (fun r hr => by cases hr; rfl) (by decide) rfl rfl ?_
          refine bp_nx (X := fun h2 => BrX mx c0 s0 A P T h0 na0 h2 na k fa me lv fr it en v nt tb nm L ps th w (- nI x) d c s) (hB1.s9 rfl) (fun h2 hB2 => ?_)
          refine bp_vret 76 rfl rfl  ⟨_, rfl, hQ _ ?_⟩
          have y58 := (nI_le_iff (by omega) (by omega)).mp z58
          have e_ : dgE T 0 k d x = (k, d, x) := by first | rfl | (rw [dgE, if_neg (by rw [tc_out y58]; decide)])
          obtain ⟨e91, e92, e93⟩ : k = kk ∧ d = dd ∧ x = xx := by simpa using e_.symm.trans he
          rw [← e91, ← e92, ← e93]
          rw [if_neg (show ¬ d = 0 from fun q => z126 (by rw [q]; decide))]
          have yn : ng = true := bI1 z135
          subst yn
          exact hB2
    · exact absurd (nI_le (by omega) (by omega)) z58
  | succ m ih =>
    intro h d x hB0 k hm hk hdk he
    refine bp_iload_n (q := 51) 27 rfl rfl rfl rfl ?_
    refine bp_aload_n (q := 52) 28 rfl rfl rfl rfl ?_
    refine bp_getR (x := A 6) (q := 55) (ci := 3) (j := 11) 29 rfl rfl fl_BR_52_3 hB0.kb rfl hB0.r11 ?_
    refine bp_callV (q := 58) (ci := 1) 30 rfl rfl cw_Row_size lk_BR_86 rfl hB0.kx wd455 wd456 rfl rfl (Nat.le_of_ble_eq_true rfl) ⟨Nat.le_of_ble_eq_true rfl, Nat.le_of_ble_eq_true rfl⟩ (s_Row_size (ro := false) hB0.tx ?_)
    refine bp_icmp_ge (q := 61) (tgt := 122) 31 rfl rfl (by decide) (fun z58 => ?_) (fun z58 => ?_)
    · refine bp_aload_n (q := 123) 63 rfl rfl rfl rfl ?_
      refine bp_getI (q := 126) (ci := 3) (j := 10) 64 rfl rfl fl_BR_164_3 hB0.kb rfl ?_
      rw [hB0.i10]
      refine bp_if_le (q := 129) (tgt := 134) 65 rfl rfl (by decide) (fun z126 => ?_) (fun z126 => ?_)
      · refine bp_iload_n (q := 135) 69 rfl rfl rfl rfl ?_
        refine bp_if_eq (q := 138) (tgt := 147) 70 rfl rfl (by decide) (fun z135 => ?_) (fun z135 => ?_)
        · refine bp_vret 76 rfl rfl  ⟨_, rfl, hQ _ ?_⟩
          have y58 := (nI_le_iff (by omega) (by omega)).mp z58
          have e_ : dgE T (m + 1) k d x = (k, d, x) := by first | rfl | (rw [dgE, if_neg (by rw [tc_out y58]; decide)])
          obtain ⟨e91, e92, e93⟩ : k = kk ∧ d = dd ∧ x = xx := by simpa using e_.symm.trans he
          rw [← e91, ← e92, ← e93]
          rw [if_pos (show d = 0 by have := (nI_le_iff (b := 0) (by omega) (by decide)).mp z126; omega)]
          have yn : ng = false := bI0.mp z135
          subst yn
          exact hB0
        · refine bp_aload_n (q := 139) 71 rfl rfl rfl rfl ?_
          refine bp_aload_n (q := 140) 72 rfl rfl rfl rfl ?_
          refine bp_getI (q := 143) (ci := 3) (j := 9) 73 rfl rfl fl_BR_161_3 hB0.kb rfl ?_
          rw [hB0.i9]
          refine bp_ineg (q := 144) 74 rfl rfl ?_
          refine bp_putI (q := 147) (ci := 3) (j := 9) 75 rfl rfl fl_BR_161_3 cl3 hB0.kb (fun r hr => by cases hr; rfl) (by decide) rfl rfl ?_
          refine bp_nx (X := fun h1 => BrX mx c0 s0 A P T h0 na0 h1 na i fa me lv fr it en v nt tb nm L ps th w (- nI x) d c s) (hB0.s9 rfl) (fun h1 hB1 => ?_)
          refine bp_vret 76 rfl rfl  ⟨_, rfl, hQ _ ?_⟩
          have y58 := (nI_le_iff (by omega) (by omega)).mp z58
          have e_ : dgE T (m + 1) k d x = (k, d, x) := by first | rfl | (rw [dgE, if_neg (by rw [tc_out y58]; decide)])
          obtain ⟨e91, e92, e93⟩ : k = kk ∧ d = dd ∧ x = xx := by simpa using e_.symm.trans he
          rw [← e91, ← e92, ← e93]
          rw [if_pos (show d = 0 by have := (nI_le_iff (b := 0) (by omega) (by decide)).mp z126; omega)]
          have yn : ng = true := bI1 z135
          subst yn
          exact hB1
      · refine bp_aload_n (q := 130) 66 rfl rfl rfl rfl ?_
        refine bp_iload_n (q := 131) 67 rfl rfl rfl rfl ?_
        refine bp_putI (q := 134) (ci := 3) (j := 13) 68 rfl rfl fl_BR_66_3 cl3 hB0.kb (fun r hr => by cases hr; rfl) (by decide) rfl rfl ?_
        refine bp_nx (X := fun h1 => BrX mx c0 s0 A P T h0 na0 h1 na k fa me lv fr it en v nt tb nm L ps th w (nI x) d c s) (hB0.s13 rfl) (fun h1 hB1 => ?_)
        refine bp_iload_n (q := 135) 69 rfl rfl rfl rfl ?_
        refine bp_if_eq (q := 138) (tgt := 147) 70 rfl rfl (by decide) (fun z135 => ?_) (fun z135 => ?_)
        · refine bp_vret 76 rfl rfl  ⟨_, rfl, hQ _ ?_⟩
          have y58 := (nI_le_iff (by omega) (by omega)).mp z58
          have e_ : dgE T (m + 1) k d x = (k, d, x) := by first | rfl | (rw [dgE, if_neg (by rw [tc_out y58]; decide)])
          obtain ⟨e91, e92, e93⟩ : k = kk ∧ d = dd ∧ x = xx := by simpa using e_.symm.trans he
          rw [← e91, ← e92, ← e93]
          rw [if_neg (show ¬ d = 0 from fun q => z126 (by rw [q]; decide))]
          have yn : ng = false := bI0.mp z135
          subst yn
          exact hB1
        · refine bp_aload_n (q := 139) 71 rfl rfl rfl rfl ?_
          refine bp_aload_n (q := 140) 72 rfl rfl rfl rfl ?_
          refine bp_getI (q := 143) (ci := 3) (j := 9) 73 rfl rfl fl_BR_161_3 hB1.kb rfl ?_
          rw [hB1.i9]
          refine bp_ineg (q := 144) 74 rfl rfl ?_
          refine bp_putI (q := 147) (ci := 3) (j := 9) 75 rfl rfl fl_BR_161_3 cl3 hB1.kb (fun r hr => by cases hr; rfl) (by decide) rfl rfl ?_
          refine bp_nx (X := fun h2 => BrX mx c0 s0 A P T h0 na0 h2 na k fa me lv fr it en v nt tb nm L ps th w (- nI x) d c s) (hB1.s9 rfl) (fun h2 hB2 => ?_)
          refine bp_vret 76 rfl rfl  ⟨_, rfl, hQ _ ?_⟩
          have y58 := (nI_le_iff (by omega) (by omega)).mp z58
          have e_ : dgE T (m + 1) k d x = (k, d, x) := by first | rfl | (rw [dgE, if_neg (by rw [tc_out y58]; decide)])
          obtain ⟨e91, e92, e93⟩ : k = kk ∧ d = dd ∧ x = xx := by simpa using e_.symm.trans he
          rw [← e91, ← e92, ← e93]
          rw [if_neg (show ¬ d = 0 from fun q => z126 (by rw [q]; decide))]
          have yn : ng = true := bI1 z135
          subst yn
          exact hB2
    · refine bp_aload_n (q := 62) 32 rfl rfl rfl rfl ?_
      refine bp_getR (x := A 6) (q := 65) (ci := 3) (j := 11) 33 rfl rfl fl_BR_52_3 hB0.kb rfl hB0.r11 ?_
      refine bp_iload_n (q := 66) 34 rfl rfl rfl rfl ?_
      refine bp_callV (q := 69) (ci := 1) 35 rfl rfl cw_Row_get lk_BR_56 rfl hB0.kx wd438 wd439 rfl rfl (Nat.le_of_ble_eq_true rfl) ⟨Nat.le_of_ble_eq_true rfl, Nat.le_of_ble_eq_true rfl⟩ (s_Row_get (ro := false) hB0.tx ?_)
      refine bp_callS (q := 72) 36 rfl rfl cw_X_isDigit lk_BR_141 wd638 rfl rfl (Nat.le_of_ble_eq_true rfl) ⟨Nat.le_of_ble_eq_true rfl, Nat.le_of_ble_eq_true rfl⟩ (s_X_isDigit (ro := false) ?_)
      refine bp_if_eq (q := 75) (tgt := 122) 37 rfl rfl (by decide) (fun z72 => ?_) (fun z72 => ?_)
      · refine bp_aload_n (q := 123) 63 rfl rfl rfl rfl ?_
        refine bp_getI (q := 126) (ci := 3) (j := 10) 64 rfl rfl fl_BR_164_3 hB0.kb rfl ?_
        rw [hB0.i10]
        refine bp_if_le (q := 129) (tgt := 134) 65 rfl rfl (by decide) (fun z126 => ?_) (fun z126 => ?_)
        · refine bp_iload_n (q := 135) 69 rfl rfl rfl rfl ?_
          refine bp_if_eq (q := 138) (tgt := 147) 70 rfl rfl (by decide) (fun z135 => ?_) (fun z135 => ?_)
          · refine bp_vret 76 rfl rfl  ⟨_, rfl, hQ _ ?_⟩
            have yd := bI0.mp z72
            rw [dgL_rg hT (by omega)] at yd
            have e_ : dgE T (m + 1) k d x = (k, d, x) := by first | rfl | (rw [dgE, if_neg (by rw [yd]; decide)])
            obtain ⟨e91, e92, e93⟩ : k = kk ∧ d = dd ∧ x = xx := by simpa using e_.symm.trans he
            rw [← e91, ← e92, ← e93]
            rw [if_pos (show d = 0 by have := (nI_le_iff (b := 0) (by omega) (by decide)).mp z126; omega)]
            have yn : ng = false := bI0.mp z135
            subst yn
            exact hB0
          · refine bp_aload_n (q := 139) 71 rfl rfl rfl rfl ?_
            refine bp_aload_n (q := 140) 72 rfl rfl rfl rfl ?_
            refine bp_getI (q := 143) (ci := 3) (j := 9) 73 rfl rfl fl_BR_161_3 hB0.kb rfl ?_
            rw [hB0.i9]
            refine bp_ineg (q := 144) 74 rfl rfl ?_
            refine bp_putI (q := 147) (ci := 3) (j := 9) 75 rfl rfl fl_BR_161_3 cl3 hB0.kb (fun r hr => by cases hr; rfl) (by decide) rfl rfl ?_
            refine bp_nx (X := fun h1 => BrX mx c0 s0 A P T h0 na0 h1 na i fa me lv fr it en v nt tb nm L ps th w (- nI x) d c s) (hB0.s9 rfl) (fun h1 hB1 => ?_)
            refine bp_vret 76 rfl rfl  ⟨_, rfl, hQ _ ?_⟩
            have yd := bI0.mp z72
            rw [dgL_rg hT (by omega)] at yd
            have e_ : dgE T (m + 1) k d x = (k, d, x) := by first | rfl | (rw [dgE, if_neg (by rw [yd]; decide)])
            obtain ⟨e91, e92, e93⟩ : k = kk ∧ d = dd ∧ x = xx := by simpa using e_.symm.trans he
            rw [← e91, ← e92, ← e93]
            rw [if_pos (show d = 0 by have := (nI_le_iff (b := 0) (by omega) (by decide)).mp z126; omega)]
            have yn : ng = true := bI1 z135
            subst yn
            exact hB1
        · refine bp_aload_n (q := 130) 66 rfl rfl rfl rfl ?_
          refine bp_iload_n (q := 131) 67 rfl rfl rfl rfl ?_
          refine bp_putI (q := 134) (ci := 3) (j := 13) 68 rfl rfl fl_BR_66_3 cl3 hB0.kb (fun r hr => by cases hr; rfl) (by decide) rfl rfl ?_
          refine bp_nx (X := fun h1 => BrX mx c0 s0 A P T h0 na0 h1 na k fa me lv fr it en v nt tb nm L ps th w (nI x) d c s) (hB0.s13 rfl) (fun h1 hB1 => ?_)
          refine bp_iload_n (q := 135) 69 rfl rfl rfl rfl ?_
          refine bp_if_eq (q := 138) (tgt := 147) 70 rfl rfl (by decide) (fun z135 => ?_) (fun z135 => ?_)
          · refine bp_vret 76 rfl rfl  ⟨_, rfl, hQ _ ?_⟩
            have yd := bI0.mp z72
            rw [dgL_rg hT (by omega)] at yd
            have e_ : dgE T (m + 1) k d x = (k, d, x) := by first | rfl | (rw [dgE, if_neg (by rw [yd]; decide)])
            obtain ⟨e91, e92, e93⟩ : k = kk ∧ d = dd ∧ x = xx := by simpa using e_.symm.trans he
            rw [← e91, ← e92, ← e93]
            rw [if_neg (show ¬ d = 0 from fun q => z126 (by rw [q]; decide))]
            have yn : ng = false := bI0.mp z135
            subst yn
            exact hB1
          · refine bp_aload_n (q := 139) 71 rfl rfl rfl rfl ?_
            refine bp_aload_n (q := 140) 72 rfl rfl rfl rfl ?_
            refine bp_getI (q := 143) (ci := 3) (j := 9) 73 rfl rfl fl_BR_161_3 hB1.kb rfl ?_
            rw [hB1.i9]
            refine bp_ineg (q := 144) 74 rfl rfl ?_
            refine bp_putI (q := 147) (ci := 3) (j := 9) 75 rfl rfl fl_BR_161_3 cl3 hB1.kb (fun r hr => by cases hr; rfl) (by decide) rfl rfl ?_
            refine bp_nx (X := fun h2 => BrX mx c0 s0 A P T h0 na0 h2 na k fa me lv fr it en v nt tb nm L ps th w (- nI x) d c s) (hB1.s9 rfl) (fun h2 hB2 => ?_)
            refine bp_vret 76 rfl rfl  ⟨_, rfl, hQ _ ?_⟩
            have yd := bI0.mp z72
            rw [dgL_rg hT (by omega)] at yd
            have e_ : dgE T (m + 1) k d x = (k, d, x) := by first | rfl | (rw [dgE, if_neg (by rw [yd]; decide)])
            obtain ⟨e91, e92, e93⟩ : k = kk ∧ d = dd ∧ x = xx := by simpa using e_.symm.trans he
            rw [← e91, ← e92, ← e93]
            rw [if_neg (show ¬ d = 0 from fun q => z126 (by rw [q]; decide))]
            have yn : ng = true := bI1 z135
            subst yn
            exact hB2
      · refine bp_aload_n (q := 76) 38 rfl rfl rfl rfl ?_
        refine bp_dup (q := 77) 39 rfl rfl rfl ?_
        refine bp_getI (q := 80) (ci := 3) (j := 10) 40 rfl rfl fl_BR_164_3 hB0.kb rfl ?_
        rw [hB0.i10]
        refine bp_iconst (v := 1) (q := 81) 41 rfl rfl (by decide) ?_
        refine bp_iadd (q := 82) 42 rfl rfl ?_
        refine bp_putI (q := 85) (ci := 3) (j := 10) 43 rfl rfl fl_BR_164_3 cl3 hB0.kb (fun r hr => by cases hr; rfl) (by decide) rfl rfl ?_
        refine bp_nx (X := fun h1 => BrX mx c0 s0 A P T h0 na0 h1 na i fa me lv fr it en v nt tb nm L ps th w (nI x) (d + 1) c s) (hB0.s10 (nI_1 _)) (fun h1 hB1 => ?_)
        refine bp_aload_n (q := 86) 44 rfl rfl rfl rfl ?_
        have yd := bI1 z72
        rw [dgL_rg hT (by omega)] at yd
        have hkl := dg_in yd
        have hd48 : 48 ≤ tc T k := by unfold dgL at yd; simp at yd; exact yd.1
        refine bp_getI (q := 89) (ci := 3) (j := 10) 45 rfl rfl fl_BR_164_3 hB1.kb rfl ?_
        rw [hB1.i10]
        refine bp_iconst (v := 5) (q := 90) 46 rfl rfl (by decide) ?_
        refine bp_icmp_gt (q := 93) (tgt := 116) 47 rfl rfl (by decide) (fun z90 => ?_) (fun z90 => ?_)
        · refine bp_iinc (v := nI (k + 1)) (q := 119) 61 rfl rfl rfl (nI_1 k) (by decide) (bp_up2 rfl) ?_
          refine bp_goto (tgt := 50) 62 rfl (by decide) ?_
          have y90 : ¬ d + 1 ≤ 5 := fun q => absurd z90 (nI_nlt (a := 5) (b := d + 1) q (by decide))
          have e_ : dgE T (m + 1) k d x = dgE T m (k + 1) (d + 1) x := by
            rw [dgE, if_pos yd, if_neg y90]
          rw [e_] at he
          exact ih hB1 (k + 1) (by omega) (by omega) (by omega) he
        · refine bp_aload_n (q := 94) 48 rfl rfl rfl rfl ?_
          refine bp_bipush (v := 10) (q := 96) 49 rfl rfl (by decide) ?_
          refine bp_aload_n (q := 97) 50 rfl rfl rfl rfl ?_
          refine bp_getI (q := 100) (ci := 3) (j := 9) 51 rfl rfl fl_BR_161_3 hB1.kb rfl ?_
          rw [hB1.i9]
          refine bp_imul (q := 101) 52 rfl rfl ?_
          refine bp_aload_n (q := 102) 53 rfl rfl rfl rfl ?_
          refine bp_getR (x := A 6) (q := 105) (ci := 3) (j := 11) 54 rfl rfl fl_BR_52_3 hB1.kb rfl hB1.r11 ?_
          refine bp_iload_n (q := 106) 55 rfl rfl rfl rfl ?_
          refine bp_callV (q := 109) (ci := 1) 56 rfl rfl cw_Row_get lk_BR_56 rfl hB1.kx wd438 wd439 rfl rfl (Nat.le_of_ble_eq_true rfl) ⟨Nat.le_of_ble_eq_true rfl, Nat.le_of_ble_eq_true rfl⟩ (s_Row_get (ro := false) hB1.tx ?_)
          rw [rg_in hT hkl]
          refine bp_iadd (q := 110) 57 rfl rfl ?_
          refine bp_bipush (v := 48) (q := 112) 58 rfl rfl (by decide) ?_
          refine bp_isub (q := 113) 59 rfl rfl ?_
          refine bp_putI (q := 116) (ci := 3) (j := 9) 60 rfl rfl fl_BR_161_3 cl3 hB1.kb (fun r hr => by cases hr; rfl) (by decide) rfl rfl ?_
          refine bp_nx (X := fun h2 => BrX mx c0 s0 A P T h0 na0 h2 na i fa me lv fr it en v nt tb nm L ps th w (nI (10 * x + (tc T k - 48))) (d + 1) c s) (hB1.s9 (dg_val hd48)) (fun h2 hB2 => ?_)
          refine bp_iinc (v := nI (k + 1)) (q := 119) 61 rfl rfl rfl (nI_1 k) (by decide) (bp_up2 rfl) ?_
          refine bp_goto (tgt := 50) 62 rfl (by decide) ?_
          have y90 : d + 1 ≤ 5 := Nat.not_lt.mp (mt (fun q => nI_lt (a := 5) (b := d + 1) q (by omega)) z90)
          have e_ : dgE T (m + 1) k d x = dgE T m (k + 1) (d + 1) (10 * x + (tc T k - 48)) := by
            rw [dgE, if_pos yd, if_pos y90]
          rw [e_] at he
          exact ih hB2 (k + 1) (by omega) (by omega) (by omega) he
set_option maxRecDepth 100000 in
set_option maxHeartbeats 4000000 in
theorem s_BR_readNumber  (hB0 : BrX mx c0 s0 A P T h0 na0 h na i fa me lv fr it en v nt tb nm L ps th w n d c s) (hT : okT T) (hi : i ≤ T.length) (hQ : ∀ h', BrX mx c0 s0 A P T h0 na0 h' na (nuN T i) fa me lv fr it en v nt tb nm L ps th w (nuV T i) (nuD T i) c s → Q none h' c s) : bp_AM l G H0 (1, 21, false, false) M_BR_readNumber h c s [.ref (A 0)] Q := by
  refine bp_of (ls := [some (.ref (A 0)), none, none]) (by decide) dt_BR_readNumber (Nat.le_of_ble_eq_true rfl) (fun q hq => hq) false ?_
  have hT1 := hT.1
  refine bp_aload_n (q := 1) 0 rfl rfl rfl rfl ?_
  refine bp_getR (x := A 6) (q := 4) (ci := 3) (j := 11) 1 rfl rfl fl_BR_52_3 hB0.kb rfl hB0.r11 ?_
  refine bp_aload_n (q := 5) 2 rfl rfl rfl rfl ?_
  refine bp_getI (q := 8) (ci := 3) (j := 13) 3 rfl rfl fl_BR_66_3 hB0.kb rfl ?_
  rw [hB0.i13]
  refine bp_callV (q := 11) (ci := 1) 4 rfl rfl cw_Row_get lk_BR_56 rfl hB0.kx wd438 wd439 rfl rfl (Nat.le_of_ble_eq_true rfl) ⟨Nat.le_of_ble_eq_true rfl, Nat.le_of_ble_eq_true rfl⟩ (s_Row_get (ro := false) hB0.tx ?_)
  refine bp_bipush (v := 45) (q := 13) 5 rfl rfl (by decide) ?_
  refine bp_icmp_ne (q := 16) (tgt := 20) 6 rfl rfl (by decide) (fun z13 => ?_) (fun z13 => ?_)
  · refine bp_iconst (v := 0) (q := 21) 9 rfl rfl (by decide) ?_
    refine bp_istore_n (q := 22) 10 rfl rfl rfl (by decide) (bp_up1 rfl) ?_
    refine bp_iload_n (q := 23) 11 rfl rfl rfl rfl ?_
    refine bp_if_eq (q := 26) (tgt := 35) 12 rfl rfl (by decide) (fun z23 => ?_) (fun z23 => ?_)
    · refine bp_aload_n (q := 36) 18 rfl rfl rfl rfl ?_
      refine bp_getI (q := 39) (ci := 3) (j := 13) 19 rfl rfl fl_BR_66_3 hB0.kb rfl ?_
      rw [hB0.i13]
      refine bp_istore_n (q := 40) 20 rfl rfl rfl (by decide) (bp_up2 rfl) ?_
      refine bp_aload_n (q := 41) 21 rfl rfl rfl rfl ?_
      refine bp_iconst (v := 0) (q := 42) 22 rfl rfl (by decide) ?_
      refine bp_putI (q := 45) (ci := 3) (j := 9) 23 rfl rfl fl_BR_161_3 cl3 hB0.kb (fun r hr => by cases hr; rfl) (by decide) rfl rfl ?_
      refine bp_nx (X := fun h1 => BrX mx c0 s0 A P T h0 na0 h1 na i fa me lv fr it en v nt tb nm L ps th w (nI 0) d c s) (hB0.s9 rfl) (fun h1 hB1 => ?_)
      refine bp_aload_n (q := 46) 24 rfl rfl rfl rfl ?_
      refine bp_iconst (v := 0) (q := 47) 25 rfl rfl (by decide) ?_
      refine bp_putI (q := 50) (ci := 3) (j := 10) 26 rfl rfl fl_BR_164_3 cl3 hB1.kb (fun r hr => by cases hr; rfl) (by decide) rfl rfl ?_
      refine bp_nx (X := fun h2 => BrX mx c0 s0 A P T h0 na0 h2 na i fa me lv fr it en v nt tb nm L ps th w (nI 0) 0 c s) (hB1.s10 rfl) (fun h2 hB2 => ?_)
      have y13 : ¬ tc T i = 45 := mt (rg_is hT (v := 45) (by omega) (by decide) (by decide)).mpr z13
      have ek : nuK T i = i := if_neg y13
      have hk := nuK_in hi
      have e9 : dgE T (T.length - nuK T i) (nuK T i) 0 0 = ((nuX T i).1, (nuX T i).2.1, (nuX T i).2.2) := rfl
      refine lp_BR_num (ng := false) (kk := (nuX T i).1) (dd := (nuX T i).2.1) (xx := (nuX T i).2.2) hT (fun h9 hB9 => hQ h9 ?_) (T.length - (i)) hB2 (i) (by omega) (by omega) (Nat.zero_le _) (by rw [ek] at e9; exact e9)
      have e1 : nuN T i = (if (nuX T i).2.1 = 0 then i else (nuX T i).1) := rfl
      have e2 : nuV T i = (if false then - nI (nuX T i).2.2 else nI (nuX T i).2.2) := (if_neg y13).trans (by rfl)
      rw [e1, e2]
      exact hB9
    · refine bp_aload_n (q := 27) 13 rfl rfl rfl rfl ?_
      refine bp_getI (q := 30) (ci := 3) (j := 13) 14 rfl rfl fl_BR_66_3 hB0.kb rfl ?_
      rw [hB0.i13]
      refine bp_iconst (v := 1) (q := 31) 15 rfl rfl (by decide) ?_
      refine bp_iadd (q := 32) 16 rfl rfl ?_
      rw [nI_1]
      refine bp_goto (tgt := 39) 17 rfl (by decide) ?_
      refine bp_istore_n (q := 40) 20 rfl rfl rfl (by decide) (bp_up2 rfl) ?_
      refine bp_aload_n (q := 41) 21 rfl rfl rfl rfl ?_
      refine bp_iconst (v := 0) (q := 42) 22 rfl rfl (by decide) ?_
      refine bp_putI (q := 45) (ci := 3) (j := 9) 23 rfl rfl fl_BR_161_3 cl3 hB0.kb (fun r hr => by cases hr; rfl) (by decide) rfl rfl ?_
      refine bp_nx (X := fun h1 => BrX mx c0 s0 A P T h0 na0 h1 na i fa me lv fr it en v nt tb nm L ps th w (nI 0) d c s) (hB0.s9 rfl) (fun h1 hB1 => ?_)
      refine bp_aload_n (q := 46) 24 rfl rfl rfl rfl ?_
      refine bp_iconst (v := 0) (q := 47) 25 rfl rfl (by decide) ?_
      refine bp_putI (q := 50) (ci := 3) (j := 10) 26 rfl rfl fl_BR_164_3 cl3 hB1.kb (fun r hr => by cases hr; rfl) (by decide) rfl rfl ?_
      refine bp_nx (X := fun h2 => BrX mx c0 s0 A P T h0 na0 h2 na i fa me lv fr it en v nt tb nm L ps th w (nI 0) 0 c s) (hB1.s10 rfl) (fun h2 hB2 => ?_)
      exact absurd rfl z23
  · refine bp_iconst (v := 1) (q := 17) 7 rfl rfl (by decide) ?_
    refine bp_goto (tgt := 21) 8 rfl (by decide) ?_
    refine bp_istore_n (q := 22) 10 rfl rfl rfl (by decide) (bp_up1 rfl) ?_
    refine bp_iload_n (q := 23) 11 rfl rfl rfl rfl ?_
    refine bp_if_eq (q := 26) (tgt := 35) 12 rfl rfl (by decide) (fun z23 => ?_) (fun z23 => ?_)
    · refine bp_aload_n (q := 36) 18 rfl rfl rfl rfl ?_
      refine bp_getI (q := 39) (ci := 3) (j := 13) 19 rfl rfl fl_BR_66_3 hB0.kb rfl ?_
      rw [hB0.i13]
      refine bp_istore_n (q := 40) 20 rfl rfl rfl (by decide) (bp_up2 rfl) ?_
      refine bp_aload_n (q := 41) 21 rfl rfl rfl rfl ?_
      refine bp_iconst (v := 0) (q := 42) 22 rfl rfl (by decide) ?_
      refine bp_putI (q := 45) (ci := 3) (j := 9) 23 rfl rfl fl_BR_161_3 cl3 hB0.kb (fun r hr => by cases hr; rfl) (by decide) rfl rfl ?_
      refine bp_nx (X := fun h1 => BrX mx c0 s0 A P T h0 na0 h1 na i fa me lv fr it en v nt tb nm L ps th w (nI 0) d c s) (hB0.s9 rfl) (fun h1 hB1 => ?_)
      refine bp_aload_n (q := 46) 24 rfl rfl rfl rfl ?_
      refine bp_iconst (v := 0) (q := 47) 25 rfl rfl (by decide) ?_
      refine bp_putI (q := 50) (ci := 3) (j := 10) 26 rfl rfl fl_BR_164_3 cl3 hB1.kb (fun r hr => by cases hr; rfl) (by decide) rfl rfl ?_
      refine bp_nx (X := fun h2 => BrX mx c0 s0 A P T h0 na0 h2 na i fa me lv fr it en v nt tb nm L ps th w (nI 0) 0 c s) (hB1.s10 rfl) (fun h2 hB2 => ?_)
      exact absurd z23 (by decide)
    · refine bp_aload_n (q := 27) 13 rfl rfl rfl rfl ?_
      refine bp_getI (q := 30) (ci := 3) (j := 13) 14 rfl rfl fl_BR_66_3 hB0.kb rfl ?_
      rw [hB0.i13]
      refine bp_iconst (v := 1) (q := 31) 15 rfl rfl (by decide) ?_
      refine bp_iadd (q := 32) 16 rfl rfl ?_
      rw [nI_1]
      refine bp_goto (tgt := 39) 17 rfl (by decide) ?_
      refine bp_istore_n (q := 40) 20 rfl rfl rfl (by decide) (bp_up2 rfl) ?_
      refine bp_aload_n (q := 41) 21 rfl rfl rfl rfl ?_
      refine bp_iconst (v := 0) (q := 42) 22 rfl rfl (by decide) ?_
      refine bp_putI (q := 45) (ci := 3) (j := 9) 23 rfl rfl fl_BR_161_3 cl3 hB0.kb (fun r hr => by cases hr; rfl) (by decide) rfl rfl ?_
      refine bp_nx (X := fun h1 => BrX mx c0 s0 A P T h0 na0 h1 na i fa me lv fr it en v nt tb nm L ps th w (nI 0) d c s) (hB0.s9 rfl) (fun h1 hB1 => ?_)
      refine bp_aload_n (q := 46) 24 rfl rfl rfl rfl ?_
      refine bp_iconst (v := 0) (q := 47) 25 rfl rfl (by decide) ?_
      refine bp_putI (q := 50) (ci := 3) (j := 10) 26 rfl rfl fl_BR_164_3 cl3 hB1.kb (fun r hr => by cases hr; rfl) (by decide) rfl rfl ?_
      refine bp_nx (X := fun h2 => BrX mx c0 s0 A P T h0 na0 h2 na i fa me lv fr it en v nt tb nm L ps th w (nI 0) 0 c s) (hB1.s10 rfl) (fun h2 hB2 => ?_)
      have y13 : tc T i = 45 := (rg_is hT (v := 45) (by omega) (by decide) (by decide)).mp z13
      have ek : nuK T i = i + 1 := if_pos y13
      have hk := nuK_in hi
      have e9 : dgE T (T.length - nuK T i) (nuK T i) 0 0 = ((nuX T i).1, (nuX T i).2.1, (nuX T i).2.2) := rfl
      refine lp_BR_num (ng := true) (kk := (nuX T i).1) (dd := (nuX T i).2.1) (xx := (nuX T i).2.2) hT (fun h9 hB9 => hQ h9 ?_) (T.length - (i + 1)) hB2 (i + 1) (by omega) (by omega) (Nat.zero_le _) (by rw [ek] at e9; exact e9)
      have e1 : nuN T i = (if (nuX T i).2.1 = 0 then i else (nuX T i).1) := rfl
      have e2 : nuV T i = (if true then - nI (nuX T i).2.2 else nI (nuX T i).2.2) := (if_pos y13).trans (by rfl)
      rw [e1, e2]
      exact hB9
set_option maxRecDepth 100000 in
set_option maxHeartbeats 4000000 in
theorem tl_BR_word {u k : Nat} (hT : okT T) (hB0 : BrX mx c0 s0 A P T h0 na0 h na i fa me lv fr it en v nt tb nm L ps th w n d c s) (hu : u < 1000) (hk : k ≤ T.length) (hQ : ∀ h', BrX mx c0 s0 A P T h0 na0 h' na ((if tc T (nuN T k) = 32 then nuN T k + 1 else nuN T k)) fa me lv fr it en v nt tb nm L ps th (wdf T u k 15 1) (nuV T k) (nuD T k) c s → Q none h' c s) : bp_A l G H0 (6, 132, false, false) M_BR_readWord h c s 40 [some (.ref (A 0)), some (.int (nI u)), some (.int (nI k))] [] (fun o h' c' s' => ∃ v, o = .returned v ∧ Q v h' c' s') := by
  have hT1 := hT.1
  have hb : ∀ j, j < T.length → T.getD j 0 < 1000000 := fun j hj => by have := (hT.2 j hj).2; omega
  refine bp_aload_n (q := 41) 20 rfl rfl rfl rfl ?_
  refine bp_aload_n (q := 42) 21 rfl rfl rfl rfl ?_
  refine bp_iload_n (q := 43) 22 rfl rfl rfl rfl ?_
  refine bp_iload_n (q := 44) 23 rfl rfl rfl rfl ?_
  refine bp_callV (q := 47) (ci := 3) 24 rfl rfl cw_BR_wordOf lk_BR_151 rfl hB0.kb wd611 wd7 rfl rfl (Nat.le_of_ble_eq_true rfl) ⟨Nat.le_of_ble_eq_true rfl, Nat.le_of_ble_eq_true rfl⟩ (s_BR_wordOf (ro := false) (u := u) (x := k) hB0 hb (by omega) (by omega) ?_)
  refine bp_putI (q := 50) (ci := 3) (j := 8) 25 rfl rfl fl_BR_155_3 cl3 hB0.kb (fun r hr => by cases hr; rfl) (by decide) rfl rfl ?_
  refine bp_nx (X := fun h1 => BrX mx c0 s0 A P T h0 na0 h1 na i fa me lv fr it en v nt tb nm L ps th (wdf T u k 15 1) n d c s) (hB0.s8 rfl) (fun h1 hB1 => ?_)
  refine bp_aload_n (q := 51) 26 rfl rfl rfl rfl ?_
  refine bp_iload_n (q := 52) 27 rfl rfl rfl rfl ?_
  refine bp_putI (q := 55) (ci := 3) (j := 13) 28 rfl rfl fl_BR_66_3 cl3 hB1.kb (fun r hr => by cases hr; rfl) (by decide) rfl rfl ?_
  refine bp_nx (X := fun h2 => BrX mx c0 s0 A P T h0 na0 h2 na k fa me lv fr it en v nt tb nm L ps th (wdf T u k 15 1) n d c s) (hB1.s13 rfl) (fun h2 hB2 => ?_)
  refine bp_aload_n (q := 56) 29 rfl rfl rfl rfl ?_
  refine bp_callV (q := 59) (ci := 3) 30 rfl rfl cw_BR_readNumber lk_BR_158 rfl hB2.kb wd635 wd8 rfl rfl (Nat.le_of_ble_eq_true rfl) ⟨Nat.le_of_ble_eq_true rfl, Nat.le_of_ble_eq_true rfl⟩ (s_BR_readNumber hB2 hT hk (fun h3 hB3 => ?_))
  refine bp_aload_n (q := 60) 31 rfl rfl rfl rfl ?_
  refine bp_getR (x := A 6) (q := 63) (ci := 3) (j := 11) 32 rfl rfl fl_BR_52_3 hB3.kb rfl hB3.r11 ?_
  refine bp_aload_n (q := 64) 33 rfl rfl rfl rfl ?_
  refine bp_getI (q := 67) (ci := 3) (j := 13) 34 rfl rfl fl_BR_66_3 hB3.kb rfl ?_
  rw [hB3.i13]
  refine bp_callV (q := 70) (ci := 1) 35 rfl rfl cw_Row_get lk_BR_56 rfl hB3.kx wd438 wd439 rfl rfl (Nat.le_of_ble_eq_true rfl) ⟨Nat.le_of_ble_eq_true rfl, Nat.le_of_ble_eq_true rfl⟩ (s_Row_get (ro := false) hB3.tx ?_)
  refine bp_bipush (v := 32) (q := 72) 36 rfl rfl (by decide) ?_
  refine bp_icmp_ne (q := 75) (tgt := 85) 37 rfl rfl (by decide) (fun z72 => ?_) (fun z72 => ?_)
  · refine bp_vret 44 rfl rfl  ⟨_, rfl, hQ _ ?_⟩
    have y := mt (rg_is hT (k := nuN T k) (v := 32) (by have := nuN_in hk; omega) (by decide) (by decide)).mpr z72
    rw [if_neg y]
    exact hB3
  · refine bp_aload_n (q := 76) 38 rfl rfl rfl rfl ?_
    refine bp_dup (q := 77) 39 rfl rfl rfl ?_
    refine bp_getI (q := 80) (ci := 3) (j := 13) 40 rfl rfl fl_BR_66_3 hB3.kb rfl ?_
    rw [hB3.i13]
    refine bp_iconst (v := 1) (q := 81) 41 rfl rfl (by decide) ?_
    refine bp_iadd (q := 82) 42 rfl rfl ?_
    refine bp_putI (q := 85) (ci := 3) (j := 13) 43 rfl rfl fl_BR_66_3 cl3 hB3.kb (fun r hr => by cases hr; rfl) (by decide) rfl rfl ?_
    refine bp_nx (X := fun h4 => BrX mx c0 s0 A P T h0 na0 h4 na (nuN T k + 1) fa me lv fr it en v nt tb nm L ps th (wdf T u k 15 1) (nuV T k) (nuD T k) c s) (hB3.s13 (nI_1 _)) (fun h4 hB4 => ?_)
    refine bp_vret 44 rfl rfl  ⟨_, rfl, hQ _ ?_⟩
    have y := (rg_is hT (v := 32) (by have := nuN_in hk; omega) (by decide) (by decide)).mp z72
    rw [if_pos y]
    exact hB4
set_option maxRecDepth 100000 in
set_option maxHeartbeats 4000000 in
theorem lp_BR_word {u : Nat} (hT : okT T) (hB0 : BrX mx c0 s0 A P T h0 na0 h na i fa me lv fr it en v nt tb nm L ps th w n d c s) (hu : u < 1000) : ∀ (m k : Nat), T.length ≤ m + k → k ≤ T.length → (∀ h', BrX mx c0 s0 A P T h0 na0 h' na ((if tc T (nuN T (slE T m k)) = 32 then nuN T (slE T m k) + 1 else nuN T (slE T m k))) fa me lv fr it en v nt tb nm L ps th (wdf T u (slE T m k) 15 1) (nuV T (slE T m k)) (nuD T (slE T m k)) c s → Q none h' c s) → bp_A l G H0 (6, 132, false, false) M_BR_readWord h c s 9 [some (.ref (A 0)), some (.int (nI u)), some (.int (nI k))] [] (fun o h' c' s' => ∃ v, o = .returned v ∧ Q v h' c' s') := by
  have hT1 := hT.1
  intro m
  induction m with
  | zero =>
    intro k hm hk hQ
    refine bp_iload_n (q := 10) 7 rfl rfl rfl rfl ?_
    refine bp_aload_n (q := 11) 8 rfl rfl rfl rfl ?_
    refine bp_getR (x := A 6) (q := 14) (ci := 3) (j := 11) 9 rfl rfl fl_BR_52_3 hB0.kb rfl hB0.r11 ?_
    refine bp_callV (q := 17) (ci := 1) 10 rfl rfl cw_Row_size lk_BR_86 rfl hB0.kx wd455 wd456 rfl rfl (Nat.le_of_ble_eq_true rfl) ⟨Nat.le_of_ble_eq_true rfl, Nat.le_of_ble_eq_true rfl⟩ (s_Row_size (ro := false) hB0.tx ?_)
    refine bp_icmp_ge (q := 20) (tgt := 40) 11 rfl rfl (by decide) (fun z17 => ?_) (fun z17 => ?_)
    · exact tl_BR_word hT hB0 hu hk hQ
    · exact absurd (nI_le (by omega) (by omega)) z17
  | succ m ih =>
    intro k hm hk hQ
    refine bp_iload_n (q := 10) 7 rfl rfl rfl rfl ?_
    refine bp_aload_n (q := 11) 8 rfl rfl rfl rfl ?_
    refine bp_getR (x := A 6) (q := 14) (ci := 3) (j := 11) 9 rfl rfl fl_BR_52_3 hB0.kb rfl hB0.r11 ?_
    refine bp_callV (q := 17) (ci := 1) 10 rfl rfl cw_Row_size lk_BR_86 rfl hB0.kx wd455 wd456 rfl rfl (Nat.le_of_ble_eq_true rfl) ⟨Nat.le_of_ble_eq_true rfl, Nat.le_of_ble_eq_true rfl⟩ (s_Row_size (ro := false) hB0.tx ?_)
    refine bp_icmp_ge (q := 20) (tgt := 40) 11 rfl rfl (by decide) (fun z17 => ?_) (fun z17 => ?_)
    · refine tl_BR_word hT hB0 hu hk (fun h9 hB9 => hQ h9 ?_)
      have y := (nI_le_iff (by omega) (by omega)).mp z17
      have es : slE T (m + 1) k = k := by rw [slE, if_neg (by rw [tc_out y]; decide)]
      rw [es]
      exact hB9
    · refine bp_aload_n (q := 21) 12 rfl rfl rfl rfl ?_
      refine bp_getR (x := A 6) (q := 24) (ci := 3) (j := 11) 13 rfl rfl fl_BR_52_3 hB0.kb rfl hB0.r11 ?_
      refine bp_iload_n (q := 25) 14 rfl rfl rfl rfl ?_
      refine bp_callV (q := 28) (ci := 1) 15 rfl rfl cw_Row_get lk_BR_56 rfl hB0.kx wd438 wd439 rfl rfl (Nat.le_of_ble_eq_true rfl) ⟨Nat.le_of_ble_eq_true rfl, Nat.le_of_ble_eq_true rfl⟩ (s_Row_get (ro := false) hB0.tx ?_)
      refine bp_callS (q := 31) 16 rfl rfl cw_X_isSmallLetter lk_BR_113 wd478 rfl rfl (Nat.le_of_ble_eq_true rfl) ⟨Nat.le_of_ble_eq_true rfl, Nat.le_of_ble_eq_true rfl⟩ (s_X_isSmallLetter (ro := false) ?_)
      refine bp_if_eq (q := 34) (tgt := 40) 17 rfl rfl (by decide) (fun z31 => ?_) (fun z31 => ?_)
      · refine tl_BR_word hT hB0 hu hk (fun h9 hB9 => hQ h9 ?_)
        have y := bI0.mp z31
        rw [smL_rg hT (by omega)] at y
        have es : slE T (m + 1) k = k := by rw [slE, if_neg (by rw [y]; decide)]
        rw [es]
        exact hB9
      · refine bp_iinc (v := nI (k + 1)) (q := 37) 18 rfl rfl rfl (nI_1 k) (by decide) (bp_up2 rfl) ?_
        refine bp_goto (tgt := 9) 19 rfl (by decide) ?_
        have y := bI1 z31
        rw [smL_rg hT (by omega)] at y
        have hkl := sm_in y
        refine ih (k + 1) (by omega) hkl (fun h9 hB9 => hQ h9 ?_)
        rw [slE, if_pos y]
        exact hB9
set_option maxRecDepth 100000 in
set_option maxHeartbeats 4000000 in
theorem s_BR_readWord  (hB0 : BrX mx c0 s0 A P T h0 na0 h na i fa me lv fr it en v nt tb nm L ps th w n d c s) (hT : okT T) (hi : i + 1 ≤ T.length) (hQ : ∀ h', BrX mx c0 s0 A P T h0 na0 h' na (wdN T i) fa me lv fr it en v nt tb nm L ps th (wdW T i) ((nuV T (wdT T i))) ((nuD T (wdT T i))) c s → Q none h' c s) : bp_AM l G H0 (6, 132, false, false) M_BR_readWord h c s [.ref (A 0)] Q := by
  refine bp_of (ls := [some (.ref (A 0)), none, none]) (by decide) dt_BR_readWord (Nat.le_of_ble_eq_true rfl) (fun q hq => hq) false ?_
  have hT1 := hT.1
  refine bp_aload_n (q := 1) 0 rfl rfl rfl rfl ?_
  refine bp_getI (q := 4) (ci := 3) (j := 13) 1 rfl rfl fl_BR_66_3 hB0.kb rfl ?_
  rw [hB0.i13]
  refine bp_iconst (v := 1) (q := 5) 2 rfl rfl (by decide) ?_
  refine bp_iadd (q := 6) 3 rfl rfl ?_
  rw [nI_1]
  refine bp_istore_n (q := 7) 4 rfl rfl rfl (by decide) (bp_up1 rfl) ?_
  refine bp_iload_n (q := 8) 5 rfl rfl rfl rfl ?_
  refine bp_istore_n (q := 9) 6 rfl rfl rfl (by decide) (bp_up2 rfl) ?_
  exact lp_BR_word hT hB0 (by omega) (T.length - (i + 1)) (i + 1) (by omega) hi hQ
end BR2
