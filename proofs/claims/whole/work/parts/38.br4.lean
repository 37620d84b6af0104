/-! the braced reader: a thing, the end, the whole reading -/
section BR4
variable {l : Launch} {G : bp_G} {H0 : Heap} {mx c0 s0 : Nat} {A P : Nat → Nat} {T : List Nat} {h0 : bp_H} {na0 : Nat} {h : bp_H} {na i : Nat} {fa me : Int32} {lv : Nat} {fr it en : Bool} {v : Nat → Nat} {nt : List (Nat → Nat)} {tb nm : List Nat} {L : List (Nat × Nat)} {ps : List (Nat × Nat × Nat)} {th w : Nat} {n : Int32} {d c s : Nat} {Q : Option Value → bp_H → Nat → Nat → Prop}
set_option maxRecDepth 100000 in
set_option maxHeartbeats 4000000 in
theorem s_BR_tableChar {x : Nat} (hB0 : BrX mx c0 s0 A P T h0 na0 h na i fa me lv fr it en v nt tb nm L ps th w n d c s) (hx : x < 128) (hn : nm.length < mx) (hn2 : nm.length ≤ 400) (hnmb : ∀ j, j < nm.length → nm.getD j 0 < 1000000) (hmx : mx < 100000) (hQ : ∀ h' na' c' s', Br mx c0 s0 A P T h0 na0 h' na' (bTab th x (i, fa, me, lv, fr, it, en, v, nt, tb, nm, L, ps)) (th, w, n, d) c' s' → Q none h' c' s') : bp_AM l G H0 (7, 151, false, false) M_BR_readTableCharacter h c s [.ref (A 0), .int (nI x)] Q := by
  refine bp_of (ls := [some (.ref (A 0)), some (.int (nI x))]) (by decide) dt_BR_readTableCharacter (Nat.le_of_ble_eq_true rfl) (fun q hq => hq) false ?_
  refine bp_iload_n (q := 1) 0 rfl rfl rfl rfl ?_
  refine bp_callS (q := 4) 1 rfl rfl cw_X_isSmallLetter lk_BR_113 wd478 rfl rfl (Nat.le_of_ble_eq_true rfl) ⟨Nat.le_of_ble_eq_true rfl, Nat.le_of_ble_eq_true rfl⟩ (s_X_isSmallLetter (ro := false) ?_)
  refine bp_if_eq (q := 7) (tgt := 28) 2 rfl rfl (by decide) (fun z4 => ?_) (fun z4 => ?_)
  · refine bp_iload_n (q := 29) 14 rfl rfl rfl rfl ?_
    refine bp_bipush (v := 59) (q := 31) 15 rfl rfl (by decide) ?_
    refine bp_icmp_ne (q := 34) (tgt := 57) 16 rfl rfl (by decide) (fun z31 => ?_) (fun z31 => ?_)
    · refine bp_iload_n (q := 58) 28 rfl rfl rfl rfl ?_
      refine bp_bipush (v := 125) (q := 60) 29 rfl rfl (by decide) ?_
      refine bp_icmp_ne (q := 63) (tgt := 85) 30 rfl rfl (by decide) (fun z60 => ?_) (fun z60 => ?_)
      · refine bp_aload_n (q := 86) 41 rfl rfl rfl rfl ?_
        refine bp_bipush (v := -6) (q := 88) 42 rfl rfl (by decide) ?_
        refine bp_callU (q := 91) (ci := 3) (owner := "BracedPages$Reader") 43 rfl rfl cw_Rd_fail wd590 wd591 (Or.inr rfl) ⟨by decide, by decide⟩ rfl rfl hB0.kb wd594 wd593 rfl rfl (Nat.le_of_ble_eq_true rfl) ⟨Nat.le_of_ble_eq_true rfl, Nat.le_of_ble_eq_true rfl⟩ (s_BR_fail hB0 (fun h1 hB1 => ?_))
        refine bp_vret 44 rfl rfl  ⟨_, rfl, ?_⟩
        have y4 : ¬ smL x = true := by rw [show smL x = _ from (wi_nI (n := x) (a := 97) (b := 122) (by omega) (by decide) (by decide)).symm.trans (bI0.mp z4)]; decide
        have y31 : ¬ x = 59 := fun q => z31 (by rw [q]; rfl)
        have y60 : ¬ x = 125 := fun q => z60 (by rw [q]; rfl)
        have e_ : bTab th x (i, fa, me, lv, fr, it, en, v, nt, tb, nm, L, ps) = (i, -6, nI th, lv, fr, it, en, v, nt, tb, nm, L, ps) := (if_neg y4).trans ((if_neg (fun q => y31 q.1)).trans (if_neg y60))
        exact hQ _ _ _ _ (Br.cast (τ := (th, w, n, d)) e_ hB1)
      · refine bp_aload_n (q := 64) 31 rfl rfl rfl rfl ?_
        refine bp_getR (x := A 3) (q := 67) (ci := 3) (j := 2) 32 rfl rfl fl_BR_27_3 hB0.kb rfl hB0.r2 ?_
        refine bp_callV (q := 70) (ci := 5) 33 rfl rfl cw_CT_end lk_BR_260 rfl hB0.kt wd578 wd579 rfl rfl (Nat.le_of_ble_eq_true rfl) ⟨Nat.le_of_ble_eq_true rfl, Nat.le_of_ble_eq_true rfl⟩ (s_CT_end hB0.ct (by omega) (fun h1 hC1 f1 => ?_))
        have hB1 := hB0.t hC1 (f1.wk (fun x z => z.elim Or.inl (fun y => Or.inr (Or.inl y))))
        refine bp_if_eq (q := 73) (tgt := 85) 34 rfl rfl (by decide) (fun z70 => ?_) (fun z70 => ?_)
        · refine bp_aload_n (q := 86) 41 rfl rfl rfl rfl ?_
          refine bp_bipush (v := -6) (q := 88) 42 rfl rfl (by decide) ?_
          refine bp_callU (q := 91) (ci := 3) (owner := "BracedPages$Reader") 43 rfl rfl cw_Rd_fail wd590 wd591 (Or.inr rfl) ⟨by decide, by decide⟩ rfl rfl hB1.kb wd594 wd593 rfl rfl (Nat.le_of_ble_eq_true rfl) ⟨Nat.le_of_ble_eq_true rfl, Nat.le_of_ble_eq_true rfl⟩ (s_BR_fail hB1 (fun h2 hB2 => ?_))
          refine bp_vret 44 rfl rfl  ⟨_, rfl, ?_⟩
          have y4 : ¬ smL x = true := by rw [show smL x = _ from (wi_nI (n := x) (a := 97) (b := 122) (by omega) (by decide) (by decide)).symm.trans (bI0.mp z4)]; decide
          have y31 : ¬ x = 59 := fun q => z31 (by rw [q]; rfl)
          have y60 : x = 125 := (nI_eq_iff (b := 125) (by omega) (by decide)).mp z60
          have y70 : ¬ nm = [] := by simpa using bI0.mp z70
          have e_ : bTab th x (i, fa, me, lv, fr, it, en, v, nt, tb, nm, L, ps) = (i, -6, nI th, lv, fr, it, en, v, nt, if tb = [] then [0] else tb, nm, L, ps) := (if_neg y4).trans ((if_neg (fun q => y31 q.1)).trans ((if_pos y60).trans (if_neg y70)))
          exact hQ _ _ _ _ (Br.cast (τ := (th, w, n, d)) e_ hB2)
        · refine bp_aload_n (q := 74) 35 rfl rfl rfl rfl ?_
          refine bp_iconst (v := 0) (q := 75) 36 rfl rfl (by decide) ?_
          refine bp_putI (q := 78) (ci := 3) (j := 7) 37 rfl rfl fl_BR_49_3 cl3 hB1.kb (fun r hr => by cases hr; rfl) (by decide) rfl rfl ?_
          refine bp_nx (X := fun h2 => BrX mx c0 s0 A P T h0 na0 h2 na i fa me lv fr false en v nt (if tb = [] then [0] else tb) nm L ps th w n d c s) (hB1.s7 rfl) (fun h2 hB2 => ?_)
          refine bp_aload_n (q := 79) 38 rfl rfl rfl rfl ?_
          refine bp_callV (q := 82) (ci := 3) 39 rfl rfl cw_BR_closeGroup lk_BR_76 rfl hB2.kb wd584 wd3 rfl rfl (Nat.le_of_ble_eq_true rfl) ⟨Nat.le_of_ble_eq_true rfl, Nat.le_of_ble_eq_true rfl⟩ (s_BR_closeGroup hB2 (fun h3 na3 c3 s3 hX => ?_))
          refine bp_goto (tgt := 91) 40 rfl (by decide) ?_
          refine bp_vret 44 rfl rfl  ⟨_, rfl, ?_⟩
          have y4 : ¬ smL x = true := by rw [show smL x = _ from (wi_nI (n := x) (a := 97) (b := 122) (by omega) (by decide) (by decide)).symm.trans (bI0.mp z4)]; decide
          have y31 : ¬ x = 59 := fun q => z31 (by rw [q]; rfl)
          have y60 : x = 125 := (nI_eq_iff (b := 125) (by omega) (by decide)).mp z60
          have y70 : nm = [] := by simpa using bI1 z70
          have e_ : bTab th x (i, fa, me, lv, fr, it, en, v, nt, tb, nm, L, ps) = bClose (i, fa, me, lv, fr, false, en, v, nt, (if tb = [] then [0] else tb), nm, L, ps) := (if_neg y4).trans ((if_neg (fun q => y31 q.1)).trans ((if_pos y60).trans (if_pos y70)))
          exact hQ _ _ _ _ (Br.cast e_ hX)
    · refine bp_aload_n (q := 35) 17 rfl rfl rfl rfl ?_
      refine bp_getR (x := A 3) (q := 38) (ci := 3) (j := 2) 18 rfl rfl fl_BR_27_3 hB0.kb rfl hB0.r2 ?_
      refine bp_callV (q := 41) (ci := 5) 19 rfl rfl cw_CT_enter lk_BR_257 rfl hB0.kt wd505 wd506 rfl rfl (Nat.le_of_ble_eq_true rfl) ⟨Nat.le_of_ble_eq_true rfl, Nat.le_of_ble_eq_true rfl⟩ (s_CT_enter hB0.ct (by omega) hnmb (fun k hek hlt h1 hC1 f1 => ?_) (fun hno => ?_))
      · have hB1 := hB0.t hC1 f1
        refine bp_if_eq (q := 44) (tgt := 57) 20 rfl rfl (by decide) (fun z => absurd z (by decide)) (fun z41 => ?_)
        refine bp_aload_n (q := 45) 21 rfl rfl rfl rfl ?_
        refine bp_dup (q := 46) 22 rfl rfl rfl ?_
        refine bp_getI (q := 49) (ci := 3) (j := 13) 23 rfl rfl fl_BR_66_3 hB1.kb rfl ?_
        rw [hB1.i13]
        refine bp_iconst (v := 1) (q := 50) 24 rfl rfl (by decide) ?_
        refine bp_iadd (q := 51) 25 rfl rfl ?_
        refine bp_putI (q := 54) (ci := 3) (j := 13) 26 rfl rfl fl_BR_66_3 cl3 hB1.kb (fun r hr => by cases hr; rfl) (by decide) rfl rfl ?_
        refine bp_nx (X := fun h2 => BrX mx c0 s0 A P T h0 na0 h2 na (i + 1) fa me lv fr it en v nt (tb ++ [k]) [] L ps th w n d c s) (hB1.s13 (nI_1 _)) (fun h2 hB2 => ?_)
        refine bp_goto (tgt := 91) 27 rfl (by decide) ?_
        refine bp_vret 44 rfl rfl  ⟨_, rfl, ?_⟩
        have y4 : ¬ smL x = true := by rw [show smL x = _ from (wi_nI (n := x) (a := 97) (b := 122) (by omega) (by decide) (by decide)).symm.trans (bI0.mp z4)]; decide
        have y31 : x = 59 := (nI_eq_iff (b := 59) (by omega) (by decide)).mp z31
        have e1 : (enC tb nm).getD 0 = k := by rw [hek]; rfl
        have e_ : bTab th x (i, fa, me, lv, fr, it, en, v, nt, tb, nm, L, ps) = (i + 1, fa, me, lv, fr, it, en, v, nt, tb ++ [(enC tb nm).getD 0], [], L, ps) := (if_neg y4).trans (if_pos ⟨y31, by rw [hek]; rfl, hlt⟩)
        rw [e1] at e_
        exact hQ _ _ _ _ (Br.cast (τ := (th, w, n, d)) e_ hB2)
      · refine bp_if_eq (q := 44) (tgt := 57) 20 rfl rfl (by decide) (fun z41 => ?_) (fun z => absurd rfl z)
        refine bp_iload_n (q := 58) 28 rfl rfl rfl rfl ?_
        refine bp_bipush (v := 125) (q := 60) 29 rfl rfl (by decide) ?_
        refine bp_icmp_ne (q := 63) (tgt := 85) 30 rfl rfl (by decide) (fun z60 => ?_) (fun z60 => ?_)
        · refine bp_aload_n (q := 86) 41 rfl rfl rfl rfl ?_
          refine bp_bipush (v := -6) (q := 88) 42 rfl rfl (by decide) ?_
          refine bp_callU (q := 91) (ci := 3) (owner := "BracedPages$Reader") 43 rfl rfl cw_Rd_fail wd590 wd591 (Or.inr rfl) ⟨by decide, by decide⟩ rfl rfl hB0.kb wd594 wd593 rfl rfl (Nat.le_of_ble_eq_true rfl) ⟨Nat.le_of_ble_eq_true rfl, Nat.le_of_ble_eq_true rfl⟩ (s_BR_fail hB0 (fun h1 hB1 => ?_))
          refine bp_vret 44 rfl rfl  ⟨_, rfl, ?_⟩
          have y4 : ¬ smL x = true := by rw [show smL x = _ from (wi_nI (n := x) (a := 97) (b := 122) (by omega) (by decide) (by decide)).symm.trans (bI0.mp z4)]; decide
          have y31 : x = 59 := (nI_eq_iff (b := 59) (by omega) (by decide)).mp z31
          have y60 : ¬ x = 125 := fun q => z60 (by rw [q]; rfl)
          have e_ : bTab th x (i, fa, me, lv, fr, it, en, v, nt, tb, nm, L, ps) = (i, -6, nI th, lv, fr, it, en, v, nt, tb, nm, L, ps) := (if_neg y4).trans ((if_neg (fun q => hno.elim (fun z => by have := q.2.1; rw [z] at this; cases this) (fun z => by have := q.2.2; omega))).trans (if_neg y60))
          exact hQ _ _ _ _ (Br.cast (τ := (th, w, n, d)) e_ hB1)
        · refine bp_aload_n (q := 64) 31 rfl rfl rfl rfl ?_
          refine bp_getR (x := A 3) (q := 67) (ci := 3) (j := 2) 32 rfl rfl fl_BR_27_3 hB0.kb rfl hB0.r2 ?_
          refine bp_callV (q := 70) (ci := 5) 33 rfl rfl cw_CT_end lk_BR_260 rfl hB0.kt wd578 wd579 rfl rfl (Nat.le_of_ble_eq_true rfl) ⟨Nat.le_of_ble_eq_true rfl, Nat.le_of_ble_eq_true rfl⟩ (s_CT_end hB0.ct (by omega) (fun h1 hC1 f1 => ?_))
          have hB1 := hB0.t hC1 (f1.wk (fun x z => z.elim Or.inl (fun y => Or.inr (Or.inl y))))
          refine bp_if_eq (q := 73) (tgt := 85) 34 rfl rfl (by decide) (fun z70 => ?_) (fun z70 => ?_)
          · refine bp_aload_n (q := 86) 41 rfl rfl rfl rfl ?_
            refine bp_bipush (v := -6) (q := 88) 42 rfl rfl (by decide) ?_
            refine bp_callU (q := 91) (ci := 3) (owner := "BracedPages$Reader") 43 rfl rfl cw_Rd_fail wd590 wd591 (Or.inr rfl) ⟨by decide, by decide⟩ rfl rfl hB1.kb wd594 wd593 rfl rfl (Nat.le_of_ble_eq_true rfl) ⟨Nat.le_of_ble_eq_true rfl, Nat.le_of_ble_eq_true rfl⟩ (s_BR_fail hB1 (fun h2 hB2 => ?_))
            refine bp_vret 44 rfl rfl  ⟨_, rfl, ?_⟩
            have y4 : ¬ smL x = true := by rw [show smL x = _ from (wi_nI (n := x) (a := 97) (b := 122) (by omega) (by decide) (by decide)).symm.trans (bI0.mp z4)]; decide
            have y31 : x = 59 := (nI_eq_iff (b := 59) (by omega) (by decide)).mp z31
            have y60 : x = 125 := (nI_eq_iff (b := 125) (by omega) (by decide)).mp z60
            have y70 : ¬ nm = [] := by simpa using bI0.mp z70
            have e_ : bTab th x (i, fa, me, lv, fr, it, en, v, nt, tb, nm, L, ps) = (i, -6, nI th, lv, fr, it, en, v, nt, if tb = [] then [0] else tb, nm, L, ps) := (if_neg y4).trans ((if_neg (fun q => hno.elim (fun z => by have := q.2.1; rw [z] at this; cases this) (fun z => by have := q.2.2; omega))).trans ((if_pos y60).trans (if_neg y70)))
            exact hQ _ _ _ _ (Br.cast (τ := (th, w, n, d)) e_ hB2)
          · refine bp_aload_n (q := 74) 35 rfl rfl rfl rfl ?_
            refine bp_iconst (v := 0) (q := 75) 36 rfl rfl (by decide) ?_
            refine bp_putI (q := 78) (ci := 3) (j := 7) 37 rfl rfl fl_BR_49_3 cl3 hB1.kb (fun r hr => by cases hr; rfl) (by decide) rfl rfl ?_
            refine bp_nx (X := fun h2 => BrX mx c0 s0 A P T h0 na0 h2 na i fa me lv fr false en v nt (if tb = [] then [0] else tb) nm L ps th w n d c s) (hB1.s7 rfl) (fun h2 hB2 => ?_)
            refine bp_aload_n (q := 79) 38 rfl rfl rfl rfl ?_
            refine bp_callV (q := 82) (ci := 3) 39 rfl rfl cw_BR_closeGroup lk_BR_76 rfl hB2.kb wd584 wd3 rfl rfl (Nat.le_of_ble_eq_true rfl) ⟨Nat.le_of_ble_eq_true rfl, Nat.le_of_ble_eq_true rfl⟩ (s_BR_closeGroup hB2 (fun h3 na3 c3 s3 hX => ?_))
            refine bp_goto (tgt := 91) 40 rfl (by decide) ?_
            refine bp_vret 44 rfl rfl  ⟨_, rfl, ?_⟩
            have y4 : ¬ smL x = true := by rw [show smL x = _ from (wi_nI (n := x) (a := 97) (b := 122) (by omega) (by decide) (by decide)).symm.trans (bI0.mp z4)]; decide
            have y31 : x = 59 := (nI_eq_iff (b := 59) (by omega) (by decide)).mp z31
            have y60 : x = 125 := (nI_eq_iff (b := 125) (by omega) (by decide)).mp z60
            have y70 : nm = [] := by simpa using bI1 z70
            have e_ : bTab th x (i, fa, me, lv, fr, it, en, v, nt, tb, nm, L, ps) = bClose (i, fa, me, lv, fr, false, en, v, nt, (if tb = [] then [0] else tb), nm, L, ps) := (if_neg y4).trans ((if_neg (fun q => hno.elim (fun z => by have := q.2.1; rw [z] at this; cases this) (fun z => by have := q.2.2; omega))).trans ((if_pos y60).trans (if_pos y70)))
            exact hQ _ _ _ _ (Br.cast e_ hX)
  · refine bp_aload_n (q := 8) 3 rfl rfl rfl rfl ?_
    refine bp_getR (x := A 3) (q := 11) (ci := 3) (j := 2) 4 rfl rfl fl_BR_27_3 hB0.kb rfl hB0.r2 ?_
    refine bp_iload_n (q := 12) 5 rfl rfl rfl rfl ?_
    refine bp_callV (q := 15) (ci := 5) 6 rfl rfl cw_CT_spell lk_BR_254 rfl hB0.kt wd481 wd482 rfl rfl (Nat.le_of_ble_eq_true rfl) ⟨Nat.le_of_ble_eq_true rfl, Nat.le_of_ble_eq_true rfl⟩ (s_CT_spell (v := x) rfl hB0.ct (by omega) hmx (fun h1 na1 c1 s1 hC1 f1 => ?_))
    have hB1 := hB0.tg hC1 f1
    refine bp_aload_n (q := 16) 7 rfl rfl rfl rfl ?_
    refine bp_dup (q := 17) 8 rfl rfl rfl ?_
    refine bp_getI (q := 20) (ci := 3) (j := 13) 9 rfl rfl fl_BR_66_3 hB1.kb rfl ?_
    rw [hB1.i13]
    refine bp_iconst (v := 1) (q := 21) 10 rfl rfl (by decide) ?_
    refine bp_iadd (q := 22) 11 rfl rfl ?_
    refine bp_putI (q := 25) (ci := 3) (j := 13) 12 rfl rfl fl_BR_66_3 cl3 hB1.kb (fun r hr => by cases hr; rfl) (by decide) rfl rfl ?_
    refine bp_nx (X := fun h2 => BrX mx c0 s0 A P T h0 na0 h2 na1 (i + 1) fa me lv fr it en v nt tb (nm ++ [x]) L ps th w n d c1 s1) (hB1.s13 (nI_1 _)) (fun h2 hB2 => ?_)
    refine bp_goto (tgt := 91) 13 rfl (by decide) ?_
    refine bp_vret 44 rfl rfl  ⟨_, rfl, ?_⟩
    have y4 : smL x = true := (wi_nI (n := x) (a := 97) (b := 122) (by omega) (by decide) (by decide)).symm.trans (bI1 z4)
    have e_ : bTab th x (i, fa, me, lv, fr, it, en, v, nt, tb, nm, L, ps) = (i + 1, fa, me, lv, fr, it, en, v, nt, tb, nm ++ [x], L, ps) := if_pos y4
    exact hQ _ _ _ _ (Br.cast (τ := (th, w, n, d)) e_ hB2)
theorem nuD_lt {k : Nat} (hT : okT T) : nuD T k < 1000000 := by
  have h : ∀ m k d x, (dgE T m k d x).2.1 ≤ m + d := by
    intro m
    induction m with
    | zero => intro k d x; exact Nat.le_of_eq (by simp [dgE])
    | succ m ih =>
      intro k d x
      unfold dgE
      split
      · have := ih (k + 1) (d + 1) (if d + 1 ≤ 5 then 10 * x + (tc T k - 48) else x); omega
      · show d ≤ _; omega
  have := h (T.length - nuK T k) (nuK T k) 0 0
  have := hT.1
  unfold nuD nuX
  omega
set_option maxRecDepth 100000 in
set_option maxHeartbeats 4000000 in
theorem s_BR_readBackslash {b : Bool} (hB0 : BrX mx c0 s0 A P T h0 na0 h na i fa me lv fr it en v nt tb nm L ps th w n d c s) (hT : okT T) (hi : i < T.length) (ok : okX T i lv it v nt tb nm L ps) (htb : tb ≠ []) (hL : L.length < 400) (hQ : ∀ h' na' τ' c' s', Br mx c0 s0 A P T h0 na0 h' na' (bBack T th b (i, fa, me, lv, fr, it, en, v, nt, tb, nm, L, ps)) τ' c' s' → Q none h' c' s') : bp_AM l G H0 (7, 154, false, false) M_BR_readBackslash h c s [.ref (A 0), .int (bI b)] Q := by
  refine bp_of (ls := [some (.ref (A 0)), some (.int (bI b)), none]) (by decide) dt_BR_readBackslash (Nat.le_of_ble_eq_true rfl) (fun q hq => hq) false ?_
  have hT1 := hT.1
  refine bp_aload_n (q := 1) 0 rfl rfl rfl rfl ?_
  refine bp_getR (x := A 6) (q := 4) (ci := 3) (j := 11) 1 rfl rfl fl_BR_52_3 hB0.kb rfl hB0.r11 ?_
  refine bp_aload_n (q := 5) 2 rfl rfl rfl rfl ?_
  refine bp_getI (q := 8) (ci := 3) (j := 13) 3 rfl rfl fl_BR_66_3 hB0.kb rfl ?_
  rw [hB0.i13]
  refine bp_iconst (v := 1) (q := 9) 4 rfl rfl (by decide) ?_
  refine bp_iadd (q := 10) 5 rfl rfl ?_
  rw [nI_1]
  refine bp_callV (q := 13) (ci := 1) 6 rfl rfl cw_Row_get lk_BR_56 rfl hB0.kx wd438 wd439 rfl rfl (Nat.le_of_ble_eq_true rfl) ⟨Nat.le_of_ble_eq_true rfl, Nat.le_of_ble_eq_true rfl⟩ (s_Row_get (ro := false) hB0.tx ?_)
  refine bp_istore_n (q := 14) 7 rfl rfl rfl (by decide) (bp_up2 rfl) ?_
  refine bp_iload_n (q := 15) 8 rfl rfl rfl rfl ?_
  refine bp_callS (q := 18) 9 rfl rfl cw_X_isSmallLetter lk_BR_113 wd478 rfl rfl (Nat.le_of_ble_eq_true rfl) ⟨Nat.le_of_ble_eq_true rfl, Nat.le_of_ble_eq_true rfl⟩ (s_X_isSmallLetter (ro := false) ?_)
  refine bp_if_eq (q := 21) (tgt := 33) 10 rfl rfl (by decide) (fun z18 => ?_) (fun z18 => ?_)
  · refine bp_iload_n (q := 34) 17 rfl rfl rfl rfl ?_
    refine bp_bipush (v := 39) (q := 36) 18 rfl rfl (by decide) ?_
    refine bp_icmp_ne (q := 39) (tgt := 71) 19 rfl rfl (by decide) (fun z36 => ?_) (fun z36 => ?_)
    · refine bp_iload_n (q := 72) 38 rfl rfl rfl rfl ?_
      refine bp_bipush (v := 123) (q := 74) 39 rfl rfl (by decide) ?_
      refine bp_icmp_eq (q := 77) (tgt := 89) 40 rfl rfl (by decide) (fun z74 => ?_) (fun z74 => ?_)
      · refine bp_aload_n (q := 90) 47 rfl rfl rfl rfl ?_
        refine bp_iload_n (q := 91) 48 rfl rfl rfl rfl ?_
        refine bp_iconst (v := 2) (q := 92) 49 rfl rfl (by decide) ?_
        have yc : tc T (i + 1) = 123 := (rg_is hT (v := 123) (by omega) (by decide) (by decide)).mp z74
        have hxe : rg T (nI (i + 1)) = nI (tc T (i + 1)) := rg_in hT (tc_in' yc (by decide))
        refine bp_callV (q := 95) (ci := 3) 50 rfl rfl cw_BR_readLetter lk_BR_83 rfl hB0.kb wd716 wd17 rfl rfl (Nat.le_of_ble_eq_true rfl) ⟨Nat.le_of_ble_eq_true rfl, Nat.le_of_ble_eq_true rfl⟩ (s_BR_readLetter (k := (tc T (i + 1))) (len := 2) hB0 hxe rfl (by have := tc_lt hT i; have := tc_lt hT (i + 1); omega) ok.2.1 ok.2.2.1 hL (fun h1 na1 c1 s1 hX => ?_))
        refine bp_goto (tgt := 135) 51 rfl (by decide) ?_
        refine bp_vret 70 rfl rfl  ⟨_, rfl, ?_⟩
        have y18 : ¬ smL (tc T (i + 1)) = true := by have := bI0.mp z18; rw [smL_rg hT (by omega)] at this; rw [this]; decide
        have y36 : ¬ tc T (i + 1) = 39 := mt (rg_is hT (v := 39) (by omega) (by decide) (by decide)).mpr z36
        have e_ : bBack T th b (i, fa, me, lv, fr, it, en, v, nt, tb, nm, L, ps) = bLetter th (tc T (i + 1)) 2 (i, fa, me, lv, fr, it, en, v, nt, tb, nm, L, ps) := (if_neg y18).trans ((if_neg (fun q => y36 q.1)).trans (if_pos (by rw [yc]; decide)))
        exact hQ _ _ _ _ _ (Br.cast e_ hX)
      · refine bp_iload_n (q := 78) 41 rfl rfl rfl rfl ?_
        refine bp_bipush (v := 125) (q := 80) 42 rfl rfl (by decide) ?_
        refine bp_icmp_eq (q := 83) (tgt := 89) 43 rfl rfl (by decide) (fun z80 => ?_) (fun z80 => ?_)
        · refine bp_aload_n (q := 90) 47 rfl rfl rfl rfl ?_
          refine bp_iload_n (q := 91) 48 rfl rfl rfl rfl ?_
          refine bp_iconst (v := 2) (q := 92) 49 rfl rfl (by decide) ?_
          have yc : tc T (i + 1) = 125 := (rg_is hT (v := 125) (by omega) (by decide) (by decide)).mp z80
          have hxe : rg T (nI (i + 1)) = nI (tc T (i + 1)) := rg_in hT (tc_in' yc (by decide))
          refine bp_callV (q := 95) (ci := 3) 50 rfl rfl cw_BR_readLetter lk_BR_83 rfl hB0.kb wd716 wd17 rfl rfl (Nat.le_of_ble_eq_true rfl) ⟨Nat.le_of_ble_eq_true rfl, Nat.le_of_ble_eq_true rfl⟩ (s_BR_readLetter (k := (tc T (i + 1))) (len := 2) hB0 hxe rfl (by have := tc_lt hT i; have := tc_lt hT (i + 1); omega) ok.2.1 ok.2.2.1 hL (fun h1 na1 c1 s1 hX => ?_))
          refine bp_goto (tgt := 135) 51 rfl (by decide) ?_
          refine bp_vret 70 rfl rfl  ⟨_, rfl, ?_⟩
          have y18 : ¬ smL (tc T (i + 1)) = true := by have := bI0.mp z18; rw [smL_rg hT (by omega)] at this; rw [this]; decide
          have y36 : ¬ tc T (i + 1) = 39 := mt (rg_is hT (v := 39) (by omega) (by decide) (by decide)).mpr z36
          have e_ : bBack T th b (i, fa, me, lv, fr, it, en, v, nt, tb, nm, L, ps) = bLetter th (tc T (i + 1)) 2 (i, fa, me, lv, fr, it, en, v, nt, tb, nm, L, ps) := (if_neg y18).trans ((if_neg (fun q => y36 q.1)).trans (if_pos (by rw [yc]; decide)))
          exact hQ _ _ _ _ _ (Br.cast e_ hX)
        · refine bp_iload_n (q := 84) 44 rfl rfl rfl rfl ?_
          refine bp_bipush (v := 92) (q := 86) 45 rfl rfl (by decide) ?_
          refine bp_icmp_ne (q := 89) (tgt := 98) 46 rfl rfl (by decide) (fun z86 => ?_) (fun z86 => ?_)
          · refine bp_iload_n (q := 99) 52 rfl rfl rfl rfl ?_
            refine bp_bipush (v := 126) (q := 101) 53 rfl rfl (by decide) ?_
            refine bp_icmp_ne (q := 104) (tgt := 115) 54 rfl rfl (by decide) (fun z101 => ?_) (fun z101 => ?_)
            · refine bp_iload_n (q := 116) 60 rfl rfl rfl rfl ?_
              refine bp_bipush (v := 42) (q := 118) 61 rfl rfl (by decide) ?_
              refine bp_icmp_ne (q := 121) (tgt := 129) 62 rfl rfl (by decide) (fun z118 => ?_) (fun z118 => ?_)
              · refine bp_aload_n (q := 130) 67 rfl rfl rfl rfl ?_
                refine bp_bipush (v := -4) (q := 132) 68 rfl rfl (by decide) ?_
                refine bp_callU (q := 135) (ci := 3) (owner := "BracedPages$Reader") 69 rfl rfl cw_Rd_fail wd590 wd591 (Or.inr rfl) ⟨by decide, by decide⟩ rfl rfl hB0.kb wd594 wd593 rfl rfl (Nat.le_of_ble_eq_true rfl) ⟨Nat.le_of_ble_eq_true rfl, Nat.le_of_ble_eq_true rfl⟩ (s_BR_fail hB0 (fun h1 hB1 => ?_))
                refine bp_vret 70 rfl rfl  ⟨_, rfl, ?_⟩
                have y18 : ¬ smL (tc T (i + 1)) = true := by have := bI0.mp z18; rw [smL_rg hT (by omega)] at this; rw [this]; decide
                have y36 : ¬ tc T (i + 1) = 39 := mt (rg_is hT (v := 39) (by omega) (by decide) (by decide)).mpr z36
                have y74 : ¬ tc T (i + 1) = 123 := mt (rg_is hT (v := 123) (by omega) (by decide) (by decide)).mpr z74
                have y80 : ¬ tc T (i + 1) = 125 := mt (rg_is hT (v := 125) (by omega) (by decide) (by decide)).mpr z80
                have y86 : ¬ tc T (i + 1) = 92 := mt (rg_is hT (v := 92) (by omega) (by decide) (by decide)).mpr z86
                have y101 : ¬ tc T (i + 1) = 126 := mt (rg_is hT (v := 126) (by omega) (by decide) (by decide)).mpr z101
                have y118 : ¬ tc T (i + 1) = 42 := mt (rg_is hT (v := 42) (by omega) (by decide) (by decide)).mpr z118
                have e_ : bBack T th b (i, fa, me, lv, fr, it, en, v, nt, tb, nm, L, ps) = bFl (-4) th (i, fa, me, lv, fr, it, en, v, nt, tb, nm, L, ps) := (if_neg y18).trans ((if_neg (fun q => y36 q.1)).trans ((if_neg (fun q => q.elim y74 (fun q => q.elim y80 y86))).trans ((if_neg y101).trans (if_neg y118))))
                exact hQ _ _ _ _ _ (Br.cast (τ := (th, w, n, d)) e_ hB1)
              · refine bp_aload_n (q := 122) 63 rfl rfl rfl rfl ?_
                refine bp_iload_n (q := 123) 64 rfl rfl rfl rfl ?_
                have y118 : tc T (i + 1) = 42 := (rg_is hT (v := 42) (by omega) (by decide) (by decide)).mp z118
                have hi2 := tc_in' y118 (by decide)
                refine bp_callV (q := 126) (ci := 3) 65 rfl rfl cw_BR_readStar lk_BR_126 rfl hB0.kb wd720 wd18 rfl rfl (Nat.le_of_ble_eq_true rfl) ⟨Nat.le_of_ble_eq_true rfl, Nat.le_of_ble_eq_true rfl⟩ (s_BR_readStar (b := b) hB0 hT (by omega) ok.2.1 (fun h1 na1 c1 s1 hX => ?_))
                refine bp_goto (tgt := 135) 66 rfl (by decide) ?_
                refine bp_vret 70 rfl rfl  ⟨_, rfl, ?_⟩
                have y18 : ¬ smL (tc T (i + 1)) = true := by have := bI0.mp z18; rw [smL_rg hT (by omega)] at this; rw [this]; decide
                have y36 : ¬ tc T (i + 1) = 39 := mt (rg_is hT (v := 39) (by omega) (by decide) (by decide)).mpr z36
                have y74 : ¬ tc T (i + 1) = 123 := mt (rg_is hT (v := 123) (by omega) (by decide) (by decide)).mpr z74
                have y80 : ¬ tc T (i + 1) = 125 := mt (rg_is hT (v := 125) (by omega) (by decide) (by decide)).mpr z80
                have y86 : ¬ tc T (i + 1) = 92 := mt (rg_is hT (v := 92) (by omega) (by decide) (by decide)).mpr z86
                have y101 : ¬ tc T (i + 1) = 126 := mt (rg_is hT (v := 126) (by omega) (by decide) (by decide)).mpr z101
                have e_ : bBack T th b (i, fa, me, lv, fr, it, en, v, nt, tb, nm, L, ps) = bStar T b (i, fa, me, lv, fr, it, en, v, nt, tb, nm, L, ps) := (if_neg y18).trans ((if_neg (fun q => y36 q.1)).trans ((if_neg (fun q => q.elim y74 (fun q => q.elim y80 y86))).trans ((if_neg y101).trans (if_pos y118))))
                exact hQ _ _ _ _ _ (Br.cast e_ hX)
            · refine bp_aload_n (q := 105) 55 rfl rfl rfl rfl ?_
              refine bp_sipush (v := 160) (q := 108) 56 rfl rfl (by decide) ?_
              refine bp_iconst (v := 2) (q := 109) 57 rfl rfl (by decide) ?_
              refine bp_callV (q := 112) (ci := 3) 58 rfl rfl cw_BR_readLetter lk_BR_83 rfl hB0.kb wd716 wd17 rfl rfl (Nat.le_of_ble_eq_true rfl) ⟨Nat.le_of_ble_eq_true rfl, Nat.le_of_ble_eq_true rfl⟩ (s_BR_readLetter (k := 160) (len := 2) hB0 rfl rfl (by have := tc_lt hT i; have := tc_lt hT (i + 1); omega) ok.2.1 ok.2.2.1 hL (fun h1 na1 c1 s1 hX => ?_))
              refine bp_goto (tgt := 135) 59 rfl (by decide) ?_
              refine bp_vret 70 rfl rfl  ⟨_, rfl, ?_⟩
              have y18 : ¬ smL (tc T (i + 1)) = true := by have := bI0.mp z18; rw [smL_rg hT (by omega)] at this; rw [this]; decide
              have y36 : ¬ tc T (i + 1) = 39 := mt (rg_is hT (v := 39) (by omega) (by decide) (by decide)).mpr z36
              have y74 : ¬ tc T (i + 1) = 123 := mt (rg_is hT (v := 123) (by omega) (by decide) (by decide)).mpr z74
              have y80 : ¬ tc T (i + 1) = 125 := mt (rg_is hT (v := 125) (by omega) (by decide) (by decide)).mpr z80
              have y86 : ¬ tc T (i + 1) = 92 := mt (rg_is hT (v := 92) (by omega) (by decide) (by decide)).mpr z86
              have y101 : tc T (i + 1) = 126 := (rg_is hT (v := 126) (by omega) (by decide) (by decide)).mp z101
              have e_ : bBack T th b (i, fa, me, lv, fr, it, en, v, nt, tb, nm, L, ps) = bLetter th 160 2 (i, fa, me, lv, fr, it, en, v, nt, tb, nm, L, ps) := (if_neg y18).trans ((if_neg (fun q => y36 q.1)).trans ((if_neg (fun q => q.elim y74 (fun q => q.elim y80 y86))).trans (if_pos y101)))
              exact hQ _ _ _ _ _ (Br.cast e_ hX)
          · refine bp_aload_n (q := 90) 47 rfl rfl rfl rfl ?_
            refine bp_iload_n (q := 91) 48 rfl rfl rfl rfl ?_
            refine bp_iconst (v := 2) (q := 92) 49 rfl rfl (by decide) ?_
            have yc : tc T (i + 1) = 92 := (rg_is hT (v := 92) (by omega) (by decide) (by decide)).mp z86
            have hxe : rg T (nI (i + 1)) = nI (tc T (i + 1)) := rg_in hT (tc_in' yc (by decide))
            refine bp_callV (q := 95) (ci := 3) 50 rfl rfl cw_BR_readLetter lk_BR_83 rfl hB0.kb wd716 wd17 rfl rfl (Nat.le_of_ble_eq_true rfl) ⟨Nat.le_of_ble_eq_true rfl, Nat.le_of_ble_eq_true rfl⟩ (s_BR_readLetter (k := (tc T (i + 1))) (len := 2) hB0 hxe rfl (by have := tc_lt hT i; have := tc_lt hT (i + 1); omega) ok.2.1 ok.2.2.1 hL (fun h1 na1 c1 s1 hX => ?_))
            refine bp_goto (tgt := 135) 51 rfl (by decide) ?_
            refine bp_vret 70 rfl rfl  ⟨_, rfl, ?_⟩
            have y18 : ¬ smL (tc T (i + 1)) = true := by have := bI0.mp z18; rw [smL_rg hT (by omega)] at this; rw [this]; decide
            have y36 : ¬ tc T (i + 1) = 39 := mt (rg_is hT (v := 39) (by omega) (by decide) (by decide)).mpr z36
            have e_ : bBack T th b (i, fa, me, lv, fr, it, en, v, nt, tb, nm, L, ps) = bLetter th (tc T (i + 1)) 2 (i, fa, me, lv, fr, it, en, v, nt, tb, nm, L, ps) := (if_neg y18).trans ((if_neg (fun q => y36 q.1)).trans (if_pos (by rw [yc]; decide)))
            exact hQ _ _ _ _ _ (Br.cast e_ hX)
    · refine bp_aload_n (q := 40) 20 rfl rfl rfl rfl ?_
      refine bp_aload_n (q := 41) 21 rfl rfl rfl rfl ?_
      refine bp_getI (q := 44) (ci := 3) (j := 13) 22 rfl rfl fl_BR_66_3 hB0.kb rfl ?_
      rw [hB0.i13]
      refine bp_iconst (v := 2) (q := 45) 23 rfl rfl (by decide) ?_
      refine bp_iadd (q := 46) 24 rfl rfl ?_
      rw [show nI i + 2 = nI (i + 2) from nI_add i 2]
      refine bp_callV (q := 49) (ci := 3) 25 rfl rfl cw_BR_hexCodeAt lk_BR_123 rfl hB0.kb wd709 wd16 rfl rfl (Nat.le_of_ble_eq_true rfl) ⟨Nat.le_of_ble_eq_true rfl, Nat.le_of_ble_eq_true rfl⟩ (s_BR_hexCodeAt (ro := false) (k := i + 2) hB0 hT (by omega) ?_)
      refine bp_iconst (v := -1) (q := 50) 26 rfl rfl (by decide) ?_
      refine bp_icmp_eq (q := 53) (tgt := 71) 27 rfl rfl (by decide) (fun z50 => ?_) (fun z50 => ?_)
      · refine bp_iload_n (q := 72) 38 rfl rfl rfl rfl ?_
        refine bp_bipush (v := 123) (q := 74) 39 rfl rfl (by decide) ?_
        refine bp_icmp_eq (q := 77) (tgt := 89) 40 rfl rfl (by decide) (fun z74 => ?_) (fun z74 => ?_)
        · refine bp_aload_n (q := 90) 47 rfl rfl rfl rfl ?_
          refine bp_iload_n (q := 91) 48 rfl rfl rfl rfl ?_
          refine bp_iconst (v := 2) (q := 92) 49 rfl rfl (by decide) ?_
          have yc : tc T (i + 1) = 123 := (rg_is hT (v := 123) (by omega) (by decide) (by decide)).mp z74
          have hxe : rg T (nI (i + 1)) = nI (tc T (i + 1)) := rg_in hT (tc_in' yc (by decide))
          refine bp_callV (q := 95) (ci := 3) 50 rfl rfl cw_BR_readLetter lk_BR_83 rfl hB0.kb wd716 wd17 rfl rfl (Nat.le_of_ble_eq_true rfl) ⟨Nat.le_of_ble_eq_true rfl, Nat.le_of_ble_eq_true rfl⟩ (s_BR_readLetter (k := (tc T (i + 1))) (len := 2) hB0 hxe rfl (by have := tc_lt hT i; have := tc_lt hT (i + 1); omega) ok.2.1 ok.2.2.1 hL (fun h1 na1 c1 s1 hX => ?_))
          refine bp_goto (tgt := 135) 51 rfl (by decide) ?_
          refine bp_vret 70 rfl rfl  ⟨_, rfl, ?_⟩
          have y18 : ¬ smL (tc T (i + 1)) = true := by have := bI0.mp z18; rw [smL_rg hT (by omega)] at this; rw [this]; decide
          have y36 : tc T (i + 1) = 39 := (rg_is hT (v := 39) (by omega) (by decide) (by decide)).mp z36
          have y50 : hxC T (i + 2) = none := (oI_m1 (fun x hx => by have := hxC_in (T := T) (k := i + 2) (by rw [hx]; rfl); rw [hx] at this; have := this.2; simp at this; omega)).mp z50
          have e_ : bBack T th b (i, fa, me, lv, fr, it, en, v, nt, tb, nm, L, ps) = bLetter th (tc T (i + 1)) 2 (i, fa, me, lv, fr, it, en, v, nt, tb, nm, L, ps) := (if_neg y18).trans ((if_neg (fun q => by have := q.2; rw [y50] at this; cases this)).trans (if_pos (by rw [yc]; decide)))
          exact hQ _ _ _ _ _ (Br.cast e_ hX)
        · refine bp_iload_n (q := 78) 41 rfl rfl rfl rfl ?_
          refine bp_bipush (v := 125) (q := 80) 42 rfl rfl (by decide) ?_
          refine bp_icmp_eq (q := 83) (tgt := 89) 43 rfl rfl (by decide) (fun z80 => ?_) (fun z80 => ?_)
          · refine bp_aload_n (q := 90) 47 rfl rfl rfl rfl ?_
            refine bp_iload_n (q := 91) 48 rfl rfl rfl rfl ?_
            refine bp_iconst (v := 2) (q := 92) 49 rfl rfl (by decide) ?_
            have yc : tc T (i + 1) = 125 := (rg_is hT (v := 125) (by omega) (by decide) (by decide)).mp z80
            have hxe : rg T (nI (i + 1)) = nI (tc T (i + 1)) := rg_in hT (tc_in' yc (by decide))
            refine bp_callV (q := 95) (ci := 3) 50 rfl rfl cw_BR_readLetter lk_BR_83 rfl hB0.kb wd716 wd17 rfl rfl (Nat.le_of_ble_eq_true rfl) ⟨Nat.le_of_ble_eq_true rfl, Nat.le_of_ble_eq_true rfl⟩ (s_BR_readLetter (k := (tc T (i + 1))) (len := 2) hB0 hxe rfl (by have := tc_lt hT i; have := tc_lt hT (i + 1); omega) ok.2.1 ok.2.2.1 hL (fun h1 na1 c1 s1 hX => ?_))
            refine bp_goto (tgt := 135) 51 rfl (by decide) ?_
            refine bp_vret 70 rfl rfl  ⟨_, rfl, ?_⟩
            have y18 : ¬ smL (tc T (i + 1)) = true := by have := bI0.mp z18; rw [smL_rg hT (by omega)] at this; rw [this]; decide
            have y36 : tc T (i + 1) = 39 := (rg_is hT (v := 39) (by omega) (by decide) (by decide)).mp z36
            have y50 : hxC T (i + 2) = none := (oI_m1 (fun x hx => by have := hxC_in (T := T) (k := i + 2) (by rw [hx]; rfl); rw [hx] at this; have := this.2; simp at this; omega)).mp z50
            have e_ : bBack T th b (i, fa, me, lv, fr, it, en, v, nt, tb, nm, L, ps) = bLetter th (tc T (i + 1)) 2 (i, fa, me, lv, fr, it, en, v, nt, tb, nm, L, ps) := (if_neg y18).trans ((if_neg (fun q => by have := q.2; rw [y50] at this; cases this)).trans (if_pos (by rw [yc]; decide)))
            exact hQ _ _ _ _ _ (Br.cast e_ hX)
          · refine bp_iload_n (q := 84) 44 rfl rfl rfl rfl ?_
            refine bp_bipush (v := 92) (q := 86) 45 rfl rfl (by decide) ?_
            refine bp_icmp_ne (q := 89) (tgt := 98) 46 rfl rfl (by decide) (fun z86 => ?_) (fun z86 => ?_)
            · refine bp_iload_n (q := 99) 52 rfl rfl rfl rfl ?_
              refine bp_bipush (v := 126) (q := 101) 53 rfl rfl (by decide) ?_
              refine bp_icmp_ne (q := 104) (tgt := 115) 54 rfl rfl (by decide) (fun z101 => ?_) (fun z101 => ?_)
              · refine bp_iload_n (q := 116) 60 rfl rfl rfl rfl ?_
                refine bp_bipush (v := 42) (q := 118) 61 rfl rfl (by decide) ?_
                refine bp_icmp_ne (q := 121) (tgt := 129) 62 rfl rfl (by decide) (fun z118 => ?_) (fun z118 => ?_)
                · refine bp_aload_n (q := 130) 67 rfl rfl rfl rfl ?_
                  refine bp_bipush (v := -4) (q := 132) 68 rfl rfl (by decide) ?_
                  refine bp_callU (q := 135) (ci := 3) (owner := "BracedPages$Reader") 69 rfl rfl cw_Rd_fail wd590 wd591 (Or.inr rfl) ⟨by decide, by decide⟩ rfl rfl hB0.kb wd594 wd593 rfl rfl (Nat.le_of_ble_eq_true rfl) ⟨Nat.le_of_ble_eq_true rfl, Nat.le_of_ble_eq_true rfl⟩ (s_BR_fail hB0 (fun h1 hB1 => ?_))
                  refine bp_vret 70 rfl rfl  ⟨_, rfl, ?_⟩
                  have y18 : ¬ smL (tc T (i + 1)) = true := by have := bI0.mp z18; rw [smL_rg hT (by omega)] at this; rw [this]; decide
                  have y36 : tc T (i + 1) = 39 := (rg_is hT (v := 39) (by omega) (by decide) (by decide)).mp z36
                  have y50 : hxC T (i + 2) = none := (oI_m1 (fun x hx => by have := hxC_in (T := T) (k := i + 2) (by rw [hx]; rfl); rw [hx] at this; have := this.2; simp at this; omega)).mp z50
                  have y74 : ¬ tc T (i + 1) = 123 := mt (rg_is hT (v := 123) (by omega) (by decide) (by decide)).mpr z74
                  have y80 : ¬ tc T (i + 1) = 125 := mt (rg_is hT (v := 125) (by omega) (by decide) (by decide)).mpr z80
                  have y86 : ¬ tc T (i + 1) = 92 := mt (rg_is hT (v := 92) (by omega) (by decide) (by decide)).mpr z86
                  have y101 : ¬ tc T (i + 1) = 126 := mt (rg_is hT (v := 126) (by omega) (by decide) (by decide)).mpr z101
                  have y118 : ¬ tc T (i + 1) = 42 := mt (rg_is hT (v := 42) (by omega) (by decide) (by decide)).mpr z118
                  have e_ : bBack T th b (i, fa, me, lv, fr, it, en, v, nt, tb, nm, L, ps) = bFl (-4) th (i, fa, me, lv, fr, it, en, v, nt, tb, nm, L, ps) := (if_neg y18).trans ((if_neg (fun q => by have := q.2; rw [y50] at this; cases this)).trans ((if_neg (fun q => q.elim y74 (fun q => q.elim y80 y86))).trans ((if_neg y101).trans (if_neg y118))))
                  exact hQ _ _ _ _ _ (Br.cast (τ := (th, w, n, d)) e_ hB1)
                · refine bp_aload_n (q := 122) 63 rfl rfl rfl rfl ?_
                  refine bp_iload_n (q := 123) 64 rfl rfl rfl rfl ?_
                  have y118 : tc T (i + 1) = 42 := (rg_is hT (v := 42) (by omega) (by decide) (by decide)).mp z118
                  have hi2 := tc_in' y118 (by decide)
                  refine bp_callV (q := 126) (ci := 3) 65 rfl rfl cw_BR_readStar lk_BR_126 rfl hB0.kb wd720 wd18 rfl rfl (Nat.le_of_ble_eq_true rfl) ⟨Nat.le_of_ble_eq_true rfl, Nat.le_of_ble_eq_true rfl⟩ (s_BR_readStar (b := b) hB0 hT (by omega) ok.2.1 (fun h1 na1 c1 s1 hX => ?_))
                  refine bp_goto (tgt := 135) 66 rfl (by decide) ?_
                  refine bp_vret 70 rfl rfl  ⟨_, rfl, ?_⟩
                  have y18 : ¬ smL (tc T (i + 1)) = true := by have := bI0.mp z18; rw [smL_rg hT (by omega)] at this; rw [this]; decide
                  have y36 : tc T (i + 1) = 39 := (rg_is hT (v := 39) (by omega) (by decide) (by decide)).mp z36
                  have y50 : hxC T (i + 2) = none := (oI_m1 (fun x hx => by have := hxC_in (T := T) (k := i + 2) (by rw [hx]; rfl); rw [hx] at this; have := this.2; simp at this; omega)).mp z50
                  have y74 : ¬ tc T (i + 1) = 123 := mt (rg_is hT (v := 123) (by omega) (by decide) (by decide)).mpr z74
                  have y80 : ¬ tc T (i + 1) = 125 := mt (rg_is hT (v := 125) (by omega) (by decide) (by decide)).mpr z80
                  have y86 : ¬ tc T (i + 1) = 92 := mt (rg_is hT (v := 92) (by omega) (by decide) (by decide)).mpr z86
                  have y101 : ¬ tc T (i + 1) = 126 := mt (rg_is hT (v := 126) (by omega) (by decide) (by decide)).mpr z101
                  have e_ : bBack T th b (i, fa, me, lv, fr, it, en, v, nt, tb, nm, L, ps) = bStar T b (i, fa, me, lv, fr, it, en, v, nt, tb, nm, L, ps) := (if_neg y18).trans ((if_neg (fun q => by have := q.2; rw [y50] at this; cases this)).trans ((if_neg (fun q => q.elim y74 (fun q => q.elim y80 y86))).trans ((if_neg y101).trans (if_pos y118))))
                  exact hQ _ _ _ _ _ (Br.cast e_ hX)
              · refine bp_aload_n (q := 105) 55 rfl rfl rfl rfl ?_
                refine bp_sipush (v := 160) (q := 108) 56 rfl rfl (by decide) ?_
                refine bp_iconst (v := 2) (q := 109) 57 rfl rfl (by decide) ?_
                refine bp_callV (q := 112) (ci := 3) 58 rfl rfl cw_BR_readLetter lk_BR_83 rfl hB0.kb wd716 wd17 rfl rfl (Nat.le_of_ble_eq_true rfl) ⟨Nat.le_of_ble_eq_true rfl, Nat.le_of_ble_eq_true rfl⟩ (s_BR_readLetter (k := 160) (len := 2) hB0 rfl rfl (by have := tc_lt hT i; have := tc_lt hT (i + 1); omega) ok.2.1 ok.2.2.1 hL (fun h1 na1 c1 s1 hX => ?_))
                refine bp_goto (tgt := 135) 59 rfl (by decide) ?_
                refine bp_vret 70 rfl rfl  ⟨_, rfl, ?_⟩
                have y18 : ¬ smL (tc T (i + 1)) = true := by have := bI0.mp z18; rw [smL_rg hT (by omega)] at this; rw [this]; decide
                have y36 : tc T (i + 1) = 39 := (rg_is hT (v := 39) (by omega) (by decide) (by decide)).mp z36
                have y50 : hxC T (i + 2) = none := (oI_m1 (fun x hx => by have := hxC_in (T := T) (k := i + 2) (by rw [hx]; rfl); rw [hx] at this; have := this.2; simp at this; omega)).mp z50
                have y74 : ¬ tc T (i + 1) = 123 := mt (rg_is hT (v := 123) (by omega) (by decide) (by decide)).mpr z74
                have y80 : ¬ tc T (i + 1) = 125 := mt (rg_is hT (v := 125) (by omega) (by decide) (by decide)).mpr z80
                have y86 : ¬ tc T (i + 1) = 92 := mt (rg_is hT (v := 92) (by omega) (by decide) (by decide)).mpr z86
                have y101 : tc T (i + 1) = 126 := (rg_is hT (v := 126) (by omega) (by decide) (by decide)).mp z101
                have e_ : bBack T th b (i, fa, me, lv, fr, it, en, v, nt, tb, nm, L, ps) = bLetter th 160 2 (i, fa, me, lv, fr, it, en, v, nt, tb, nm, L, ps) := (if_neg y18).trans ((if_neg (fun q => by have := q.2; rw [y50] at this; cases this)).trans ((if_neg (fun q => q.elim y74 (fun q => q.elim y80 y86))).trans (if_pos y101)))
                exact hQ _ _ _ _ _ (Br.cast e_ hX)
            · refine bp_aload_n (q := 90) 47 rfl rfl rfl rfl ?_
              refine bp_iload_n (q := 91) 48 rfl rfl rfl rfl ?_
              refine bp_iconst (v := 2) (q := 92) 49 rfl rfl (by decide) ?_
              have yc : tc T (i + 1) = 92 := (rg_is hT (v := 92) (by omega) (by decide) (by decide)).mp z86
              have hxe : rg T (nI (i + 1)) = nI (tc T (i + 1)) := rg_in hT (tc_in' yc (by decide))
              refine bp_callV (q := 95) (ci := 3) 50 rfl rfl cw_BR_readLetter lk_BR_83 rfl hB0.kb wd716 wd17 rfl rfl (Nat.le_of_ble_eq_true rfl) ⟨Nat.le_of_ble_eq_true rfl, Nat.le_of_ble_eq_true rfl⟩ (s_BR_readLetter (k := (tc T (i + 1))) (len := 2) hB0 hxe rfl (by have := tc_lt hT i; have := tc_lt hT (i + 1); omega) ok.2.1 ok.2.2.1 hL (fun h1 na1 c1 s1 hX => ?_))
              refine bp_goto (tgt := 135) 51 rfl (by decide) ?_
              refine bp_vret 70 rfl rfl  ⟨_, rfl, ?_⟩
              have y18 : ¬ smL (tc T (i + 1)) = true := by have := bI0.mp z18; rw [smL_rg hT (by omega)] at this; rw [this]; decide
              have y36 : tc T (i + 1) = 39 := (rg_is hT (v := 39) (by omega) (by decide) (by decide)).mp z36
              have y50 : hxC T (i + 2) = none := (oI_m1 (fun x hx => by have := hxC_in (T := T) (k := i + 2) (by rw [hx]; rfl); rw [hx] at this; have := this.2; simp at this; omega)).mp z50
              have e_ : bBack T th b (i, fa, me, lv, fr, it, en, v, nt, tb, nm, L, ps) = bLetter th (tc T (i + 1)) 2 (i, fa, me, lv, fr, it, en, v, nt, tb, nm, L, ps) := (if_neg y18).trans ((if_neg (fun q => by have := q.2; rw [y50] at this; cases this)).trans (if_pos (by rw [yc]; decide)))
              exact hQ _ _ _ _ _ (Br.cast e_ hX)
      · refine bp_aload_n (q := 54) 28 rfl rfl rfl rfl ?_
        refine bp_aload_n (q := 55) 29 rfl rfl rfl rfl ?_
        refine bp_aload_n (q := 56) 30 rfl rfl rfl rfl ?_
        refine bp_getI (q := 59) (ci := 3) (j := 13) 31 rfl rfl fl_BR_66_3 hB0.kb rfl ?_
        rw [hB0.i13]
        refine bp_iconst (v := 2) (q := 60) 32 rfl rfl (by decide) ?_
        refine bp_iadd (q := 61) 33 rfl rfl ?_
        rw [show nI i + 2 = nI (i + 2) from nI_add i 2]
        refine bp_callV (q := 64) (ci := 3) 34 rfl rfl cw_BR_hexCodeAt lk_BR_123 rfl hB0.kb wd709 wd16 rfl rfl (Nat.le_of_ble_eq_true rfl) ⟨Nat.le_of_ble_eq_true rfl, Nat.le_of_ble_eq_true rfl⟩ (s_BR_hexCodeAt (ro := false) (k := i + 2) hB0 hT (by omega) ?_)
        have hxs : (hxC T (i + 2)).isSome = true := by
          cases e9 : hxC T (i + 2) with
          | none => rw [e9] at z50; exact absurd rfl z50
          | some a => rfl
        have hxl := hxC_in hxs
        have hxe : oI (hxC T (i + 2)) = nI ((hxC T (i + 2)).getD 0) := by
          cases e9 : hxC T (i + 2) with
          | none => rw [e9] at hxs; cases hxs
          | some a => rfl
        refine bp_iconst (v := 4) (q := 65) 35 rfl rfl (by decide) ?_
        refine bp_callV (q := 68) (ci := 3) 36 rfl rfl cw_BR_readLetter lk_BR_83 rfl hB0.kb wd716 wd17 rfl rfl (Nat.le_of_ble_eq_true rfl) ⟨Nat.le_of_ble_eq_true rfl, Nat.le_of_ble_eq_true rfl⟩ (s_BR_readLetter (k := ((hxC T (i + 2)).getD 0)) (len := 4) hB0 hxe rfl (by have := tc_lt hT i; have := tc_lt hT (i + 1); omega) ok.2.1 ok.2.2.1 hL (fun h1 na1 c1 s1 hX => ?_))
        refine bp_goto (tgt := 135) 37 rfl (by decide) ?_
        refine bp_vret 70 rfl rfl  ⟨_, rfl, ?_⟩
        have y18 : ¬ smL (tc T (i + 1)) = true := by have := bI0.mp z18; rw [smL_rg hT (by omega)] at this; rw [this]; decide
        have y36 : tc T (i + 1) = 39 := (rg_is hT (v := 39) (by omega) (by decide) (by decide)).mp z36
        have e_ : bBack T th b (i, fa, me, lv, fr, it, en, v, nt, tb, nm, L, ps) = bLetter th ((hxC T (i + 2)).getD 0) 4 (i, fa, me, lv, fr, it, en, v, nt, tb, nm, L, ps) := (if_neg y18).trans (if_pos ⟨y36, hxs⟩)
        exact hQ _ _ _ _ _ (Br.cast e_ hX)
  · refine bp_aload_n (q := 22) 11 rfl rfl rfl rfl ?_
    have y18 : smL (tc T (i + 1)) = true := by have := bI1 z18; rw [smL_rg hT (by omega)] at this; exact this
    have hwn := wdN_in y18
    refine bp_callV (q := 25) (ci := 3) 12 rfl rfl cw_BR_readWord lk_BR_117 rfl hB0.kb wd606 wd6 rfl rfl (Nat.le_of_ble_eq_true rfl) ⟨Nat.le_of_ble_eq_true rfl, Nat.le_of_ble_eq_true rfl⟩ (s_BR_readWord hB0 hT (by omega) (fun h1 hB1 => ?_))
    refine bp_aload_n (q := 26) 13 rfl rfl rfl rfl ?_
    refine bp_iload_n (q := 27) 14 rfl rfl rfl rfl ?_
    refine bp_callV (q := 30) (ci := 3) 15 rfl rfl cw_BR_obeyWord lk_BR_120 rfl hB1.kb wd642 wd9 rfl rfl (Nat.le_of_ble_eq_true rfl) ⟨Nat.le_of_ble_eq_true rfl, Nat.le_of_ble_eq_true rfl⟩ (s_BR_obeyWord (b := b) hB1 (ok.goto (by omega) (by omega)) htb (by have := wdf_le T (i + 1) (wdT T i) 15 1; unfold wdW; omega) (nuD_lt hT) hL (fun h2 na2 c2 s2 hX => ?_))
    refine bp_goto (tgt := 135) 16 rfl (by decide) ?_
    refine bp_vret 70 rfl rfl  ⟨_, rfl, ?_⟩
    have e_ : bBack T th b (i, fa, me, lv, fr, it, en, v, nt, tb, nm, L, ps) = bObey th b (wdW T i) (nuV T (wdT T i)) (nuD T (wdT T i)) (wdN T i, fa, me, lv, fr, it, en, v, nt, tb, nm, L, ps) := if_pos y18
    exact hQ _ _ _ _ _ (Br.cast e_ hX)
set_option maxRecDepth 100000 in
set_option maxHeartbeats 4000000 in
theorem s_BR_readThing  (hB0 : BrX mx c0 s0 A P T h0 na0 h na i fa me lv fr it en v nt tb nm L ps i w n d c s) (hT : okT T) (hi : i < T.length) (ok : okX T i lv it v nt tb nm L ps) (hmx4 : 400 < mx) (hmx : mx < 100000) (hQ : ∀ h' na' τ' c' s', Br mx c0 s0 A P T h0 na0 h' na' (bThing T (i, fa, me, lv, fr, it, en, v, nt, tb, nm, L, ps)) τ' c' s' → Q none h' c' s') : bp_AM l G H0 (8, 176, false, false) M_BR_readThing h c s [.ref (A 0)] Q := by
  refine bp_of (ls := [some (.ref (A 0)), none, none]) (by decide) dt_BR_readThing (Nat.le_of_ble_eq_true rfl) (fun q hq => hq) false ?_
  have hT1 := hT.1
  have hx8 := tc_lt hT i
  have hL : L.length < 400 := by have := ok.2.2.2.2.2.2.2.1; omega
  have hnm := ok.2.2.2.2.2.2.1.2.1
  refine bp_aload_n (q := 1) 0 rfl rfl rfl rfl ?_
  refine bp_getR (x := A 6) (q := 4) (ci := 3) (j := 11) 1 rfl rfl fl_BR_52_3 hB0.kb rfl hB0.r11 ?_
  refine bp_aload_n (q := 5) 2 rfl rfl rfl rfl ?_
  refine bp_getI (q := 8) (ci := 3) (j := 13) 3 rfl rfl fl_BR_66_3 hB0.kb rfl ?_
  rw [hB0.i13]
  refine bp_callV (q := 11) (ci := 1) 4 rfl rfl cw_Row_get lk_BR_56 rfl hB0.kx wd438 wd439 rfl rfl (Nat.le_of_ble_eq_true rfl) ⟨Nat.le_of_ble_eq_true rfl, Nat.le_of_ble_eq_true rfl⟩ (s_Row_get (ro := false) hB0.tx ?_)
  rw [rg_in hT hi]
  refine bp_istore_n (q := 12) 5 rfl rfl rfl (by decide) (bp_up1 rfl) ?_
  refine bp_iload_n (q := 13) 6 rfl rfl rfl rfl ?_
  refine bp_bipush (v := 10) (q := 15) 7 rfl rfl (by decide) ?_
  refine bp_icmp_ne (q := 18) (tgt := 29) 8 rfl rfl (by decide) (fun z15 => ?_) (fun z15 => ?_)
  · refine bp_aload_n (q := 30) 16 rfl rfl rfl rfl ?_
    refine bp_getI (q := 33) (ci := 3) (j := 7) 17 rfl rfl fl_BR_49_3 hB0.kb rfl ?_
    rw [hB0.i7]
    refine bp_if_eq (q := 36) (tgt := 42) 18 rfl rfl (by decide) (fun z33 => ?_) (fun z33 => ?_)
    · refine bp_aload_n (q := 43) 23 rfl rfl rfl rfl ?_
      have htb := ok.2.2.2.2.2.1.2.2 (bI0.mp z33)
      refine bp_getI (q := 46) (ci := 3) (j := 5) 24 rfl rfl fl_BR_43_3 hB0.kb rfl ?_
      rw [hB0.i5]
      refine bp_istore_n (q := 47) 25 rfl rfl rfl (by decide) (bp_up2 rfl) ?_
      refine bp_aload_n (q := 48) 26 rfl rfl rfl rfl ?_
      refine bp_iload_n (q := 49) 27 rfl rfl rfl rfl ?_
      refine bp_bipush (v := 123) (q := 51) 28 rfl rfl (by decide) ?_
      refine bp_icmp_ne (q := 54) (tgt := 58) 29 rfl rfl (by decide) (fun z51 => ?_) (fun z51 => ?_)
      · refine bp_iconst (v := 0) (q := 59) 32 rfl rfl (by decide) ?_
        refine bp_putI (q := 62) (ci := 3) (j := 5) 33 rfl rfl fl_BR_43_3 cl3 hB0.kb (fun r hr => by cases hr; rfl) (by decide) rfl rfl ?_
        refine bp_nx (X := fun h1 => BrX mx c0 s0 A P T h0 na0 h1 na i fa me lv false it en v nt tb nm L ps i w n d c s) (hB0.s5 rfl) (fun h1 hB1 => ?_)
        refine bp_iload_n (q := 63) 34 rfl rfl rfl rfl ?_
        refine bp_bipush (v := 123) (q := 65) 35 rfl rfl (by decide) ?_
        refine bp_icmp_ne (q := 68) (tgt := 75) 36 rfl rfl (by decide) (fun z65 => ?_) (fun z65 => ?_)
        · refine bp_iload_n (q := 76) 40 rfl rfl rfl rfl ?_
          refine bp_bipush (v := 125) (q := 78) 41 rfl rfl (by decide) ?_
          refine bp_icmp_ne (q := 81) (tgt := 88) 42 rfl rfl (by decide) (fun z78 => ?_) (fun z78 => ?_)
          · refine bp_iload_n (q := 89) 46 rfl rfl rfl rfl ?_
            refine bp_bipush (v := 92) (q := 91) 47 rfl rfl (by decide) ?_
            refine bp_icmp_ne (q := 94) (tgt := 102) 48 rfl rfl (by decide) (fun z91 => ?_) (fun z91 => ?_)
            · refine bp_aload_n (q := 103) 53 rfl rfl rfl rfl ?_
              refine bp_iload_n (q := 104) 54 rfl rfl rfl rfl ?_
              refine bp_iconst (v := 1) (q := 105) 55 rfl rfl (by decide) ?_
              refine bp_callV (q := 108) (ci := 3) 56 rfl rfl cw_BR_readLetter lk_BR_83 rfl hB1.kb wd716 wd17 rfl rfl (Nat.le_of_ble_eq_true rfl) ⟨Nat.le_of_ble_eq_true rfl, Nat.le_of_ble_eq_true rfl⟩ (s_BR_readLetter (k := (tc T i)) (len := 1) hB1 rfl rfl (by have := tc_lt hT i; have := tc_lt hT (i + 1); omega) ok.2.1 ok.2.2.1 hL (fun h2 na2 c2 s2 hX => ?_))
              refine bp_vret 57 rfl rfl  ⟨_, rfl, ?_⟩
              have y15 : ¬ tc T i = 10 := fun q => z15 (by rw [q]; rfl)
              have y33 := bI0.mp z33
              have y51 : ¬ tc T i = 123 := fun q => z51 (by rw [q]; rfl)
              have y78 : ¬ tc T i = 125 := fun q => z78 (by rw [q]; rfl)
              have y91 : ¬ tc T i = 92 := fun q => z91 (by rw [q]; rfl)
              have e_ : bThing T (i, fa, me, lv, fr, it, en, v, nt, tb, nm, L, ps) = bLetter i (tc T i) 1 (i, fa, me, lv, false, it, en, v, nt, tb, nm, L, ps) := (if_neg y15).trans ((if_neg (by rw [y33]; decide)).trans ((if_neg y51).trans ((if_neg y78).trans (if_neg y91))))
              exact hQ _ _ _ _ _ (Br.cast e_ hX)
            · refine bp_aload_n (q := 95) 49 rfl rfl rfl rfl ?_
              refine bp_iload_n (q := 96) 50 rfl rfl rfl rfl ?_
              refine bp_callV (q := 99) (ci := 3) 51 rfl rfl cw_BR_readBackslash lk_BR_79 rfl hB1.kb wd602 wd5 rfl rfl (Nat.le_of_ble_eq_true rfl) ⟨Nat.le_of_ble_eq_true rfl, Nat.le_of_ble_eq_true rfl⟩ (s_BR_readBackslash (b := fr) hB1 hT hi ok htb hL (fun h2 na2 τ2 c2 s2 hX => ?_))
              refine bp_goto (tgt := 108) 52 rfl (by decide) ?_
              refine bp_vret 57 rfl rfl  ⟨_, rfl, ?_⟩
              have y15 : ¬ tc T i = 10 := fun q => z15 (by rw [q]; rfl)
              have y33 := bI0.mp z33
              have y51 : ¬ tc T i = 123 := fun q => z51 (by rw [q]; rfl)
              have y78 : ¬ tc T i = 125 := fun q => z78 (by rw [q]; rfl)
              have y91 : tc T i = 92 := (nI_eq_iff (b := 92) (by omega) (by decide)).mp z91
              have e_ : bThing T (i, fa, me, lv, fr, it, en, v, nt, tb, nm, L, ps) = bBack T i fr (i, fa, me, lv, false, it, en, v, nt, tb, nm, L, ps) := (if_neg y15).trans ((if_neg (by rw [y33]; decide)).trans ((if_neg y51).trans ((if_neg y78).trans (if_pos y91))))
              exact hQ _ _ _ _ _ (Br.cast e_ hX)
          · refine bp_aload_n (q := 82) 43 rfl rfl rfl rfl ?_
            refine bp_callV (q := 85) (ci := 3) 44 rfl rfl cw_BR_closeGroup lk_BR_76 rfl hB1.kb wd584 wd3 rfl rfl (Nat.le_of_ble_eq_true rfl) ⟨Nat.le_of_ble_eq_true rfl, Nat.le_of_ble_eq_true rfl⟩ (s_BR_closeGroup hB1 (fun h2 na2 c2 s2 hX => ?_))
            refine bp_goto (tgt := 108) 45 rfl (by decide) ?_
            refine bp_vret 57 rfl rfl  ⟨_, rfl, ?_⟩
            have y15 : ¬ tc T i = 10 := fun q => z15 (by rw [q]; rfl)
            have y33 := bI0.mp z33
            have y51 : ¬ tc T i = 123 := fun q => z51 (by rw [q]; rfl)
            have y78 : tc T i = 125 := (nI_eq_iff (b := 125) (by omega) (by decide)).mp z78
            have e_ : bThing T (i, fa, me, lv, fr, it, en, v, nt, tb, nm, L, ps) = bClose (i, fa, me, lv, false, it, en, v, nt, tb, nm, L, ps) := (if_neg y15).trans ((if_neg (by rw [y33]; decide)).trans ((if_neg y51).trans (if_pos y78)))
            exact hQ _ _ _ _ _ (Br.cast e_ hX)
        · refine bp_aload_n (q := 69) 37 rfl rfl rfl rfl ?_
          refine bp_callV (q := 72) (ci := 3) 38 rfl rfl cw_BR_openGroup lk_BR_73 rfl hB1.kb wd598 wd4 rfl rfl (Nat.le_of_ble_eq_true rfl) ⟨Nat.le_of_ble_eq_true rfl, Nat.le_of_ble_eq_true rfl⟩ (s_BR_openGroup hB1 (fun h2 na2 c2 s2 hX => ?_))
          refine bp_goto (tgt := 108) 39 rfl (by decide) ?_
          refine bp_vret 57 rfl rfl  ⟨_, rfl, ?_⟩
          exact absurd z65 z51
      · refine bp_iconst (v := 1) (q := 55) 30 rfl rfl (by decide) ?_
        refine bp_goto (tgt := 59) 31 rfl (by decide) ?_
        refine bp_putI (q := 62) (ci := 3) (j := 5) 33 rfl rfl fl_BR_43_3 cl3 hB0.kb (fun r hr => by cases hr; rfl) (by decide) rfl rfl ?_
        refine bp_nx (X := fun h1 => BrX mx c0 s0 A P T h0 na0 h1 na i fa me lv true it en v nt tb nm L ps i w n d c s) (hB0.s5 rfl) (fun h1 hB1 => ?_)
        refine bp_iload_n (q := 63) 34 rfl rfl rfl rfl ?_
        refine bp_bipush (v := 123) (q := 65) 35 rfl rfl (by decide) ?_
        refine bp_icmp_ne (q := 68) (tgt := 75) 36 rfl rfl (by decide) (fun z65 => ?_) (fun z65 => ?_)
        · refine bp_iload_n (q := 76) 40 rfl rfl rfl rfl ?_
          refine bp_bipush (v := 125) (q := 78) 41 rfl rfl (by decide) ?_
          refine bp_icmp_ne (q := 81) (tgt := 88) 42 rfl rfl (by decide) (fun z78 => ?_) (fun z78 => ?_)
          · refine bp_iload_n (q := 89) 46 rfl rfl rfl rfl ?_
            refine bp_bipush (v := 92) (q := 91) 47 rfl rfl (by decide) ?_
            refine bp_icmp_ne (q := 94) (tgt := 102) 48 rfl rfl (by decide) (fun z91 => ?_) (fun z91 => ?_)
            · refine bp_aload_n (q := 103) 53 rfl rfl rfl rfl ?_
              refine bp_iload_n (q := 104) 54 rfl rfl rfl rfl ?_
              refine bp_iconst (v := 1) (q := 105) 55 rfl rfl (by decide) ?_
              refine bp_callV (q := 108) (ci := 3) 56 rfl rfl cw_BR_readLetter lk_BR_83 rfl hB1.kb wd716 wd17 rfl rfl (Nat.le_of_ble_eq_true rfl) ⟨Nat.le_of_ble_eq_true rfl, Nat.le_of_ble_eq_true rfl⟩ (s_BR_readLetter (k := (tc T i)) (len := 1) hB1 rfl rfl (by have := tc_lt hT i; have := tc_lt hT (i + 1); omega) ok.2.1 ok.2.2.1 hL (fun h2 na2 c2 s2 hX => ?_))
              refine bp_vret 57 rfl rfl  ⟨_, rfl, ?_⟩
              exact absurd z51 z65
            · refine bp_aload_n (q := 95) 49 rfl rfl rfl rfl ?_
              refine bp_iload_n (q := 96) 50 rfl rfl rfl rfl ?_
              refine bp_callV (q := 99) (ci := 3) 51 rfl rfl cw_BR_readBackslash lk_BR_79 rfl hB1.kb wd602 wd5 rfl rfl (Nat.le_of_ble_eq_true rfl) ⟨Nat.le_of_ble_eq_true rfl, Nat.le_of_ble_eq_true rfl⟩ (s_BR_readBackslash (b := fr) hB1 hT hi ok htb hL (fun h2 na2 τ2 c2 s2 hX => ?_))
              refine bp_goto (tgt := 108) 52 rfl (by decide) ?_
              refine bp_vret 57 rfl rfl  ⟨_, rfl, ?_⟩
              exact absurd z51 z65
          · refine bp_aload_n (q := 82) 43 rfl rfl rfl rfl ?_
            refine bp_callV (q := 85) (ci := 3) 44 rfl rfl cw_BR_closeGroup lk_BR_76 rfl hB1.kb wd584 wd3 rfl rfl (Nat.le_of_ble_eq_true rfl) ⟨Nat.le_of_ble_eq_true rfl, Nat.le_of_ble_eq_true rfl⟩ (s_BR_closeGroup hB1 (fun h2 na2 c2 s2 hX => ?_))
            refine bp_goto (tgt := 108) 45 rfl (by decide) ?_
            refine bp_vret 57 rfl rfl  ⟨_, rfl, ?_⟩
            exact absurd z51 z65
        · refine bp_aload_n (q := 69) 37 rfl rfl rfl rfl ?_
          refine bp_callV (q := 72) (ci := 3) 38 rfl rfl cw_BR_openGroup lk_BR_73 rfl hB1.kb wd598 wd4 rfl rfl (Nat.le_of_ble_eq_true rfl) ⟨Nat.le_of_ble_eq_true rfl, Nat.le_of_ble_eq_true rfl⟩ (s_BR_openGroup hB1 (fun h2 na2 c2 s2 hX => ?_))
          refine bp_goto (tgt := 108) 39 rfl (by decide) ?_
          refine bp_vret 57 rfl rfl  ⟨_, rfl, ?_⟩
          have y15 : ¬ tc T i = 10 := fun q => z15 (by rw [q]; rfl)
          have y33 := bI0.mp z33
          have y51 : tc T i = 123 := (nI_eq_iff (b := 123) (by omega) (by decide)).mp z51
          have e_ : bThing T (i, fa, me, lv, fr, it, en, v, nt, tb, nm, L, ps) = bOpen i (i, fa, me, lv, true, it, en, v, nt, tb, nm, L, ps) := (if_neg y15).trans ((if_neg (by rw [y33]; decide)).trans (if_pos y51))
          exact hQ _ _ _ _ _ (Br.cast e_ hX)
    · refine bp_aload_n (q := 37) 19 rfl rfl rfl rfl ?_
      refine bp_iload_n (q := 38) 20 rfl rfl rfl rfl ?_
      refine bp_callV (q := 41) (ci := 3) 21 rfl rfl cw_BR_readTableCharacter lk_BR_69 rfl hB0.kb wd475 wd1 rfl rfl (Nat.le_of_ble_eq_true rfl) ⟨Nat.le_of_ble_eq_true rfl, Nat.le_of_ble_eq_true rfl⟩ (s_BR_tableChar hB0 hx8 (by omega) ok.2.2.2.2.2.2.1.2.1 (fun j hj => by have := getD_lt ok.2.2.2.2.2.2.1.2.2 (by decide) j; omega) hmx (fun h1 na1 c1 s1 hX => ?_))
      refine bp_vret 22 rfl rfl  ⟨_, rfl, ?_⟩
      have y15 : ¬ tc T i = 10 := fun q => z15 (by rw [q]; rfl)
      have y33 := bI1 z33
      have e_ : bThing T (i, fa, me, lv, fr, it, en, v, nt, tb, nm, L, ps) = bTab i (tc T i) (i, fa, me, lv, fr, it, en, v, nt, tb, nm, L, ps) := (if_neg y15).trans (if_pos y33)
      exact hQ _ _ _ _ _ (Br.cast e_ hX)
  · refine bp_aload_n (q := 19) 9 rfl rfl rfl rfl ?_
    refine bp_dup (q := 20) 10 rfl rfl rfl ?_
    refine bp_getI (q := 23) (ci := 3) (j := 13) 11 rfl rfl fl_BR_66_3 hB0.kb rfl ?_
    rw [hB0.i13]
    refine bp_iconst (v := 1) (q := 24) 12 rfl rfl (by decide) ?_
    refine bp_iadd (q := 25) 13 rfl rfl ?_
    refine bp_putI (q := 28) (ci := 3) (j := 13) 14 rfl rfl fl_BR_66_3 cl3 hB0.kb (fun r hr => by cases hr; rfl) (by decide) rfl rfl ?_
    refine bp_nx (X := fun h1 => BrX mx c0 s0 A P T h0 na0 h1 na (i + 1) fa me lv fr it en v nt tb nm L ps i w n d c s) (hB0.s13 (nI_1 _)) (fun h1 hB1 => ?_)
    refine bp_vret 15 rfl rfl  ⟨_, rfl, ?_⟩
    have y15 : tc T i = 10 := (nI_eq_iff (b := 10) (by omega) (by decide)).mp z15
    have e_ : bThing T (i, fa, me, lv, fr, it, en, v, nt, tb, nm, L, ps) = (i + 1, fa, me, lv, fr, it, en, v, nt, tb, nm, L, ps) := if_pos y15
    exact hQ _ _ _ _ _ (Br.cast (τ := (i, w, n, d)) e_ hB1)
end BR4
