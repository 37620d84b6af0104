/-! writeTagged, writeBraced of the reference -/
def twM (L : List (Nat × Nat)) (ps : List (Nat × Nat × Nat)) : List Nat := mpag twP twS twL twE [60, 47, 112, 62] L ps ps.length 0
def bwM (L : List (Nat × Nat)) (ps : List (Nat × Nat × Nat)) : List Nat := bwH (lkL L) ++ (mpag bwP (bwS (enO (lkL L))) bwL (fun _ => [125]) [92, 112, 97, 114] L ps ps.length 0 ++ [125])
theorem cnT_len (k : Nat) : (cnT k).length ≤ 7 := by unfold cnT; (repeat' split) <;> decide
section MO7
variable {l : Launch} {G : bp_G} {H0 : Heap} {M : Nat → Nat} {h0 h : bp_H} {tw : Int32} {i : Nat} {fa : Int32} {fm : Int32} {tl : Int32} {lk : Nat} {al : Nat} {ind : Nat} {sk : Nat} {dp : Nat} {lv : Nat} {fr : Bool} {en : Nat} {nf : Nat} {nn : Nat} {dg : Nat} {nu : Int32} {kd : Nat} {pn : Int32} {pe : Nat} {T : List Nat} {xs : List Nat} {L : List (Nat × Nat)} {ps : List (Nat × Nat × Nat)} {L1 : List (Nat × Nat)} {p1 : List (Nat × Nat × Nat)} {nt : List (Nat → Nat)} {tb : List Nat} {fd : List Nat} {c s : Nat} {Q : Option Value → bp_H → Nat → Nat → Prop}
set_option maxRecDepth 100000 in
set_option maxHeartbeats 4000000 in
theorem s_Mo_writeTagged  (hB0 : MoX M h0 h tw i fa fm tl lk al ind sk dp lv fr en nf nn dg nu kd pn pe T xs L ps L1 p1 nt tb fd) (okp : okP L ps) (hl : (twM L ps).length ≤ 18160) (hQ : ∀ h', MoX M h0 h' 0 i fa fm tl lk al ind sk dp lv fr en nf nn dg nu kd pn pe T (twM L ps) L ps L1 p1 nt tb fd → Q (some (.int (nI (twM L ps).length))) h' c s) : bp_AM l G H0 (3, 67, false, false) M_Mo_writeTagged h c s [.ref (M 0)] Q := by
  refine bp_of (ls := [some (.ref (M 0)), none, none]) (by decide) dt_Mo_writeTagged (Nat.le_of_ble_eq_true rfl) (fun q hq => hq) false ?_
  refine bp_aload_n (q := 1) 0 rfl rfl rfl rfl ?_
  refine bp_iconst (v := 0) (q := 2) 1 rfl rfl (by decide) ?_
  refine bp_putI (q := 5) (ci := 9) (j := 0) 2 rfl rfl fl_Mo_52_9 cl9 hB0.kb (fun r hr => by cases hr; rfl) (by decide) rfl rfl ?_
  refine bp_nx (X := fun h1 => MoX M h0 h1 0 i fa fm tl lk al ind sk dp lv fr en nf nn dg nu kd pn pe T xs L ps L1 p1 nt tb fd) (hB0.s0 rfl) (fun h1 hB1 => ?_)
  refine bp_aload_n (q := 6) 3 rfl rfl rfl rfl ?_
  refine bp_iconst (v := 0) (q := 7) 4 rfl rfl (by decide) ?_
  refine bp_putI (q := 10) (ci := 9) (j := 3) 5 rfl rfl fl_Mo_66_9 cl9 hB1.kb (fun r hr => by cases hr; rfl) (by decide) rfl rfl ?_
  refine bp_nx (X := fun h2 => MoX M h0 h2 0 i fa fm tl lk al ind sk dp lv fr en nf nn dg nu kd pn pe T [] L ps L1 p1 nt tb fd) (hB1.set3 (ys := []) rfl (by decide) (fun j hj => absurd hj (Nat.not_lt_zero j))) (fun h2 hB2 => ?_)
  refine bp_iconst (v := 0) (q := 11) 6 rfl rfl (by decide) ?_
  refine bp_istore_n (q := 12) 7 rfl rfl rfl (by decide) (bp_up1 rfl) ?_
  refine lp_Mo_tout okp ps.length 0 h2 [] (Nat.add_zero _) hB2 (by rw [List.length_nil, Nat.zero_add]; exact hl) (fun h9 v9 hB9 => ?_)
  rw [List.nil_append] at hB9
  refine bp_aload_n (q := 208) 112 rfl rfl rfl rfl ?_
  refine bp_getI (q := 211) (ci := 9) (j := 3) 113 rfl rfl fl_Mo_66_9 hB9.kb rfl ?_
  rw [hB9.i3]
  exact bp_iret 114 rfl rfl rfl ⟨_, rfl, hQ _ hB9⟩
set_option maxRecDepth 100000 in
set_option maxHeartbeats 4000000 in
theorem lp_Mo_tab (okp : okP L ps) : ∀ (m j : Nat) (h : bp_H) (ys : List Nat) {v2 : Option Value}, m + j = 8 → 1 ≤ j → MoX M h0 h tw i fa fm tl lk al ind sk dp lv fr en nf nn dg nu kd pn pe T ys L ps L1 p1 nt tb fd → ys.length + 9 * m + 10 ≤ 18200 → (∀ h' (v1 : Option Value × Option Value), MoX M h0 h' tw i fa fm tl lk al ind sk dp lv fr en nf nn dg nu kd pn pe T ((ys ++ btab (enO (lkL L)) m j)) L ps L1 p1 nt tb fd → bp_A l G H0 (3, 68, false, false) M_Mo_writeBraced h' c s 103 [some (.ref (M 0)), v1.1, v1.2] [] (fun o h' c' s' => ∃ v, o = .returned v ∧ Q v h' c' s')) → bp_A l G H0 (3, 68, false, false) M_Mo_writeBraced h c s 52 [some (.ref (M 0)), some (.int (nI j)), v2] [] (fun o h' c' s' => ∃ v, o = .returned v ∧ Q v h' c' s') := by
  intro m
  induction m with
  | zero =>
    intro j h ys v2 hj hj1 hB0 hl hK
    refine bp_iload_n (q := 53) 27 rfl rfl rfl rfl ?_
    refine bp_bipush (v := 8) (q := 55) 28 rfl rfl (by decide) ?_
    refine bp_icmp_ge (q := 58) (tgt := 103) 29 rfl rfl (by decide) (fun z55 => ?_) (fun z55 => ?_)
    · exact hK h (_, _) (by rw [btab, List.append_nil]; exact hB0)
    · exact absurd (nI_le (b := j) (a := 8) (by omega) (by omega)) z55
  | succ m ih =>
    intro j h ys v2 hj hj1 hB0 hl hK
    have n1 := cnT_len j
    refine bp_iload_n (q := 53) 27 rfl rfl rfl rfl ?_
    refine bp_bipush (v := 8) (q := 55) 28 rfl rfl (by decide) ?_
    refine bp_icmp_ge (q := 58) (tgt := 103) 29 rfl rfl (by decide) (fun z55 => ?_) (fun z55 => ?_)
    · exact absurd z55 (nI_ge (a := j) (b := 8) (by omega) (by decide))
    · refine bp_aload_n (q := 59) 30 rfl rfl rfl rfl ?_
      refine bp_aload_n (q := 60) 31 rfl rfl rfl rfl ?_
      refine bp_iload_n (q := 61) 32 rfl rfl rfl rfl ?_
      refine bp_callV (q := 64) (ci := 9) 33 rfl rfl cw_Mo_usesColour lk_Mo_336 rfl hB0.kb wd1643 wd75 rfl rfl (Nat.le_of_ble_eq_true rfl) ⟨Nat.le_of_ble_eq_true rfl, Nat.le_of_ble_eq_true rfl⟩ (s_Mo_usesColour (ro := false) (j := j) hB0 okp (by omega) ?_)
      refine bp_if_eq (q := 67) (tgt := 74) 34 rfl rfl (by decide) (fun z64 => ?_) (fun z64 => ?_)
      · refine bp_lconst (v := 0) (q := 75) 38 rfl rfl (by decide) ?_
        refine bp_callV (q := 78) (ci := 9) 39 rfl rfl cw_Mo_putText lk_Mo_345 rfl hB0.kb wd1647 wd76 rfl rfl (Nat.le_of_ble_eq_true rfl) ⟨Nat.le_of_ble_eq_true rfl, Nat.le_of_ble_eq_true rfl⟩ (s_Mo_putText hB0 ltx_0 (by (try simp only [List.length_append, List.length_cons, List.length_nil]); omega) (fun h1 hB1 => ?_))
        refine bp_aload_n (q := 79) 40 rfl rfl rfl rfl ?_
        refine bp_aload_n (q := 80) 41 rfl rfl rfl rfl ?_
        refine bp_iload_n (q := 81) 42 rfl rfl rfl rfl ?_
        refine bp_callV (q := 84) (ci := 9) 43 rfl rfl cw_Mo_usesColour lk_Mo_336 rfl hB1.kb wd1643 wd75 rfl rfl (Nat.le_of_ble_eq_true rfl) ⟨Nat.le_of_ble_eq_true rfl, Nat.le_of_ble_eq_true rfl⟩ (s_Mo_usesColour (ro := false) (j := j) hB1 okp (by omega) ?_)
        refine bp_if_eq (q := 87) (tgt := 93) 44 rfl rfl (by decide) (fun z84 => ?_) (fun z84 => ?_)
        · refine bp_lconst (v := 0) (q := 94) 47 rfl rfl (by decide) ?_
          refine bp_callV (q := 97) (ci := 9) 48 rfl rfl cw_Mo_putText lk_Mo_345 rfl hB1.kb wd1647 wd76 rfl rfl (Nat.le_of_ble_eq_true rfl) ⟨Nat.le_of_ble_eq_true rfl, Nat.le_of_ble_eq_true rfl⟩ (s_Mo_putText hB1 ltx_0 (by (try simp only [List.length_append, List.length_cons, List.length_nil]); omega) (fun h2 hB2 => ?_))
          refine bp_iinc (v := nI (j + 1)) (q := 100) 49 rfl rfl rfl (nI_1 j) (by decide) (bp_up1 rfl) ?_
          refine bp_goto (tgt := 52) 50 rfl (by decide) ?_
          have yu := bI0.mp z64
          have ye : enO (lkL L) j = 0 := by unfold enO; rw [if_neg (by omega), yu]; rfl
          have e_ : ys ++ [] ++ [] = ys ++ (if enO (lkL L) j = 0 then [] else cnT j ++ [59]) := by simp [ye]
          rw [e_] at hB2
          refine ih (j + 1) _ _ (by omega) (by omega) hB2 (by rw [List.length_append]; split <;> simp <;> omega) (fun h9 v9 hB9 => hK h9 v9 ?_)
          rw [btab, ← List.append_assoc]
          exact hB9
        · refine bp_ldc2 (q := 90) 45 rfl rfl wd1652 ?_
          refine bp_goto (tgt := 94) 46 rfl (by decide) ?_
          refine bp_callV (q := 97) (ci := 9) 48 rfl rfl cw_Mo_putText lk_Mo_345 rfl hB1.kb wd1647 wd76 rfl rfl (Nat.le_of_ble_eq_true rfl) ⟨Nat.le_of_ble_eq_true rfl, Nat.le_of_ble_eq_true rfl⟩ (s_Mo_putText hB1 lt_375 (by (try simp only [List.length_append, List.length_cons, List.length_nil]); omega) (fun h2 hB2 => ?_))
          refine bp_iinc (v := nI (j + 1)) (q := 100) 49 rfl rfl rfl (nI_1 j) (by decide) (bp_up1 rfl) ?_
          refine bp_goto (tgt := 52) 50 rfl (by decide) ?_
          exact absurd (bI1 z84) (by rw [bI0.mp z64]; decide)
      · refine bp_iload_n (q := 68) 35 rfl rfl rfl rfl ?_
        refine bp_callS (q := 71) 36 rfl rfl cw_Mo_colourName lk_Mo_371 wd1650 rfl rfl (Nat.le_of_ble_eq_true rfl) ⟨Nat.le_of_ble_eq_true rfl, Nat.le_of_ble_eq_true rfl⟩ (s_Mo_colourName (ro := false) (j := j) (by omega) (fun vv hv => ?_))
        refine bp_goto (tgt := 75) 37 rfl (by decide) ?_
        refine bp_callV (q := 78) (ci := 9) 39 rfl rfl cw_Mo_putText lk_Mo_345 rfl hB0.kb wd1647 wd76 rfl rfl (Nat.le_of_ble_eq_true rfl) ⟨Nat.le_of_ble_eq_true rfl, Nat.le_of_ble_eq_true rfl⟩ (s_Mo_putText hB0 hv (by (try simp only [List.length_append, List.length_cons, List.length_nil]); omega) (fun h1 hB1 => ?_))
        refine bp_aload_n (q := 79) 40 rfl rfl rfl rfl ?_
        refine bp_aload_n (q := 80) 41 rfl rfl rfl rfl ?_
        refine bp_iload_n (q := 81) 42 rfl rfl rfl rfl ?_
        refine bp_callV (q := 84) (ci := 9) 43 rfl rfl cw_Mo_usesColour lk_Mo_336 rfl hB1.kb wd1643 wd75 rfl rfl (Nat.le_of_ble_eq_true rfl) ⟨Nat.le_of_ble_eq_true rfl, Nat.le_of_ble_eq_true rfl⟩ (s_Mo_usesColour (ro := false) (j := j) hB1 okp (by omega) ?_)
        refine bp_if_eq (q := 87) (tgt := 93) 44 rfl rfl (by decide) (fun z84 => ?_) (fun z84 => ?_)
        · refine bp_lconst (v := 0) (q := 94) 47 rfl rfl (by decide) ?_
          refine bp_callV (q := 97) (ci := 9) 48 rfl rfl cw_Mo_putText lk_Mo_345 rfl hB1.kb wd1647 wd76 rfl rfl (Nat.le_of_ble_eq_true rfl) ⟨Nat.le_of_ble_eq_true rfl, Nat.le_of_ble_eq_true rfl⟩ (s_Mo_putText hB1 ltx_0 (by (try simp only [List.length_append, List.length_cons, List.length_nil]); omega) (fun h2 hB2 => ?_))
          refine bp_iinc (v := nI (j + 1)) (q := 100) 49 rfl rfl rfl (nI_1 j) (by decide) (bp_up1 rfl) ?_
          refine bp_goto (tgt := 52) 50 rfl (by decide) ?_
          exact absurd (bI1 z64) (by rw [bI0.mp z84]; decide)
        · refine bp_ldc2 (q := 90) 45 rfl rfl wd1652 ?_
          refine bp_goto (tgt := 94) 46 rfl (by decide) ?_
          refine bp_callV (q := 97) (ci := 9) 48 rfl rfl cw_Mo_putText lk_Mo_345 rfl hB1.kb wd1647 wd76 rfl rfl (Nat.le_of_ble_eq_true rfl) ⟨Nat.le_of_ble_eq_true rfl, Nat.le_of_ble_eq_true rfl⟩ (s_Mo_putText hB1 lt_375 (by (try simp only [List.length_append, List.length_cons, List.length_nil]); omega) (fun h2 hB2 => ?_))
          refine bp_iinc (v := nI (j + 1)) (q := 100) 49 rfl rfl rfl (nI_1 j) (by decide) (bp_up1 rfl) ?_
          refine bp_goto (tgt := 52) 50 rfl (by decide) ?_
          have yu := bI1 z64
          have ye : ¬ enO (lkL L) j = 0 := by rw [(enO_c (by omega) yu).1]; exact (enO_c (by omega) yu).2
          have e_ : ys ++ cnT j ++ [59] = ys ++ (if enO (lkL L) j = 0 then [] else cnT j ++ [59]) := by simp [ye]
          rw [e_] at hB2
          refine ih (j + 1) _ _ (by omega) (by omega) hB2 (by rw [List.length_append]; split <;> simp <;> omega) (fun h9 v9 hB9 => hK h9 v9 ?_)
          rw [btab, ← List.append_assoc]
          exact hB9
set_option maxRecDepth 100000 in
set_option maxHeartbeats 4000000 in
theorem tl_Mo_wb {ys : List Nat} {v1 v2 : Option Value} (okp : okP L ps) (hB0 : MoX M h0 h 0 i fa fm tl lk al ind sk dp lv fr en nf nn dg nu kd pn pe T ys L ps L1 p1 nt tb fd) (hl : ys.length + (mpag bwP (bwS (enO (lkL L))) bwL (fun _ => [125]) [92, 112, 97, 114] L ps ps.length 0).length + 1 ≤ 18160) (hQ : ∀ h', MoX M h0 h' 0 i fa fm tl lk al ind sk dp lv fr en nf nn dg nu kd pn pe T ((ys ++ (mpag bwP (bwS (enO (lkL L))) bwL (fun _ => [125]) [92, 112, 97, 114] L ps ps.length 0 ++ [125]))) L ps L1 p1 nt tb fd → Q (some (.int (nI (ys ++ (mpag bwP (bwS (enO (lkL L))) bwL (fun _ => [125]) [92, 112, 97, 114] L ps ps.length 0 ++ [125])).length))) h' c s) : bp_A l G H0 (3, 68, false, false) M_Mo_writeBraced h c s 109 [some (.ref (M 0)), v1, v2] [] (fun o h' c' s' => ∃ v, o = .returned v ∧ Q v h' c' s') := by
  refine bp_iconst (v := 0) (q := 110) 54 rfl rfl (by decide) ?_
  refine bp_istore_n (q := 111) 55 rfl rfl rfl (by decide) (bp_up1 rfl) ?_
  refine lp_Mo_bout okp ps.length 0 h ys (Nat.add_zero _) hB0 (by omega) (fun h9 v9 hB9 => ?_)
  refine bp_aload_n (q := 280) 144 rfl rfl rfl rfl ?_
  refine bp_bipush (v := 125) (q := 282) 145 rfl rfl (by decide) ?_
  refine bp_callV (q := 285) (ci := 9) 146 rfl rfl cw_Mo_put lk_Mo_332 rfl hB9.kb wd1635 wd73 rfl rfl (Nat.le_of_ble_eq_true rfl) ⟨Nat.le_of_ble_eq_true rfl, Nat.le_of_ble_eq_true rfl⟩ (s_Mo_put (v := 125) hB9 (by omega) (by rw [List.length_append]; omega) (fun h10 hB10 => ?_))
  refine bp_aload_n (q := 286) 147 rfl rfl rfl rfl ?_
  refine bp_getI (q := 289) (ci := 9) (j := 3) 148 rfl rfl fl_Mo_66_9 hB10.kb rfl ?_
  rw [hB10.i3]
  refine bp_iret 149 rfl rfl rfl ⟨_, rfl, ?_⟩
  rw [List.append_assoc] at hB10 ⊢
  exact hQ _ hB10
theorem btab_len (en : Nat → Nat) : ∀ n k, (btab en n k).length ≤ 10 * n
  | 0, k => Nat.le_refl _
  | n + 1, k => by
    have h1 := btab_len en n (k + 1)
    have h2 := cnT_len k
    unfold btab
    rw [List.length_append]
    split <;> simp <;> omega
set_option maxRecDepth 100000 in
set_option maxHeartbeats 4000000 in
theorem s_Mo_writeBraced  (hB0 : MoX M h0 h tw i fa fm tl lk al ind sk dp lv fr en nf nn dg nu kd pn pe T xs L ps L1 p1 nt tb fd) (okp : okP L ps) (hl : (bwM L ps).length ≤ 18160) (hQ : ∀ h', MoX M h0 h' 0 i fa fm tl lk al ind sk dp lv fr en nf nn dg nu kd pn pe T (bwM L ps) L ps L1 p1 nt tb fd → Q (some (.int (nI (bwM L ps).length))) h' c s) : bp_AM l G H0 (3, 68, false, false) M_Mo_writeBraced h c s [.ref (M 0)] Q := by
  refine bp_of (ls := [some (.ref (M 0)), none, none]) (by decide) dt_Mo_writeBraced (Nat.le_of_ble_eq_true rfl) (fun q hq => hq) false ?_
  refine bp_aload_n (q := 1) 0 rfl rfl rfl rfl ?_
  refine bp_iconst (v := 0) (q := 2) 1 rfl rfl (by decide) ?_
  refine bp_putI (q := 5) (ci := 9) (j := 0) 2 rfl rfl fl_Mo_52_9 cl9 hB0.kb (fun r hr => by cases hr; rfl) (by decide) rfl rfl ?_
  refine bp_nx (X := fun h1 => MoX M h0 h1 0 i fa fm tl lk al ind sk dp lv fr en nf nn dg nu kd pn pe T xs L ps L1 p1 nt tb fd) (hB0.s0 rfl) (fun h1 hB1 => ?_)
  refine bp_aload_n (q := 6) 3 rfl rfl rfl rfl ?_
  refine bp_iconst (v := 0) (q := 7) 4 rfl rfl (by decide) ?_
  refine bp_putI (q := 10) (ci := 9) (j := 3) 5 rfl rfl fl_Mo_66_9 cl9 hB1.kb (fun r hr => by cases hr; rfl) (by decide) rfl rfl ?_
  refine bp_nx (X := fun h2 => MoX M h0 h2 0 i fa fm tl lk al ind sk dp lv fr en nf nn dg nu kd pn pe T [] L ps L1 p1 nt tb fd) (hB1.set3 (ys := []) rfl (by decide) (fun j hj => absurd hj (Nat.not_lt_zero j))) (fun h2 hB2 => ?_)
  refine bp_aload_n (q := 11) 6 rfl rfl rfl rfl ?_
  refine bp_bipush (v := 123) (q := 13) 7 rfl rfl (by decide) ?_
  refine bp_callV (q := 16) (ci := 9) 8 rfl rfl cw_Mo_put lk_Mo_332 rfl hB2.kb wd1635 wd73 rfl rfl (Nat.le_of_ble_eq_true rfl) ⟨Nat.le_of_ble_eq_true rfl, Nat.le_of_ble_eq_true rfl⟩ (s_Mo_put (v := 123) hB2 (by omega) (by (try simp only [List.length_append, List.length_cons, List.length_nil]); omega) (fun h3 hB3 => ?_))
  refine bp_aload_n (q := 17) 9 rfl rfl rfl rfl ?_
  refine bp_bipush (v := 7) (q := 19) 10 rfl rfl (by decide) ?_
  refine bp_callV (q := 22) (ci := 9) 11 rfl rfl cw_Mo_entryOf lk_Mo_360 rfl hB3.kb wd1639 wd74 rfl rfl (Nat.le_of_ble_eq_true rfl) ⟨Nat.le_of_ble_eq_true rfl, Nat.le_of_ble_eq_true rfl⟩ (s_Mo_entryOf (ro := false) (j := 7) hB3 okp (by decide) ?_)
  refine bp_if_le (q := 25) (tgt := 109) 12 rfl rfl (by decide) (fun z22 => ?_) (fun z22 => ?_)
  · have yc : cu (lkL L) 7 = 0 := by have := (nI_le_iff (b := 0) (by have := cu_le (lkL L) 7; omega) (by decide)).mp z22; omega
    have e_ : [] ++ [123] = bwH (lkL L) := by unfold bwH; rw [if_pos yc]; rfl
    rw [e_] at hB3
    exact tl_Mo_wb okp hB3 (by unfold bwM at hl; simp only [List.length_append, List.length_cons, List.length_nil] at hl ⊢; omega) hQ
  · refine bp_aload_n (q := 26) 13 rfl rfl rfl rfl ?_
    refine bp_bipush (v := 123) (q := 28) 14 rfl rfl (by decide) ?_
    refine bp_callV (q := 31) (ci := 9) 15 rfl rfl cw_Mo_put lk_Mo_332 rfl hB3.kb wd1635 wd73 rfl rfl (Nat.le_of_ble_eq_true rfl) ⟨Nat.le_of_ble_eq_true rfl, Nat.le_of_ble_eq_true rfl⟩ (s_Mo_put (v := 123) hB3 (by omega) (by (try simp only [List.length_append, List.length_cons, List.length_nil]); omega) (fun h4 hB4 => ?_))
    refine bp_aload_n (q := 32) 16 rfl rfl rfl rfl ?_
    refine bp_bipush (v := 92) (q := 34) 17 rfl rfl (by decide) ?_
    refine bp_callV (q := 37) (ci := 9) 18 rfl rfl cw_Mo_put lk_Mo_332 rfl hB4.kb wd1635 wd73 rfl rfl (Nat.le_of_ble_eq_true rfl) ⟨Nat.le_of_ble_eq_true rfl, Nat.le_of_ble_eq_true rfl⟩ (s_Mo_put (v := 92) hB4 (by omega) (by (try simp only [List.length_append, List.length_cons, List.length_nil]); omega) (fun h5 hB5 => ?_))
    refine bp_aload_n (q := 38) 19 rfl rfl rfl rfl ?_
    refine bp_ldc2 (q := 41) 20 rfl rfl wd1525 ?_
    refine bp_callV (q := 44) (ci := 9) 21 rfl rfl cw_Mo_putText lk_Mo_345 rfl hB5.kb wd1647 wd76 rfl rfl (Nat.le_of_ble_eq_true rfl) ⟨Nat.le_of_ble_eq_true rfl, Nat.le_of_ble_eq_true rfl⟩ (s_Mo_putText hB5 lt_225 (by (try simp only [List.length_append, List.length_cons, List.length_nil]); omega) (fun h6 hB6 => ?_))
    refine bp_aload_n (q := 45) 22 rfl rfl rfl rfl ?_
    refine bp_bipush (v := 59) (q := 47) 23 rfl rfl (by decide) ?_
    refine bp_callV (q := 50) (ci := 9) 24 rfl rfl cw_Mo_put lk_Mo_332 rfl hB6.kb wd1635 wd73 rfl rfl (Nat.le_of_ble_eq_true rfl) ⟨Nat.le_of_ble_eq_true rfl, Nat.le_of_ble_eq_true rfl⟩ (s_Mo_put (v := 59) hB6 (by omega) (by (try simp only [List.length_append, List.length_cons, List.length_nil]); omega) (fun h7 hB7 => ?_))
    refine bp_iconst (v := 1) (q := 51) 25 rfl rfl (by decide) ?_
    refine bp_istore_n (q := 52) 26 rfl rfl rfl (by decide) (bp_up1 rfl) ?_
    have yc : ¬ cu (lkL L) 7 = 0 := fun q => z22 (by rw [q]; decide)
    refine lp_Mo_tab okp 7 1 _ _ rfl (by decide) hB7 (by simp) (fun h8 v8 hB8 => ?_)
    have nb : (btab (enO (lkL L)) 7 1).length ≤ 70 := btab_len _ _ _
    refine bp_aload_n (q := 104) 51 rfl rfl rfl rfl ?_
    refine bp_bipush (v := 125) (q := 106) 52 rfl rfl (by decide) ?_
    refine bp_callV (q := 109) (ci := 9) 53 rfl rfl cw_Mo_put lk_Mo_332 rfl hB8.kb wd1635 wd73 rfl rfl (Nat.le_of_ble_eq_true rfl) ⟨Nat.le_of_ble_eq_true rfl, Nat.le_of_ble_eq_true rfl⟩ (s_Mo_put (v := 125) hB8 (by omega) (by rw [List.length_append]; simp; omega) (fun h9 hB9 => ?_))
    have e_ : (([] ++ [123] ++ [123] ++ [92] ++ [99, 111, 108, 111, 114, 116, 98, 108] ++ [59] ++ btab (enO (lkL L)) 7 1)) ++ [125] = bwH (lkL L) := by unfold bwH; rw [if_neg yc]; unfold bwT; simp
    rw [e_] at hB9
    exact tl_Mo_wb okp hB9 (by unfold bwM at hl; simp only [List.length_append, List.length_cons, List.length_nil] at hl ⊢; omega) hQ
end MO7
