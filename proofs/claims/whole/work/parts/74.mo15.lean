/-! the reference's scan, pass -/
theorem dgE_0 {T : List Nat} {n k : Nat} (h : ¬ dgL (tc T k) = true) : dgE T n k 0 0 = (k, 0, 0) := by
  cases n with
  | zero => rfl
  | succ n => rw [dgE, if_neg h]
theorem nuD_s {T : List Nat} {k : Nat} (h1 : tc T k = 45) (h2 : dgL (tc T (k + 1)) = true) : nuD T k ≠ 0 := by
  have e : nuK T k = k + 1 := if_pos h1
  have hi := dg_in h2
  unfold nuD nuX
  rw [e]
  obtain ⟨n, hn⟩ : ∃ n, T.length - (k + 1) = n + 1 := ⟨T.length - (k + 1) - 1, by omega⟩
  rw [hn, dgE, if_pos h2]
  have := dgE_in T n (k + 1 + 1) (0 + 1) (if 0 + 1 ≤ 5 then 10 * 0 + (tc T (k + 1) - 48) else 0) (by omega)
  have m : ∀ m k d x, d ≤ (dgE T m k d x).2.1 := by
    intro m
    induction m with
    | zero => intro k d x; exact Nat.le_refl _
    | succ m ih =>
      intro k d x
      rw [dgE]
      split
      · have := ih (k + 1) (d + 1) (if d + 1 ≤ 5 then 10 * x + (tc T k - 48) else x); omega
      · exact Nat.le_refl _
  have := m n (k + 1 + 1) (0 + 1) (if 0 + 1 ≤ 5 then 10 * 0 + (tc T (k + 1) - 48) else 0)
  omega
theorem dg_48 {n : Nat} (h : dgL n = true) : 48 ≤ n ∧ n ≤ 57 := by
  unfold dgL at h
  simp at h
  exact h
section MO15
variable {l : Launch} {G : bp_G} {H0 : Heap} {M : Nat → Nat} {h0 h : bp_H} {tw : Int32} {i : Nat} {fa : Int32} {fm : Int32} {tl : Int32} {lk : Nat} {al : Nat} {ind : Nat} {sk : Nat} {dp : Nat} {lv : Nat} {fr : Bool} {en : Nat} {nf : Nat} {nn : Nat} {dg : Nat} {nu : Int32} {kd : Nat} {pn : Int32} {pe : Nat} {T : List Nat} {xs : List Nat} {L : List (Nat × Nat)} {ps : List (Nat × Nat × Nat)} {L1 : List (Nat × Nat)} {p1 : List (Nat × Nat × Nat)} {nt : List (Nat → Nat)} {tb : List Nat} {fd : List Nat} {c s : Nat} {Q : Option Value → bp_H → Nat → Nat → Prop}
set_option maxRecDepth 100000 in
set_option maxHeartbeats 4000000 in
theorem lp_Mo_scan1 {Q : Outcome → bp_H → Nat → Nat → Prop} (hT : okT T) : ∀ (n k : Nat) (h : bp_H), k ≤ T.length → T.length ≤ n + k → MoX M h0 h tw k fa fm tl lk al ind sk dp lv fr en nf nn dg nu kd pn pe T xs L ps L1 p1 nt tb fd → (∀ h', MoX M h0 h' tw (slE T n k) fa fm tl lk al ind sk dp lv fr en nf nn dg nu kd pn pe T xs L ps L1 p1 nt tb fd → bp_A l G H0 (1, 21, false, false) M_Mo_scan h' c s 47 [some (.ref (M 0)), none] [] Q) → bp_A l G H0 (1, 21, false, false) M_Mo_scan h c s 20 [some (.ref (M 0)), none] [] Q := by
  have hT4 := hT.1
  intro n
  induction n with
  | zero =>
    intro k h hk hn hB0 hQ
    refine bp_aload_n (q := 21) 12 rfl rfl rfl rfl ?_
    refine bp_aload_n (q := 22) 13 rfl rfl rfl rfl ?_
    refine bp_getI (q := 25) (ci := 9) (j := 12) 14 rfl rfl fl_Mo_90_9 hB0.kb rfl ?_
    rw [hB0.i12]
    refine bp_callV (q := 28) (ci := 9) 15 rfl rfl cw_Mo_charAt lk_Mo_83 rfl hB0.kb wd1445 wd43 rfl rfl (Nat.le_of_ble_eq_true rfl) ⟨Nat.le_of_ble_eq_true rfl, Nat.le_of_ble_eq_true rfl⟩ (s_Mo_charAt (ro := false) hB0 hT (by omega) ?_)
    refine bp_callS (q := 31) 16 rfl rfl cw_Mo_small lk_Mo_162 wd1472 rfl rfl (Nat.le_of_ble_eq_true rfl) ⟨Nat.le_of_ble_eq_true rfl, Nat.le_of_ble_eq_true rfl⟩ (s_Mo_small (ro := false) (by have := tc_lt hT k; omega) ?_)
    refine bp_if_eq (q := 34) (tgt := 47) 17 rfl rfl (by decide) (fun z31 => ?_) (fun z31 => ?_)
    · exact hQ _ hB0
    · exact absurd (sm_in (bI1 z31)) (by omega)
  | succ n ih =>
    intro k h hk hn hB0 hQ
    refine bp_aload_n (q := 21) 12 rfl rfl rfl rfl ?_
    refine bp_aload_n (q := 22) 13 rfl rfl rfl rfl ?_
    refine bp_getI (q := 25) (ci := 9) (j := 12) 14 rfl rfl fl_Mo_90_9 hB0.kb rfl ?_
    rw [hB0.i12]
    refine bp_callV (q := 28) (ci := 9) 15 rfl rfl cw_Mo_charAt lk_Mo_83 rfl hB0.kb wd1445 wd43 rfl rfl (Nat.le_of_ble_eq_true rfl) ⟨Nat.le_of_ble_eq_true rfl, Nat.le_of_ble_eq_true rfl⟩ (s_Mo_charAt (ro := false) hB0 hT (by omega) ?_)
    refine bp_callS (q := 31) 16 rfl rfl cw_Mo_small lk_Mo_162 wd1472 rfl rfl (Nat.le_of_ble_eq_true rfl) ⟨Nat.le_of_ble_eq_true rfl, Nat.le_of_ble_eq_true rfl⟩ (s_Mo_small (ro := false) (by have := tc_lt hT k; omega) ?_)
    refine bp_if_eq (q := 34) (tgt := 47) 17 rfl rfl (by decide) (fun z31 => ?_) (fun z31 => ?_)
    · rw [slE, if_neg (by rw [bI0.mp z31]; decide)] at hQ
      exact hQ _ hB0
    · refine bp_aload_n (q := 35) 18 rfl rfl rfl rfl ?_
      refine bp_dup (q := 36) 19 rfl rfl rfl ?_
      refine bp_getI (q := 39) (ci := 9) (j := 12) 20 rfl rfl fl_Mo_90_9 hB0.kb rfl ?_
      rw [hB0.i12]
      refine bp_iconst (v := 1) (q := 40) 21 rfl rfl (by decide) ?_
      refine bp_iadd (q := 41) 22 rfl rfl ?_
      refine bp_putI (q := 44) (ci := 9) (j := 12) 23 rfl rfl fl_Mo_90_9 cl9 hB0.kb (fun r hr => by cases hr; rfl) (by decide) rfl rfl ?_
      refine bp_nx (X := fun h1 => MoX M h0 h1 tw (k + 1) fa fm tl lk al ind sk dp lv fr en nf nn dg nu kd pn pe T xs L ps L1 p1 nt tb fd) (hB0.s12 (nI_1 k)) (fun h1 hB1 => ?_)
      refine bp_goto (tgt := 20) 24 rfl (by decide) ?_
      rw [slE, if_pos (bI1 z31)] at hQ
      exact ih (k + 1) _ (by have := sm_in (bI1 z31); omega) (by omega) hB1 hQ
set_option maxRecDepth 100000 in
set_option maxHeartbeats 4000000 in
theorem lp_Mo_scan2 {Q : Outcome → bp_H → Nat → Nat → Prop} {r : Int32} (hT : okT T) : ∀ (n k d x : Nat) (nu : Int32) (h : bp_H), k ≤ T.length → T.length ≤ n + k → d ≤ k → (d ≤ 5 → nu = nI x) → MoX M h0 h tw k fa fm tl lk al ind sk dp lv fr en nf nn d nu kd pn pe T xs L ps L1 p1 nt tb fd → (∀ h' nu', ((dgE T n k d x).2.1 ≤ 5 → nu' = nI (dgE T n k d x).2.2) → MoX M h0 h' tw ((dgE T n k d x).1) fa fm tl lk al ind sk dp lv fr en nf nn ((dgE T n k d x).2.1) nu' kd pn pe T xs L ps L1 p1 nt tb fd → bp_A l G H0 (1, 21, false, false) M_Mo_scan h' c s 191 [some (.ref (M 0)), some (.int r)] [] Q) → bp_A l G H0 (1, 21, false, false) M_Mo_scan h c s 118 [some (.ref (M 0)), some (.int r)] [] Q := by
  have hT4 := hT.1
  intro n
  induction n with
  | zero =>
    intro k d x nu h hk hn hdk hnu hB0 hQ
    refine bp_aload_n (q := 119) 63 rfl rfl rfl rfl ?_
    refine bp_aload_n (q := 120) 64 rfl rfl rfl rfl ?_
    refine bp_getI (q := 123) (ci := 9) (j := 12) 65 rfl rfl fl_Mo_90_9 hB0.kb rfl ?_
    rw [hB0.i12]
    refine bp_callV (q := 126) (ci := 9) 66 rfl rfl cw_Mo_charAt lk_Mo_83 rfl hB0.kb wd1445 wd43 rfl rfl (Nat.le_of_ble_eq_true rfl) ⟨Nat.le_of_ble_eq_true rfl, Nat.le_of_ble_eq_true rfl⟩ (s_Mo_charAt (ro := false) hB0 hT (by omega) ?_)
    refine bp_callS (q := 129) 67 rfl rfl cw_Mo_digit lk_Mo_158 wd1479 rfl rfl (Nat.le_of_ble_eq_true rfl) ⟨Nat.le_of_ble_eq_true rfl, Nat.le_of_ble_eq_true rfl⟩ (s_Mo_digit (ro := false) (by have := tc_lt hT k; omega) ?_)
    refine bp_if_eq (q := 132) (tgt := 191) 68 rfl rfl (by decide) (fun z129 => ?_) (fun z129 => ?_)
    · exact hQ _ _ hnu hB0
    · exact absurd (dg_in (bI1 z129)) (by omega)
  | succ n ih =>
    intro k d x nu h hk hn hdk hnu hB0 hQ
    refine bp_aload_n (q := 119) 63 rfl rfl rfl rfl ?_
    refine bp_aload_n (q := 120) 64 rfl rfl rfl rfl ?_
    refine bp_getI (q := 123) (ci := 9) (j := 12) 65 rfl rfl fl_Mo_90_9 hB0.kb rfl ?_
    rw [hB0.i12]
    refine bp_callV (q := 126) (ci := 9) 66 rfl rfl cw_Mo_charAt lk_Mo_83 rfl hB0.kb wd1445 wd43 rfl rfl (Nat.le_of_ble_eq_true rfl) ⟨Nat.le_of_ble_eq_true rfl, Nat.le_of_ble_eq_true rfl⟩ (s_Mo_charAt (ro := false) hB0 hT (by omega) ?_)
    refine bp_callS (q := 129) 67 rfl rfl cw_Mo_digit lk_Mo_158 wd1479 rfl rfl (Nat.le_of_ble_eq_true rfl) ⟨Nat.le_of_ble_eq_true rfl, Nat.le_of_ble_eq_true rfl⟩ (s_Mo_digit (ro := false) (by have := tc_lt hT k; omega) ?_)
    refine bp_if_eq (q := 132) (tgt := 191) 68 rfl rfl (by decide) (fun z129 => ?_) (fun z129 => ?_)
    · rw [dgE, if_neg (by rw [bI0.mp z129]; decide)] at hQ
      exact hQ _ _ hnu hB0
    · refine bp_aload_n (q := 133) 69 rfl rfl rfl rfl ?_
      have yd := bI1 z129
      have hkT := dg_in yd
      refine bp_dup (q := 134) 70 rfl rfl rfl ?_
      refine bp_getI (q := 137) (ci := 9) (j := 29) 71 rfl rfl fl_Mo_185_9 hB0.kb rfl ?_
      rw [hB0.i29]
      refine bp_iconst (v := 1) (q := 138) 72 rfl rfl (by decide) ?_
      refine bp_iadd (q := 139) 73 rfl rfl ?_
      refine bp_putI (q := 142) (ci := 9) (j := 29) 74 rfl rfl fl_Mo_185_9 cl9 hB0.kb (fun r hr => by cases hr; rfl) (by decide) rfl rfl ?_
      refine bp_nx (X := fun h1 => MoX M h0 h1 tw k fa fm tl lk al ind sk dp lv fr en nf nn (d + 1) nu kd pn pe T xs L ps L1 p1 nt tb fd) (hB0.s29 (nI_1 d)) (fun h1 hB1 => ?_)
      refine bp_aload_n (q := 143) 75 rfl rfl rfl rfl ?_
      refine bp_aload_n (q := 144) 76 rfl rfl rfl rfl ?_
      refine bp_getI (q := 147) (ci := 9) (j := 29) 77 rfl rfl fl_Mo_185_9 hB1.kb rfl ?_
      rw [hB1.i29]
      refine bp_bipush (v := 6) (q := 149) 78 rfl rfl (by decide) ?_
      refine bp_icmp_ge (q := 152) (tgt := 174) 79 rfl rfl (by decide) (fun z149 => ?_) (fun z149 => ?_)
      · refine bp_iconst (v := 0) (q := 175) 92 rfl rfl (by decide) ?_
        have y149 : ¬ d + 1 < 6 := by have := (nI_le_iff (a := 6) (by decide) (by omega)).mp z149; omega
        refine bp_putI (q := 178) (ci := 9) (j := 30) 93 rfl rfl fl_Mo_188_9 cl9 hB1.kb (fun r hr => by cases hr; rfl) (by decide) rfl rfl ?_
        refine bp_nx (X := fun h2 => MoX M h0 h2 tw k fa fm tl lk al ind sk dp lv fr en nf nn (d + 1) 0 kd pn pe T xs L ps L1 p1 nt tb fd) (hB1.s30 rfl) (fun h2 hB2 => ?_)
        refine bp_aload_n (q := 179) 94 rfl rfl rfl rfl ?_
        refine bp_dup (q := 180) 95 rfl rfl rfl ?_
        refine bp_getI (q := 183) (ci := 9) (j := 12) 96 rfl rfl fl_Mo_90_9 hB2.kb rfl ?_
        rw [hB2.i12]
        refine bp_iconst (v := 1) (q := 184) 97 rfl rfl (by decide) ?_
        refine bp_iadd (q := 185) 98 rfl rfl ?_
        refine bp_putI (q := 188) (ci := 9) (j := 12) 99 rfl rfl fl_Mo_90_9 cl9 hB2.kb (fun r hr => by cases hr; rfl) (by decide) rfl rfl ?_
        refine bp_nx (X := fun h3 => MoX M h0 h3 tw (k + 1) fa fm tl lk al ind sk dp lv fr en nf nn (d + 1) 0 kd pn pe T xs L ps L1 p1 nt tb fd) (hB2.s12 (nI_1 k)) (fun h3 hB3 => ?_)
        refine bp_goto (tgt := 118) 100 rfl (by decide) ?_
        rw [dgE, if_pos yd] at hQ
        exact ih (k + 1) (d + 1) _ _ _ (by omega) (by omega) (by omega) (fun hd => by first | (exact absurd hd (by omega)) | (rw [if_pos (by omega)])) hB3 hQ
      · refine bp_bipush (v := 10) (q := 154) 80 rfl rfl (by decide) ?_
        have y149 : d + 1 < 6 := by have := mt (nI_le_iff (a := 6) (b := d + 1) (by decide) (by omega)).mpr z149; omega
        refine bp_aload_n (q := 155) 81 rfl rfl rfl rfl ?_
        refine bp_getI (q := 158) (ci := 9) (j := 30) 82 rfl rfl fl_Mo_188_9 hB1.kb rfl ?_
        rw [hB1.i30]
        refine bp_imul (q := 159) 83 rfl rfl ?_
        refine bp_aload_n (q := 160) 84 rfl rfl rfl rfl ?_
        refine bp_aload_n (q := 161) 85 rfl rfl rfl rfl ?_
        refine bp_getI (q := 164) (ci := 9) (j := 12) 86 rfl rfl fl_Mo_90_9 hB1.kb rfl ?_
        rw [hB1.i12]
        refine bp_callV (q := 167) (ci := 9) 87 rfl rfl cw_Mo_charAt lk_Mo_83 rfl hB1.kb wd1445 wd43 rfl rfl (Nat.le_of_ble_eq_true rfl) ⟨Nat.le_of_ble_eq_true rfl, Nat.le_of_ble_eq_true rfl⟩ (s_Mo_charAt (ro := false) hB1 hT (by omega) ?_)
        refine bp_iadd (q := 168) 88 rfl rfl ?_
        refine bp_bipush (v := 48) (q := 170) 89 rfl rfl (by decide) ?_
        refine bp_isub (q := 171) 90 rfl rfl ?_
        refine bp_goto (tgt := 175) 91 rfl (by decide) ?_
        refine bp_putI (q := 178) (ci := 9) (j := 30) 93 rfl rfl fl_Mo_188_9 cl9 hB1.kb (fun r hr => by cases hr; rfl) (by decide) rfl rfl ?_
        refine bp_nx (X := fun h2 => MoX M h0 h2 tw k fa fm tl lk al ind sk dp lv fr en nf nn (d + 1) (nI (10 * x + (tc T k - 48))) kd pn pe T xs L ps L1 p1 nt tb fd) (hB1.s30 (by have := dg_48 yd; rw [hnu (by omega), show (10 : Int32) = nI 10 from rfl, nI_mul, nI_add]; exact (nI_sub (b := 48) (by omega)).trans (congrArg nI (by omega)))) (fun h2 hB2 => ?_)
        refine bp_aload_n (q := 179) 94 rfl rfl rfl rfl ?_
        refine bp_dup (q := 180) 95 rfl rfl rfl ?_
        refine bp_getI (q := 183) (ci := 9) (j := 12) 96 rfl rfl fl_Mo_90_9 hB2.kb rfl ?_
        rw [hB2.i12]
        refine bp_iconst (v := 1) (q := 184) 97 rfl rfl (by decide) ?_
        refine bp_iadd (q := 185) 98 rfl rfl ?_
        refine bp_putI (q := 188) (ci := 9) (j := 12) 99 rfl rfl fl_Mo_90_9 cl9 hB2.kb (fun r hr => by cases hr; rfl) (by decide) rfl rfl ?_
        refine bp_nx (X := fun h3 => MoX M h0 h3 tw (k + 1) fa fm tl lk al ind sk dp lv fr en nf nn (d + 1) (nI (10 * x + (tc T k - 48))) kd pn pe T xs L ps L1 p1 nt tb fd) (hB2.s12 (nI_1 k)) (fun h3 hB3 => ?_)
        refine bp_goto (tgt := 118) 100 rfl (by decide) ?_
        rw [dgE, if_pos yd] at hQ
        exact ih (k + 1) (d + 1) _ _ _ (by omega) (by omega) (by omega) (fun hd => by first | (exact absurd hd (by omega)) | (rw [if_pos (by omega)])) hB3 hQ
set_option maxRecDepth 100000 in
set_option maxHeartbeats 4000000 in
theorem s_Mo_scan  (hB0 : MoX M h0 h tw i fa fm tl lk al ind sk dp lv fr en nf nn dg nu kd pn pe T xs L ps L1 p1 nt tb fd) (hT : okT T) (hs : smL (tc T (i + 1)) = true) (hQ : ∀ h' nu', (nuD T (wdT T i) ≤ 5 → nu' = nuV T (wdT T i)) → MoX M h0 h' tw (wdN T i) fa fm tl lk al ind sk dp lv fr en (i + 1) (wdT T i) (nuD T (wdT T i)) nu' kd pn pe T xs L ps L1 p1 nt tb fd → Q none h' c s) : bp_AM l G H0 (1, 21, false, false) M_Mo_scan h c s [.ref (M 0)] Q := by
  refine bp_of (ls := [some (.ref (M 0)), none]) (by decide) dt_Mo_scan (Nat.le_of_ble_eq_true rfl) (fun q hq => hq) false ?_
  have hT4 := hT.1
  have hiT := sm_in hs
  have hwT : i + 1 ≤ wdT T i ∧ wdT T i ≤ T.length := slE_in T (T.length - (i + 1)) (i + 1) (by omega)
  have hnN := nuN_in hwT.2
  refine bp_aload_n (q := 1) 0 rfl rfl rfl rfl ?_
  refine bp_aload_n (q := 2) 1 rfl rfl rfl rfl ?_
  refine bp_getI (q := 5) (ci := 9) (j := 12) 2 rfl rfl fl_Mo_90_9 hB0.kb rfl ?_
  rw [hB0.i12]
  refine bp_iconst (v := 1) (q := 6) 3 rfl rfl (by decide) ?_
  refine bp_iadd (q := 7) 4 rfl rfl ?_
  refine bp_putI (q := 10) (ci := 9) (j := 27) 5 rfl rfl fl_Mo_179_9 cl9 hB0.kb (fun r hr => by cases hr; rfl) (by decide) rfl rfl ?_
  refine bp_nx (X := fun h1 => MoX M h0 h1 tw i fa fm tl lk al ind sk dp lv fr en (i + 1) nn dg nu kd pn pe T xs L ps L1 p1 nt tb fd) (hB0.s27 (nI_1 i)) (fun h1 hB1 => ?_)
  refine bp_aload_n (q := 11) 6 rfl rfl rfl rfl ?_
  refine bp_dup (q := 12) 7 rfl rfl rfl ?_
  refine bp_getI (q := 15) (ci := 9) (j := 12) 8 rfl rfl fl_Mo_90_9 hB1.kb rfl ?_
  rw [hB1.i12]
  refine bp_iconst (v := 1) (q := 16) 9 rfl rfl (by decide) ?_
  refine bp_iadd (q := 17) 10 rfl rfl ?_
  refine bp_putI (q := 20) (ci := 9) (j := 12) 11 rfl rfl fl_Mo_90_9 cl9 hB1.kb (fun r hr => by cases hr; rfl) (by decide) rfl rfl ?_
  refine bp_nx (X := fun h2 => MoX M h0 h2 tw (i + 1) fa fm tl lk al ind sk dp lv fr en (i + 1) nn dg nu kd pn pe T xs L ps L1 p1 nt tb fd) (hB1.s12 (nI_1 i)) (fun h2 hB2 => ?_)
  refine lp_Mo_scan1 hT (T.length - (i + 1)) (i + 1) _ (by have := sm_in hs; omega) (by omega) hB2 (fun h3 hB3 => ?_)
  refine bp_aload_n (q := 48) 25 rfl rfl rfl rfl ?_
  refine bp_aload_n (q := 49) 26 rfl rfl rfl rfl ?_
  refine bp_getI (q := 52) (ci := 9) (j := 12) 27 rfl rfl fl_Mo_90_9 hB3.kb rfl ?_
  rw [hB3.i12]
  refine bp_putI (q := 55) (ci := 9) (j := 28) 28 rfl rfl fl_Mo_182_9 cl9 hB3.kb (fun r hr => by cases hr; rfl) (by decide) rfl rfl ?_
  refine bp_nx (X := fun h4 => MoX M h0 h4 tw (wdT T i) fa fm tl lk al ind sk dp lv fr en (i + 1) (wdT T i) dg nu kd pn pe T xs L ps L1 p1 nt tb fd) (hB3.s28 rfl) (fun h4 hB4 => ?_)
  refine bp_aload_n (q := 56) 29 rfl rfl rfl rfl ?_
  refine bp_aload_n (q := 57) 30 rfl rfl rfl rfl ?_
  refine bp_getI (q := 60) (ci := 9) (j := 12) 31 rfl rfl fl_Mo_90_9 hB4.kb rfl ?_
  rw [hB4.i12]
  refine bp_callV (q := 63) (ci := 9) 32 rfl rfl cw_Mo_charAt lk_Mo_83 rfl hB4.kb wd1445 wd43 rfl rfl (Nat.le_of_ble_eq_true rfl) ⟨Nat.le_of_ble_eq_true rfl, Nat.le_of_ble_eq_true rfl⟩ (s_Mo_charAt (ro := false) hB4 hT (by omega) ?_)
  refine bp_bipush (v := 45) (q := 65) 33 rfl rfl (by decide) ?_
  refine bp_icmp_ne (q := 68) (tgt := 88) 34 rfl rfl (by decide) (fun z65 => ?_) (fun z65 => ?_)
  · refine bp_iconst (v := 0) (q := 89) 45 rfl rfl (by decide) ?_
    refine bp_istore_n (q := 90) 46 rfl rfl rfl (by decide) (bp_up1 rfl) ?_
    refine bp_aload_n (q := 91) 47 rfl rfl rfl rfl ?_
    refine bp_dup (q := 92) 48 rfl rfl rfl ?_
    refine bp_getI (q := 95) (ci := 9) (j := 12) 49 rfl rfl fl_Mo_90_9 hB4.kb rfl ?_
    rw [hB4.i12]
    refine bp_iload_n (q := 96) 50 rfl rfl rfl rfl ?_
    refine bp_if_eq (q := 99) (tgt := 103) 51 rfl rfl (by decide) (fun z96 => ?_) (fun z => absurd z (by decide))
    refine bp_iconst (v := 0) (q := 104) 54 rfl rfl (by decide) ?_
    refine bp_iadd (q := 105) 55 rfl rfl ?_
    refine bp_putI (q := 108) (ci := 9) (j := 12) 56 rfl rfl fl_Mo_90_9 cl9 hB4.kb (fun r hr => by cases hr; rfl) (by decide) rfl rfl ?_
    refine bp_nx (X := fun h5 => MoX M h0 h5 tw (wdT T i) fa fm tl lk al ind sk dp lv fr en (i + 1) (wdT T i) dg nu kd pn pe T xs L ps L1 p1 nt tb fd) (hB4.s12 (nI_add _ 0)) (fun h5 hB5 => ?_)
    refine bp_aload_n (q := 109) 57 rfl rfl rfl rfl ?_
    refine bp_iconst (v := 0) (q := 110) 58 rfl rfl (by decide) ?_
    refine bp_putI (q := 113) (ci := 9) (j := 29) 59 rfl rfl fl_Mo_185_9 cl9 hB5.kb (fun r hr => by cases hr; rfl) (by decide) rfl rfl ?_
    refine bp_nx (X := fun h6 => MoX M h0 h6 tw (wdT T i) fa fm tl lk al ind sk dp lv fr en (i + 1) (wdT T i) 0 nu kd pn pe T xs L ps L1 p1 nt tb fd) (hB5.s29 rfl) (fun h6 hB6 => ?_)
    refine bp_aload_n (q := 114) 60 rfl rfl rfl rfl ?_
    refine bp_iconst (v := 0) (q := 115) 61 rfl rfl (by decide) ?_
    refine bp_putI (q := 118) (ci := 9) (j := 30) 62 rfl rfl fl_Mo_188_9 cl9 hB6.kb (fun r hr => by cases hr; rfl) (by decide) rfl rfl ?_
    refine bp_nx (X := fun h7 => MoX M h0 h7 tw (wdT T i) fa fm tl lk al ind sk dp lv fr en (i + 1) (wdT T i) 0 0 kd pn pe T xs L ps L1 p1 nt tb fd) (hB6.s30 rfl) (fun h7 hB7 => ?_)
    have yk : nuK T (wdT T i) = wdT T i := if_neg (fun e => z65 (by rw [e]; rfl))
    have y45 : ¬ tc T (wdT T i) = 45 := fun e => z65 (by rw [e]; rfl)
    have hx : dgE T (T.length - (wdT T i)) (wdT T i) 0 0 = nuX T (wdT T i) := by unfold nuX; rw [yk]
    have e1 : (nuX T (wdT T i)).1 = nuN T (wdT T i) := by
      have q := dgE_in T (T.length - (wdT T i)) (wdT T i) 0 0 hwT.2
      rw [hx] at q
      unfold nuN
      split <;> omega
    refine lp_Mo_scan2 hT (T.length - (wdT T i)) (wdT T i) 0 0 _ _ (by omega) (by omega) (by omega) (fun _ => rfl) hB7 (fun h8 nu_ hn_ hB8 => ?_)
    rw [hx] at hn_ hB8
    rw [e1] at hB8
    refine bp_aload_n (q := 192) 101 rfl rfl rfl rfl ?_
    refine bp_iload_n (q := 193) 102 rfl rfl rfl rfl ?_
    refine bp_if_eq (q := 196) (tgt := 204) 103 rfl rfl (by decide) (fun z193 => ?_) (fun z => absurd z (by decide))
    refine bp_aload_n (q := 205) 108 rfl rfl rfl rfl ?_
    refine bp_getI (q := 208) (ci := 9) (j := 30) 109 rfl rfl fl_Mo_188_9 hB8.kb rfl ?_
    rw [hB8.i30]
    refine bp_putI (q := 211) (ci := 9) (j := 30) 110 rfl rfl fl_Mo_188_9 cl9 hB8.kb (fun r hr => by cases hr; rfl) (by decide) rfl rfl ?_
    refine bp_nx (X := fun h9 => MoX M h0 h9 tw (nuN T (wdT T i)) fa fm tl lk al ind sk dp lv fr en (i + 1) (wdT T i) (nuD T (wdT T i)) nu_ kd pn pe T xs L ps L1 p1 nt tb fd) (hB8.s30 rfl) (fun h9 hB9 => ?_)
    refine bp_aload_n (q := 212) 111 rfl rfl rfl rfl ?_
    refine bp_dup (q := 213) 112 rfl rfl rfl ?_
    refine bp_getI (q := 216) (ci := 9) (j := 12) 113 rfl rfl fl_Mo_90_9 hB9.kb rfl ?_
    rw [hB9.i12]
    refine bp_aload_n (q := 217) 114 rfl rfl rfl rfl ?_
    refine bp_aload_n (q := 218) 115 rfl rfl rfl rfl ?_
    refine bp_getI (q := 221) (ci := 9) (j := 12) 116 rfl rfl fl_Mo_90_9 hB9.kb rfl ?_
    rw [hB9.i12]
    refine bp_callV (q := 224) (ci := 9) 117 rfl rfl cw_Mo_charAt lk_Mo_83 rfl hB9.kb wd1445 wd43 rfl rfl (Nat.le_of_ble_eq_true rfl) ⟨Nat.le_of_ble_eq_true rfl, Nat.le_of_ble_eq_true rfl⟩ (s_Mo_charAt (ro := false) hB9 hT (by omega) ?_)
    refine bp_bipush (v := 32) (q := 226) 118 rfl rfl (by decide) ?_
    refine bp_icmp_ne (q := 229) (tgt := 233) 119 rfl rfl (by decide) (fun z226 => ?_) (fun z226 => ?_)
    · refine bp_iconst (v := 0) (q := 234) 122 rfl rfl (by decide) ?_
      refine bp_iadd (q := 235) 123 rfl rfl ?_
      refine bp_putI (q := 238) (ci := 9) (j := 12) 124 rfl rfl fl_Mo_90_9 cl9 hB9.kb (fun r hr => by cases hr; rfl) (by decide) rfl rfl ?_
      refine bp_nx (X := fun h10 => MoX M h0 h10 tw (wdN T i) fa fm tl lk al ind sk dp lv fr en (i + 1) (wdT T i) (nuD T (wdT T i)) nu_ kd pn pe T xs L ps L1 p1 nt tb fd) (hB9.s12 (by unfold wdN; rw [if_neg (fun e => z226 (by rw [e]; rfl))]; exact nI_add _ 0)) (fun h10 hB10 => ?_)
      exact bp_vret 125 rfl rfl  ⟨_, rfl, hQ _ _ (fun hd => by rw [hn_ hd]; unfold nuV; rw [if_neg y45]) hB10⟩
    · refine bp_iconst (v := 1) (q := 230) 120 rfl rfl (by decide) ?_
      refine bp_goto (tgt := 234) 121 rfl (by decide) ?_
      refine bp_iadd (q := 235) 123 rfl rfl ?_
      refine bp_putI (q := 238) (ci := 9) (j := 12) 124 rfl rfl fl_Mo_90_9 cl9 hB9.kb (fun r hr => by cases hr; rfl) (by decide) rfl rfl ?_
      refine bp_nx (X := fun h10 => MoX M h0 h10 tw (wdN T i) fa fm tl lk al ind sk dp lv fr en (i + 1) (wdT T i) (nuD T (wdT T i)) nu_ kd pn pe T xs L ps L1 p1 nt tb fd) (hB9.s12 (by unfold wdN; rw [if_pos ((nI_eq_iff (b := 32) (by have := tc_lt hT (nuN T (wdT T i)); omega) (by decide)).mp z226)]; exact nI_1 _)) (fun h10 hB10 => ?_)
      exact bp_vret 125 rfl rfl  ⟨_, rfl, hQ _ _ (fun hd => by rw [hn_ hd]; unfold nuV; rw [if_neg y45]) hB10⟩
  · refine bp_aload_n (q := 69) 35 rfl rfl rfl rfl ?_
    refine bp_aload_n (q := 70) 36 rfl rfl rfl rfl ?_
    refine bp_getI (q := 73) (ci := 9) (j := 12) 37 rfl rfl fl_Mo_90_9 hB4.kb rfl ?_
    rw [hB4.i12]
    refine bp_iconst (v := 1) (q := 74) 38 rfl rfl (by decide) ?_
    refine bp_iadd (q := 75) 39 rfl rfl ?_
    rw [nI_1]
    refine bp_callV (q := 78) (ci := 9) 40 rfl rfl cw_Mo_charAt lk_Mo_83 rfl hB4.kb wd1445 wd43 rfl rfl (Nat.le_of_ble_eq_true rfl) ⟨Nat.le_of_ble_eq_true rfl, Nat.le_of_ble_eq_true rfl⟩ (s_Mo_charAt (ro := false) hB4 hT (by omega) ?_)
    refine bp_callS (q := 81) 41 rfl rfl cw_Mo_digit lk_Mo_158 wd1479 rfl rfl (Nat.le_of_ble_eq_true rfl) ⟨Nat.le_of_ble_eq_true rfl, Nat.le_of_ble_eq_true rfl⟩ (s_Mo_digit (ro := false) (by have := tc_lt hT (wdT T i + 1); omega) ?_)
    refine bp_if_eq (q := 84) (tgt := 88) 42 rfl rfl (by decide) (fun z81 => ?_) (fun z81 => ?_)
    · refine bp_iconst (v := 0) (q := 89) 45 rfl rfl (by decide) ?_
      refine bp_istore_n (q := 90) 46 rfl rfl rfl (by decide) (bp_up1 rfl) ?_
      refine bp_aload_n (q := 91) 47 rfl rfl rfl rfl ?_
      refine bp_dup (q := 92) 48 rfl rfl rfl ?_
      refine bp_getI (q := 95) (ci := 9) (j := 12) 49 rfl rfl fl_Mo_90_9 hB4.kb rfl ?_
      rw [hB4.i12]
      refine bp_iload_n (q := 96) 50 rfl rfl rfl rfl ?_
      refine bp_if_eq (q := 99) (tgt := 103) 51 rfl rfl (by decide) (fun z96 => ?_) (fun z => absurd z (by decide))
      refine bp_iconst (v := 0) (q := 104) 54 rfl rfl (by decide) ?_
      refine bp_iadd (q := 105) 55 rfl rfl ?_
      refine bp_putI (q := 108) (ci := 9) (j := 12) 56 rfl rfl fl_Mo_90_9 cl9 hB4.kb (fun r hr => by cases hr; rfl) (by decide) rfl rfl ?_
      refine bp_nx (X := fun h5 => MoX M h0 h5 tw (wdT T i) fa fm tl lk al ind sk dp lv fr en (i + 1) (wdT T i) dg nu kd pn pe T xs L ps L1 p1 nt tb fd) (hB4.s12 (nI_add _ 0)) (fun h5 hB5 => ?_)
      refine bp_aload_n (q := 109) 57 rfl rfl rfl rfl ?_
      refine bp_iconst (v := 0) (q := 110) 58 rfl rfl (by decide) ?_
      refine bp_putI (q := 113) (ci := 9) (j := 29) 59 rfl rfl fl_Mo_185_9 cl9 hB5.kb (fun r hr => by cases hr; rfl) (by decide) rfl rfl ?_
      refine bp_nx (X := fun h6 => MoX M h0 h6 tw (wdT T i) fa fm tl lk al ind sk dp lv fr en (i + 1) (wdT T i) 0 nu kd pn pe T xs L ps L1 p1 nt tb fd) (hB5.s29 rfl) (fun h6 hB6 => ?_)
      refine bp_aload_n (q := 114) 60 rfl rfl rfl rfl ?_
      refine bp_iconst (v := 0) (q := 115) 61 rfl rfl (by decide) ?_
      refine bp_putI (q := 118) (ci := 9) (j := 30) 62 rfl rfl fl_Mo_188_9 cl9 hB6.kb (fun r hr => by cases hr; rfl) (by decide) rfl rfl ?_
      refine bp_nx (X := fun h7 => MoX M h0 h7 tw (wdT T i) fa fm tl lk al ind sk dp lv fr en (i + 1) (wdT T i) 0 0 kd pn pe T xs L ps L1 p1 nt tb fd) (hB6.s30 rfl) (fun h7 hB7 => ?_)
      have y45 : tc T (wdT T i) = 45 := (nI_eq_iff (b := 45) (by have := tc_lt hT (wdT T i); omega) (by decide)).mp (by first | exact z65 | exact Classical.not_not.mp z65)
      have yk : nuK T (wdT T i) = wdT T i + 1 := if_pos y45
      have yd : ¬ dgL (tc T (wdT T i + 1)) = true := by rw [bI0.mp z81]; decide
      have hx : dgE T (T.length - (wdT T i)) (wdT T i) 0 0 = (nuN T (wdT T i), nuD T (wdT T i), (nuX T (wdT T i)).2.2) := by
        have q : nuX T (wdT T i) = (wdT T i + 1, 0, 0) := by unfold nuX; rw [yk]; exact dgE_0 yd
        rw [dgE_0 (by rw [y45]; decide)]
        unfold nuN nuD
        rw [q]
        rfl
      have e1 : (dgE T (T.length - (wdT T i)) (wdT T i) 0 0).1 = nuN T (wdT T i) := by rw [hx]
      refine lp_Mo_scan2 hT (T.length - (wdT T i)) (wdT T i) 0 0 _ _ (by omega) (by omega) (by omega) (fun _ => rfl) hB7 (fun h8 nu_ hn_ hB8 => ?_)
      rw [hx] at hn_ hB8
      refine bp_aload_n (q := 192) 101 rfl rfl rfl rfl ?_
      refine bp_iload_n (q := 193) 102 rfl rfl rfl rfl ?_
      refine bp_if_eq (q := 196) (tgt := 204) 103 rfl rfl (by decide) (fun z193 => ?_) (fun z => absurd z (by decide))
      refine bp_aload_n (q := 205) 108 rfl rfl rfl rfl ?_
      refine bp_getI (q := 208) (ci := 9) (j := 30) 109 rfl rfl fl_Mo_188_9 hB8.kb rfl ?_
      rw [hB8.i30]
      refine bp_putI (q := 211) (ci := 9) (j := 30) 110 rfl rfl fl_Mo_188_9 cl9 hB8.kb (fun r hr => by cases hr; rfl) (by decide) rfl rfl ?_
      refine bp_nx (X := fun h9 => MoX M h0 h9 tw (nuN T (wdT T i)) fa fm tl lk al ind sk dp lv fr en (i + 1) (wdT T i) (nuD T (wdT T i)) nu_ kd pn pe T xs L ps L1 p1 nt tb fd) (hB8.s30 rfl) (fun h9 hB9 => ?_)
      refine bp_aload_n (q := 212) 111 rfl rfl rfl rfl ?_
      refine bp_dup (q := 213) 112 rfl rfl rfl ?_
      refine bp_getI (q := 216) (ci := 9) (j := 12) 113 rfl rfl fl_Mo_90_9 hB9.kb rfl ?_
      rw [hB9.i12]
      refine bp_aload_n (q := 217) 114 rfl rfl rfl rfl ?_
      refine bp_aload_n (q := 218) 115 rfl rfl rfl rfl ?_
      refine bp_getI (q := 221) (ci := 9) (j := 12) 116 rfl rfl fl_Mo_90_9 hB9.kb rfl ?_
      rw [hB9.i12]
      refine bp_callV (q := 224) (ci := 9) 117 rfl rfl cw_Mo_charAt lk_Mo_83 rfl hB9.kb wd1445 wd43 rfl rfl (Nat.le_of_ble_eq_true rfl) ⟨Nat.le_of_ble_eq_true rfl, Nat.le_of_ble_eq_true rfl⟩ (s_Mo_charAt (ro := false) hB9 hT (by omega) ?_)
      refine bp_bipush (v := 32) (q := 226) 118 rfl rfl (by decide) ?_
      refine bp_icmp_ne (q := 229) (tgt := 233) 119 rfl rfl (by decide) (fun z226 => ?_) (fun z226 => ?_)
      · refine bp_iconst (v := 0) (q := 234) 122 rfl rfl (by decide) ?_
        refine bp_iadd (q := 235) 123 rfl rfl ?_
        refine bp_putI (q := 238) (ci := 9) (j := 12) 124 rfl rfl fl_Mo_90_9 cl9 hB9.kb (fun r hr => by cases hr; rfl) (by decide) rfl rfl ?_
        refine bp_nx (X := fun h10 => MoX M h0 h10 tw (wdN T i) fa fm tl lk al ind sk dp lv fr en (i + 1) (wdT T i) (nuD T (wdT T i)) nu_ kd pn pe T xs L ps L1 p1 nt tb fd) (hB9.s12 (by unfold wdN; rw [if_neg (fun e => z226 (by rw [e]; rfl))]; exact nI_add _ 0)) (fun h10 hB10 => ?_)
        exact bp_vret 125 rfl rfl  ⟨_, rfl, hQ _ _ (fun hd => by rw [hn_ hd]; unfold nuV; rw [if_pos y45, nuX_0 (k := wdT T i) (by unfold nuD; rw [show nuX T (wdT T i) = (wdT T i + 1, 0, 0) from by unfold nuX; rw [yk]; exact dgE_0 yd])]; rfl) hB10⟩
      · refine bp_iconst (v := 1) (q := 230) 120 rfl rfl (by decide) ?_
        refine bp_goto (tgt := 234) 121 rfl (by decide) ?_
        refine bp_iadd (q := 235) 123 rfl rfl ?_
        refine bp_putI (q := 238) (ci := 9) (j := 12) 124 rfl rfl fl_Mo_90_9 cl9 hB9.kb (fun r hr => by cases hr; rfl) (by decide) rfl rfl ?_
        refine bp_nx (X := fun h10 => MoX M h0 h10 tw (wdN T i) fa fm tl lk al ind sk dp lv fr en (i + 1) (wdT T i) (nuD T (wdT T i)) nu_ kd pn pe T xs L ps L1 p1 nt tb fd) (hB9.s12 (by unfold wdN; rw [if_pos ((nI_eq_iff (b := 32) (by have := tc_lt hT (nuN T (wdT T i)); omega) (by decide)).mp z226)]; exact nI_1 _)) (fun h10 hB10 => ?_)
        exact bp_vret 125 rfl rfl  ⟨_, rfl, hQ _ _ (fun hd => by rw [hn_ hd]; unfold nuV; rw [if_pos y45, nuX_0 (k := wdT T i) (by unfold nuD; rw [show nuX T (wdT T i) = (wdT T i + 1, 0, 0) from by unfold nuX; rw [yk]; exact dgE_0 yd])]; rfl) hB10⟩
    · refine bp_iconst (v := 1) (q := 85) 43 rfl rfl (by decide) ?_
      refine bp_goto (tgt := 89) 44 rfl (by decide) ?_
      refine bp_istore_n (q := 90) 46 rfl rfl rfl (by decide) (bp_up1 rfl) ?_
      refine bp_aload_n (q := 91) 47 rfl rfl rfl rfl ?_
      refine bp_dup (q := 92) 48 rfl rfl rfl ?_
      refine bp_getI (q := 95) (ci := 9) (j := 12) 49 rfl rfl fl_Mo_90_9 hB4.kb rfl ?_
      rw [hB4.i12]
      refine bp_iload_n (q := 96) 50 rfl rfl rfl rfl ?_
      refine bp_if_eq (q := 99) (tgt := 103) 51 rfl rfl (by decide) (fun z => absurd z (by decide)) (fun z96 => ?_)
      refine bp_iconst (v := 1) (q := 100) 52 rfl rfl (by decide) ?_
      refine bp_goto (tgt := 104) 53 rfl (by decide) ?_
      refine bp_iadd (q := 105) 55 rfl rfl ?_
      refine bp_putI (q := 108) (ci := 9) (j := 12) 56 rfl rfl fl_Mo_90_9 cl9 hB4.kb (fun r hr => by cases hr; rfl) (by decide) rfl rfl ?_
      refine bp_nx (X := fun h5 => MoX M h0 h5 tw (wdT T i + 1) fa fm tl lk al ind sk dp lv fr en (i + 1) (wdT T i) dg nu kd pn pe T xs L ps L1 p1 nt tb fd) (hB4.s12 (nI_1 _)) (fun h5 hB5 => ?_)
      refine bp_aload_n (q := 109) 57 rfl rfl rfl rfl ?_
      refine bp_iconst (v := 0) (q := 110) 58 rfl rfl (by decide) ?_
      refine bp_putI (q := 113) (ci := 9) (j := 29) 59 rfl rfl fl_Mo_185_9 cl9 hB5.kb (fun r hr => by cases hr; rfl) (by decide) rfl rfl ?_
      refine bp_nx (X := fun h6 => MoX M h0 h6 tw (wdT T i + 1) fa fm tl lk al ind sk dp lv fr en (i + 1) (wdT T i) 0 nu kd pn pe T xs L ps L1 p1 nt tb fd) (hB5.s29 rfl) (fun h6 hB6 => ?_)
      refine bp_aload_n (q := 114) 60 rfl rfl rfl rfl ?_
      refine bp_iconst (v := 0) (q := 115) 61 rfl rfl (by decide) ?_
      refine bp_putI (q := 118) (ci := 9) (j := 30) 62 rfl rfl fl_Mo_188_9 cl9 hB6.kb (fun r hr => by cases hr; rfl) (by decide) rfl rfl ?_
      refine bp_nx (X := fun h7 => MoX M h0 h7 tw (wdT T i + 1) fa fm tl lk al ind sk dp lv fr en (i + 1) (wdT T i) 0 0 kd pn pe T xs L ps L1 p1 nt tb fd) (hB6.s30 rfl) (fun h7 hB7 => ?_)
      have y45 : tc T (wdT T i) = 45 := (nI_eq_iff (b := 45) (by have := tc_lt hT (wdT T i); omega) (by decide)).mp (by first | exact z65 | exact Classical.not_not.mp z65)
      have yk : nuK T (wdT T i) = wdT T i + 1 := if_pos y45
      have yd := bI1 z81
      have ywT := dg_in yd
      have hx : dgE T (T.length - (wdT T i + 1)) (wdT T i + 1) 0 0 = nuX T (wdT T i) := by unfold nuX; rw [yk]
      have e1 : (nuX T (wdT T i)).1 = nuN T (wdT T i) := by
        have q := nuD_s y45 yd
        unfold nuD at q
        unfold nuN
        rw [if_neg q]
      refine lp_Mo_scan2 hT (T.length - (wdT T i + 1)) (wdT T i + 1) 0 0 _ _ (by omega) (by omega) (by omega) (fun _ => rfl) hB7 (fun h8 nu_ hn_ hB8 => ?_)
      rw [hx] at hn_ hB8
      rw [e1] at hB8
      refine bp_aload_n (q := 192) 101 rfl rfl rfl rfl ?_
      refine bp_iload_n (q := 193) 102 rfl rfl rfl rfl ?_
      refine bp_if_eq (q := 196) (tgt := 204) 103 rfl rfl (by decide) (fun z => absurd z (by decide)) (fun z193 => ?_)
      refine bp_aload_n (q := 197) 104 rfl rfl rfl rfl ?_
      refine bp_getI (q := 200) (ci := 9) (j := 30) 105 rfl rfl fl_Mo_188_9 hB8.kb rfl ?_
      rw [hB8.i30]
      refine bp_ineg (q := 201) 106 rfl rfl ?_
      refine bp_goto (tgt := 208) 107 rfl (by decide) ?_
      refine bp_putI (q := 211) (ci := 9) (j := 30) 110 rfl rfl fl_Mo_188_9 cl9 hB8.kb (fun r hr => by cases hr; rfl) (by decide) rfl rfl ?_
      refine bp_nx (X := fun h9 => MoX M h0 h9 tw (nuN T (wdT T i)) fa fm tl lk al ind sk dp lv fr en (i + 1) (wdT T i) (nuD T (wdT T i)) (- nu_) kd pn pe T xs L ps L1 p1 nt tb fd) (hB8.s30 rfl) (fun h9 hB9 => ?_)
      refine bp_aload_n (q := 212) 111 rfl rfl rfl rfl ?_
      refine bp_dup (q := 213) 112 rfl rfl rfl ?_
      refine bp_getI (q := 216) (ci := 9) (j := 12) 113 rfl rfl fl_Mo_90_9 hB9.kb rfl ?_
      rw [hB9.i12]
      refine bp_aload_n (q := 217) 114 rfl rfl rfl rfl ?_
      refine bp_aload_n (q := 218) 115 rfl rfl rfl rfl ?_
      refine bp_getI (q := 221) (ci := 9) (j := 12) 116 rfl rfl fl_Mo_90_9 hB9.kb rfl ?_
      rw [hB9.i12]
      refine bp_callV (q := 224) (ci := 9) 117 rfl rfl cw_Mo_charAt lk_Mo_83 rfl hB9.kb wd1445 wd43 rfl rfl (Nat.le_of_ble_eq_true rfl) ⟨Nat.le_of_ble_eq_true rfl, Nat.le_of_ble_eq_true rfl⟩ (s_Mo_charAt (ro := false) hB9 hT (by omega) ?_)
      refine bp_bipush (v := 32) (q := 226) 118 rfl rfl (by decide) ?_
      refine bp_icmp_ne (q := 229) (tgt := 233) 119 rfl rfl (by decide) (fun z226 => ?_) (fun z226 => ?_)
      · refine bp_iconst (v := 0) (q := 234) 122 rfl rfl (by decide) ?_
        refine bp_iadd (q := 235) 123 rfl rfl ?_
        refine bp_putI (q := 238) (ci := 9) (j := 12) 124 rfl rfl fl_Mo_90_9 cl9 hB9.kb (fun r hr => by cases hr; rfl) (by decide) rfl rfl ?_
        refine bp_nx (X := fun h10 => MoX M h0 h10 tw (wdN T i) fa fm tl lk al ind sk dp lv fr en (i + 1) (wdT T i) (nuD T (wdT T i)) (- nu_) kd pn pe T xs L ps L1 p1 nt tb fd) (hB9.s12 (by unfold wdN; rw [if_neg (fun e => z226 (by rw [e]; rfl))]; exact nI_add _ 0)) (fun h10 hB10 => ?_)
        exact bp_vret 125 rfl rfl  ⟨_, rfl, hQ _ _ (fun hd => by rw [hn_ hd]; unfold nuV; rw [if_pos y45]) hB10⟩
      · refine bp_iconst (v := 1) (q := 230) 120 rfl rfl (by decide) ?_
        refine bp_goto (tgt := 234) 121 rfl (by decide) ?_
        refine bp_iadd (q := 235) 123 rfl rfl ?_
        refine bp_putI (q := 238) (ci := 9) (j := 12) 124 rfl rfl fl_Mo_90_9 cl9 hB9.kb (fun r hr => by cases hr; rfl) (by decide) rfl rfl ?_
        refine bp_nx (X := fun h10 => MoX M h0 h10 tw (wdN T i) fa fm tl lk al ind sk dp lv fr en (i + 1) (wdT T i) (nuD T (wdT T i)) (- nu_) kd pn pe T xs L ps L1 p1 nt tb fd) (hB9.s12 (by unfold wdN; rw [if_pos ((nI_eq_iff (b := 32) (by have := tc_lt hT (nuN T (wdT T i)); omega) (by decide)).mp z226)]; exact nI_1 _)) (fun h10 hB10 => ?_)
        exact bp_vret 125 rfl rfl  ⟨_, rfl, hQ _ _ (fun hd => by rw [hn_ hd]; unfold nuV; rw [if_pos y45]) hB10⟩
end MO15
