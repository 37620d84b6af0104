/-! the reference's small methods -/
theorem wi_tt {x a b : Int32} (h1 : ¬ x < a) (h2 : ¬ b < x) : wi x a b = true := by
  unfold wi
  rw [decide_eq_true (Int32.not_lt.mp h1), decide_eq_true (Int32.not_lt.mp h2)]; rfl
theorem wi_lt {x a b : Int32} (h : x < a) : ¬ wi x a b = true := by
  unfold wi
  rw [decide_eq_false (Int32.not_le.mpr h)]; simp
theorem wi_gt {x a b : Int32} (h : b < x) : ¬ wi x a b = true := by
  unfold wi
  rw [decide_eq_false (Int32.not_le.mpr h)]; simp
section MO9
variable {l : Launch} {G : bp_G} {H0 : Heap} {M : Nat → Nat} {h0 h : bp_H} {tw : Int32} {i : Nat} {fa : Int32} {fm : Int32} {tl : Int32} {lk : Nat} {al : Nat} {ind : Nat} {sk : Nat} {dp : Nat} {lv : Nat} {fr : Bool} {en : Nat} {nf : Nat} {nn : Nat} {dg : Nat} {nu : Int32} {kd : Nat} {pn : Int32} {pe : Nat} {T : List Nat} {xs : List Nat} {L : List (Nat × Nat)} {ps : List (Nat × Nat × Nat)} {L1 : List (Nat × Nat)} {p1 : List (Nat × Nat × Nat)} {nt : List (Nat → Nat)} {tb : List Nat} {fd : List Nat} {c s : Nat} {Q : Option Value → bp_H → Nat → Nat → Prop} {ys : List Nat}
theorem MoX.set1 {x : Int32} (hB : MoX M h0 h tw i fa fm tl lk al ind sk dp lv fr en nf nn dg nu kd pn pe T xs L ps L1 p1 nt tb fd) (hx : x = nI ys.length) (hl : ys.length ≤ 400) (hv : ∀ j, j < ys.length → bp_I h (M 2) j = nI (ys.getD j 0)) : MoX M h0 (bp_sI h (M 0) 1 x) tw i fa fm tl lk al ind sk dp lv fr en nf nn dg nu kd pn pe ys xs L ps L1 p1 nt tb fd := by
  have f : bp_Fi (fun y => y = M 0) h (bp_sI h (M 0) 1 x) := bp_Fi.sI rfl
  obtain ⟨b1, b2, b3, b4, b5, b6, b7, b8, b9, b10⟩ := hB
  have e : ∀ i, mC i = true → i ≠ 0 → ∀ j, bp_I (bp_sI h (M 0) 1 x) (M i) j = bp_I h (M i) j := fun i hi hn j => f.2.2.2 _ (b2.ne i 0 hi rfl hn) j
  exact ⟨b1.tr (f.wk (fun x hx => ⟨0, rfl, hx⟩)), b2.fi f, ⟨by rw [bp_I_sI, if_pos ⟨rfl, rfl⟩]; exact hx, by rw [bp_I_sI, if_neg (fun z => absurd z.2 (by decide))]; exact b3.2.1, by rw [bp_I_sI, if_neg (fun z => absurd z.2 (by decide))]; exact b3.2.2.1, by rw [bp_I_sI, if_neg (fun z => absurd z.2 (by decide))]; exact b3.2.2.2.1, by rw [bp_I_sI, if_neg (fun z => absurd z.2 (by decide))]; exact b3.2.2.2.2.1, by rw [bp_I_sI, if_neg (fun z => absurd z.2 (by decide))]; exact b3.2.2.2.2.2.1, by rw [bp_I_sI, if_neg (fun z => absurd z.2 (by decide))]; exact b3.2.2.2.2.2.2.1, by rw [bp_I_sI, if_neg (fun z => absurd z.2 (by decide))]; exact b3.2.2.2.2.2.2.2.1, by rw [bp_I_sI, if_neg (fun z => absurd z.2 (by decide))]; exact b3.2.2.2.2.2.2.2.2.1, by rw [bp_I_sI, if_neg (fun z => absurd z.2 (by decide))]; exact b3.2.2.2.2.2.2.2.2.2.1, by rw [bp_I_sI, if_neg (fun z => absurd z.2 (by decide))]; exact b3.2.2.2.2.2.2.2.2.2.2.1, by rw [bp_I_sI, if_neg (fun z => absurd z.2 (by decide))]; exact b3.2.2.2.2.2.2.2.2.2.2.2.1, by rw [bp_I_sI, if_neg (fun z => absurd z.2 (by decide))]; exact b3.2.2.2.2.2.2.2.2.2.2.2.2.1, by rw [bp_I_sI, if_neg (fun z => absurd z.2 (by decide))]; exact b3.2.2.2.2.2.2.2.2.2.2.2.2.2.1, by rw [bp_I_sI, if_neg (fun z => absurd z.2 (by decide))]; exact b3.2.2.2.2.2.2.2.2.2.2.2.2.2.2.1, by rw [bp_I_sI, if_neg (fun z => absurd z.2 (by decide))]; exact b3.2.2.2.2.2.2.2.2.2.2.2.2.2.2.2.1, by rw [bp_I_sI, if_neg (fun z => absurd z.2 (by decide))]; exact b3.2.2.2.2.2.2.2.2.2.2.2.2.2.2.2.2.1, by rw [bp_I_sI, if_neg (fun z => absurd z.2 (by decide))]; exact b3.2.2.2.2.2.2.2.2.2.2.2.2.2.2.2.2.2.1, by rw [bp_I_sI, if_neg (fun z => absurd z.2 (by decide))]; exact b3.2.2.2.2.2.2.2.2.2.2.2.2.2.2.2.2.2.2.1, by rw [bp_I_sI, if_neg (fun z => absurd z.2 (by decide))]; exact b3.2.2.2.2.2.2.2.2.2.2.2.2.2.2.2.2.2.2.2.1, by rw [bp_I_sI, if_neg (fun z => absurd z.2 (by decide))]; exact b3.2.2.2.2.2.2.2.2.2.2.2.2.2.2.2.2.2.2.2.2.1, by rw [bp_I_sI, if_neg (fun z => absurd z.2 (by decide))]; exact b3.2.2.2.2.2.2.2.2.2.2.2.2.2.2.2.2.2.2.2.2.2⟩, ⟨hl, fun j hj => (e 2 rfl (by decide) j).trans (hv j hj)⟩, b5.sm (e 4 rfl (by decide)), b6.sm (fun i h1 h2 => e i (mC_p i h1 h2) (by omega)), b7.sm (fun i h1 h2 => e i (mC_p i h1 h2) (by omega)), b8.sm (e 21 rfl (by decide)), b9.sm (e 25 rfl (by decide)), b10.sm (e 26 rfl (by decide))⟩
theorem MoX.w2 {k : Nat} {x : Int32} (hB : MoX M h0 h tw i fa fm tl lk al ind sk dp lv fr en nf nn dg nu kd pn pe T xs L ps L1 p1 nt tb fd) (hk : T.length ≤ k) : MoX M h0 (bp_sI h (M 2) k x) tw i fa fm tl lk al ind sk dp lv fr en nf nn dg nu kd pn pe T xs L ps L1 p1 nt tb fd := by
  have f : bp_Fi (fun y => y = M 2) h (bp_sI h (M 2) k x) := bp_Fi.sI rfl
  obtain ⟨b1, b2, b3, b4, b5, b6, b7, b8, b9, b10⟩ := hB
  have e : ∀ i, mC i = true → i ≠ 2 → ∀ j, bp_I (bp_sI h (M 2) k x) (M i) j = bp_I h (M i) j := fun i hi hn j => f.2.2.2 _ (b2.ne i 2 hi rfl hn) j
  exact ⟨b1.tr (f.wk (fun x hx => ⟨2, rfl, hx⟩)), b2.fi f, b3.sm (e 0 rfl (by decide)), ⟨b4.1, fun j hj => by rw [bp_I_sI, if_neg (fun z => by have := z.2; omega)]; exact b4.2 j hj⟩, b5.sm (e 4 rfl (by decide)), b6.sm (fun i h1 h2 => e i (mC_p i h1 h2) (by omega)), b7.sm (fun i h1 h2 => e i (mC_p i h1 h2) (by omega)), b8.sm (e 21 rfl (by decide)), b9.sm (e 25 rfl (by decide)), b10.sm (e 26 rfl (by decide))⟩
set_option maxRecDepth 100000 in
set_option maxHeartbeats 4000000 in
theorem s_Mo_thrown {ro : Bool}  (hB0 : MoX M h0 h tw i fa fm tl lk al ind sk dp lv fr en nf nn dg nu kd pn pe T xs L ps L1 p1 nt tb fd) (hQ : Q (some (.int tw)) h c s) : bp_AM l G H0 (0, 0, ro, ro) M_Mo_thrown h c s [.ref (M 0)] Q := by
  refine bp_of (ls := [some (.ref (M 0))]) (by decide) dt_Mo_thrown (Nat.le_of_ble_eq_true rfl) (fun q hq => hq) ro ?_
  refine bp_aload_n (q := 1) 0 rfl rfl rfl rfl ?_
  refine bp_getI (q := 4) (ci := 9) (j := 0) 1 rfl rfl fl_Mo_52_9 hB0.kb rfl ?_
  rw [hB0.i0]
  exact bp_iret 2 rfl rfl rfl ⟨_, rfl, hQ⟩
set_option maxRecDepth 100000 in
set_option maxHeartbeats 4000000 in
theorem s_Mo_clear  (hB0 : MoX M h0 h tw i fa fm tl lk al ind sk dp lv fr en nf nn dg nu kd pn pe T xs L ps L1 p1 nt tb fd) (hQ : ∀ h', MoX M h0 h' 0 i fa fm tl lk al ind sk dp lv fr en nf nn dg nu kd pn pe [] xs L ps L1 p1 nt tb fd → Q none h' c s) : bp_AM l G H0 (0, 0, false, false) M_Mo_clear h c s [.ref (M 0)] Q := by
  refine bp_of (ls := [some (.ref (M 0))]) (by decide) dt_Mo_clear (Nat.le_of_ble_eq_true rfl) (fun q hq => hq) false ?_
  refine bp_aload_n (q := 1) 0 rfl rfl rfl rfl ?_
  refine bp_iconst (v := 0) (q := 2) 1 rfl rfl (by decide) ?_
  refine bp_putI (q := 5) (ci := 9) (j := 0) 2 rfl rfl fl_Mo_52_9 cl9 hB0.kb (fun r hr => by cases hr; rfl) (by decide) rfl rfl ?_
  refine bp_nx (X := fun h1 => MoX M h0 h1 0 i fa fm tl lk al ind sk dp lv fr en nf nn dg nu kd pn pe T xs L ps L1 p1 nt tb fd) (hB0.s0 rfl) (fun h1 hB1 => ?_)
  refine bp_aload_n (q := 6) 3 rfl rfl rfl rfl ?_
  refine bp_iconst (v := 0) (q := 7) 4 rfl rfl (by decide) ?_
  refine bp_putI (q := 10) (ci := 9) (j := 1) 5 rfl rfl fl_Mo_63_9 cl9 hB1.kb (fun r hr => by cases hr; rfl) (by decide) rfl rfl ?_
  refine bp_nx (X := fun h2 => MoX M h0 h2 0 i fa fm tl lk al ind sk dp lv fr en nf nn dg nu kd pn pe [] xs L ps L1 p1 nt tb fd) (hB1.set1 (ys := []) rfl (by decide) (fun j hj => absurd hj (Nat.not_lt_zero j))) (fun h2 hB2 => ?_)
  exact bp_vret 6 rfl rfl  ⟨_, rfl, hQ _ hB2⟩
set_option maxRecDepth 100000 in
set_option maxHeartbeats 4000000 in
theorem s_Mo_at  (hB0 : MoX M h0 h tw i fa fm tl lk al ind sk dp lv fr en nf nn dg nu kd pn pe T xs L ps L1 p1 nt tb fd) (hQ : ∀ h', MoX M h0 h' 0 i fa fm tl lk al ind sk dp lv fr en nf nn dg nu kd pn pe T xs L ps L1 p1 nt tb fd → Q (some (.int tl)) h' c s) : bp_AM l G H0 (0, 0, false, false) M_Mo_at h c s [.ref (M 0)] Q := by
  refine bp_of (ls := [some (.ref (M 0))]) (by decide) dt_Mo_at (Nat.le_of_ble_eq_true rfl) (fun q hq => hq) false ?_
  refine bp_aload_n (q := 1) 0 rfl rfl rfl rfl ?_
  refine bp_iconst (v := 0) (q := 2) 1 rfl rfl (by decide) ?_
  refine bp_putI (q := 5) (ci := 9) (j := 0) 2 rfl rfl fl_Mo_52_9 cl9 hB0.kb (fun r hr => by cases hr; rfl) (by decide) rfl rfl ?_
  refine bp_nx (X := fun h1 => MoX M h0 h1 0 i fa fm tl lk al ind sk dp lv fr en nf nn dg nu kd pn pe T xs L ps L1 p1 nt tb fd) (hB0.s0 rfl) (fun h1 hB1 => ?_)
  refine bp_aload_n (q := 6) 3 rfl rfl rfl rfl ?_
  refine bp_getI (q := 9) (ci := 9) (j := 15) 4 rfl rfl fl_Mo_39_9 hB1.kb rfl ?_
  rw [hB1.i15]
  exact bp_iret 5 rfl rfl rfl ⟨_, rfl, hQ _ hB1⟩
set_option maxRecDepth 100000 in
set_option maxHeartbeats 4000000 in
theorem s_Mo_paragraphs  (hB0 : MoX M h0 h tw i fa fm tl lk al ind sk dp lv fr en nf nn dg nu kd pn pe T xs L ps L1 p1 nt tb fd) (hQ : ∀ h', MoX M h0 h' 0 i fa fm tl lk al ind sk dp lv fr en nf nn dg nu kd pn pe T xs L ps L1 p1 nt tb fd → Q (some (.int (nI ps.length))) h' c s) : bp_AM l G H0 (0, 0, false, false) M_Mo_paragraphs h c s [.ref (M 0)] Q := by
  refine bp_of (ls := [some (.ref (M 0))]) (by decide) dt_Mo_paragraphs (Nat.le_of_ble_eq_true rfl) (fun q hq => hq) false ?_
  refine bp_aload_n (q := 1) 0 rfl rfl rfl rfl ?_
  refine bp_iconst (v := 0) (q := 2) 1 rfl rfl (by decide) ?_
  refine bp_putI (q := 5) (ci := 9) (j := 0) 2 rfl rfl fl_Mo_52_9 cl9 hB0.kb (fun r hr => by cases hr; rfl) (by decide) rfl rfl ?_
  refine bp_nx (X := fun h1 => MoX M h0 h1 0 i fa fm tl lk al ind sk dp lv fr en nf nn dg nu kd pn pe T xs L ps L1 p1 nt tb fd) (hB0.s0 rfl) (fun h1 hB1 => ?_)
  refine bp_aload_n (q := 6) 3 rfl rfl rfl rfl ?_
  refine bp_getR (x := M 6) (q := 9) (ci := 9) (j := 6) 4 rfl rfl fl_Mo_21_9 hB1.kb rfl hB1.r6 ?_
  refine bp_iconst (v := 0) (q := 10) 5 rfl rfl (by decide) ?_
  refine bp_iald (q := 11) 6 rfl rfl hB1.k6 (vp_inL (n := 0) hB1.l6 (by decide) (by decide)) ?_
  rw [show bp_I _ (M 6) ((0 : Int32).toNatClampNeg) = nI ps.length from hB1.2.2.2.2.2.1.2.2.2.1]
  exact bp_iret 7 rfl rfl rfl ⟨_, rfl, hQ _ hB1⟩
set_option maxRecDepth 100000 in
set_option maxHeartbeats 4000000 in
theorem s_Mo_out {x : Int32} (hB0 : MoX M h0 h tw i fa fm tl lk al ind sk dp lv fr en nf nn dg nu kd pn pe T xs L ps L1 p1 nt tb fd) (hQ : ∀ h', MoX M h0 h' 0 i fa fm tl lk al ind sk dp lv fr en nf nn dg nu kd pn pe T xs L ps L1 p1 nt tb fd → Q (some (.int (rg xs x))) h' c s) : bp_AM l G H0 (0, 0, false, false) M_Mo_out h c s [.ref (M 0), .int x] Q := by
  refine bp_of (ls := [some (.ref (M 0)), some (.int x)]) (by decide) dt_Mo_out (Nat.le_of_ble_eq_true rfl) (fun q hq => hq) false ?_
  refine bp_aload_n (q := 1) 0 rfl rfl rfl rfl ?_
  refine bp_iconst (v := 0) (q := 2) 1 rfl rfl (by decide) ?_
  refine bp_putI (q := 5) (ci := 9) (j := 0) 2 rfl rfl fl_Mo_52_9 cl9 hB0.kb (fun r hr => by cases hr; rfl) (by decide) rfl rfl ?_
  refine bp_nx (X := fun h1 => MoX M h0 h1 0 i fa fm tl lk al ind sk dp lv fr en nf nn dg nu kd pn pe T xs L ps L1 p1 nt tb fd) (hB0.s0 rfl) (fun h1 hB1 => ?_)
  refine bp_iload_n (q := 6) 3 rfl rfl rfl rfl ?_
  refine bp_if_lt (q := 9) (tgt := 17) 4 rfl rfl (by decide) (fun z6 => ?_) (fun z6 => ?_)
  · refine bp_iconst (v := -1) (q := 18) 9 rfl rfl (by decide) ?_
    refine bp_goto (tgt := 27) 10 rfl (by decide) ?_
    refine bp_iret 15 rfl rfl rfl ⟨_, rfl, ?_⟩
    have q := hQ _ hB1
    rw [rg, if_pos z6] at q
    exact q
  · refine bp_iload_n (q := 10) 5 rfl rfl rfl rfl ?_
    refine bp_aload_n (q := 11) 6 rfl rfl rfl rfl ?_
    refine bp_getI (q := 14) (ci := 9) (j := 3) 7 rfl rfl fl_Mo_66_9 hB1.kb rfl ?_
    rw [hB1.i3]
    refine bp_icmp_lt (q := 17) (tgt := 21) 8 rfl rfl (by decide) (fun z14 => ?_) (fun z14 => ?_)
    · refine bp_aload_n (q := 22) 11 rfl rfl rfl rfl ?_
      have hj : ∃ j, j < xs.length ∧ x = nI j ∧ x.toNatClampNeg = j := by
        obtain ⟨j, h1, h2⟩ := nI_of z6
        subst h2
        exact ⟨j, (nI_ltI (by omega) (by have := hB1.2.2.2.2.1.1; omega)).mp z14, rfl, nI_clamp (by omega)⟩
      refine bp_getR (x := M 4) (q := 25) (ci := 9) (j := 4) 12 rfl rfl fl_Mo_13_9 hB1.kb rfl hB1.r4 ?_
      refine bp_iload_n (q := 26) 13 rfl rfl rfl rfl ?_
      refine bp_bald (q := 27) 14 rfl rfl hB1.k4 (by obtain ⟨j, h1, h2, h3⟩ := hj; rw [h2]; exact vp_inL hB1.l4 (by have := hB1.2.2.2.2.1.1; omega) (by decide)) ?_
      refine bp_iret 15 rfl rfl rfl ⟨_, rfl, ?_⟩
      have q := hQ _ hB1
      rw [rg, if_neg z6, if_neg (Int32.not_le.mpr z14)] at q
      obtain ⟨j, h1, h2, h3⟩ := hj
      rw [h3] at q ⊢
      rw [hB1.2.2.2.2.1.2 j h1]
      exact q
    · refine bp_iconst (v := -1) (q := 18) 9 rfl rfl (by decide) ?_
      refine bp_goto (tgt := 27) 10 rfl (by decide) ?_
      refine bp_iret 15 rfl rfl rfl ⟨_, rfl, ?_⟩
      have q := hQ _ hB1
      rw [rg, if_neg z6, if_pos (Int32.not_lt.mp z14)] at q
      exact q
set_option maxRecDepth 100000 in
set_option maxHeartbeats 4000000 in
theorem s_Mo_wipe  (hB0 : MoX M h0 h tw i fa fm tl lk al ind sk dp lv fr en nf nn dg nu kd pn pe T xs L ps L1 p1 nt tb fd) (hQ : ∀ h', MoX M h0 h' 0 i fa fm tl lk al ind sk dp lv fr en nf nn dg nu kd pn pe T xs [] [] L1 p1 nt tb fd → Q none h' c s) : bp_AM l G H0 (0, 0, false, false) M_Mo_wipe h c s [.ref (M 0)] Q := by
  refine bp_of (ls := [some (.ref (M 0))]) (by decide) dt_Mo_wipe (Nat.le_of_ble_eq_true rfl) (fun q hq => hq) false ?_
  refine bp_aload_n (q := 1) 0 rfl rfl rfl rfl ?_
  refine bp_iconst (v := 0) (q := 2) 1 rfl rfl (by decide) ?_
  refine bp_putI (q := 5) (ci := 9) (j := 0) 2 rfl rfl fl_Mo_52_9 cl9 hB0.kb (fun r hr => by cases hr; rfl) (by decide) rfl rfl ?_
  refine bp_nx (X := fun h1 => MoX M h0 h1 0 i fa fm tl lk al ind sk dp lv fr en nf nn dg nu kd pn pe T xs L ps L1 p1 nt tb fd) (hB0.s0 rfl) (fun h1 hB1 => ?_)
  refine bp_aload_n (q := 6) 3 rfl rfl rfl rfl ?_
  refine bp_getR (x := M 5) (q := 9) (ci := 9) (j := 5) 4 rfl rfl fl_Mo_17_9 hB1.kb rfl hB1.r5 ?_
  refine bp_iconst (v := 0) (q := 10) 5 rfl rfl (by decide) ?_
  refine bp_iconst (v := 0) (q := 11) 6 rfl rfl (by decide) ?_
  refine bp_iast (q := 12) 7 rfl rfl hB1.k5 (vp_inL (n := 0) hB1.l5 (by decide) (by decide))  ?_
  rw [show ((0 : Int32).toNatClampNeg) = 0 from rfl]
  refine bp_aload_n (q := 13) 8 rfl rfl rfl rfl ?_
  refine bp_getR (x := M 6) (q := 16) (ci := 9) (j := 6) 9 rfl rfl fl_Mo_21_9 hB1.kb rfl hB1.r6 ?_
  refine bp_iconst (v := 0) (q := 17) 10 rfl rfl (by decide) ?_
  refine bp_iconst (v := 0) (q := 18) 11 rfl rfl (by decide) ?_
  refine bp_iast (q := 19) 12 rfl rfl hB1.k6 (vp_inL (n := 0) hB1.l6 (by decide) (by decide))  ?_
  rw [show ((0 : Int32).toNatClampNeg) = 0 from rfl]
  have f9 : bp_Fi (fun x => ∃ i, 5 ≤ i ∧ i ≤ 11 ∧ x = M i) h1 (bp_sI (bp_sI h1 (M 5) 0 0) (M 6) 0 0) := (bp_Fi.sI (F := fun x => ∃ i, 5 ≤ i ∧ i ≤ 11 ∧ x = M i) ⟨5, by decide, by decide, rfl⟩).tr (bp_Fi.sI ⟨6, by decide, by decide, rfl⟩)
  have n65 := hB1.2.1.ne 6 5
  have n56 := hB1.2.1.ne 5 6
  have p1_ := hB1.2.2.2.2.2.2.1
  have e9 : ∀ i, 7 ≤ i → i ≤ 11 → ∀ j, bp_I (bp_sI (bp_sI h1 (M 5) 0 0) (M 6) 0 0) (M i) j = bp_I h1 (M i) j := fun i h1_ h2_ j => by rw [bp_I_sI, if_neg (fun z => absurd z.1 (hB1.2.1.ne i 6 (mC_p i (by omega) h2_) rfl (by omega))), bp_I_sI, if_neg (fun z => absurd z.1 (hB1.2.1.ne i 5 (mC_p i (by omega) h2_) rfl (by omega)))]
  refine bp_nx (X := fun h2 => MoX M h0 h2 0 i fa fm tl lk al ind sk dp lv fr en nf nn dg nu kd pn pe T xs [] [] L1 p1 nt tb fd) (hB1.pages f9 ⟨by decide, by decide, by rw [bp_I_sI, if_neg (fun z => absurd z.1 n56), bp_I_sI, if_pos ⟨rfl, rfl⟩]; rfl, by rw [bp_I_sI, if_pos ⟨rfl, rfl⟩]; rfl, fun k hk => absurd hk (Nat.not_lt_zero k), fun k hk => absurd hk (Nat.not_lt_zero k)⟩ ⟨p1_.1, p1_.2.1, by rw [bp_I_sI, if_neg (fun z => absurd z.1 n56), bp_I_sI, if_neg (fun z => absurd z.2 (by decide))]; exact p1_.2.2.1, by rw [bp_I_sI, if_neg (fun z => absurd z.2 (by decide)), bp_I_sI, if_neg (fun z => absurd z.1 n65)]; exact p1_.2.2.2.1, fun k hk => by rw [e9 7 (by decide) (by decide), e9 8 (by decide) (by decide), e9 9 (by decide) (by decide)]; exact p1_.2.2.2.2.1 k hk, fun k hk => by rw [e9 10 (by decide) (by decide), e9 11 (by decide) (by decide)]; exact p1_.2.2.2.2.2 k hk⟩) (fun h2 hB2 => ?_)
  exact bp_vret 13 rfl rfl  ⟨_, rfl, hQ _ hB2⟩
set_option maxRecDepth 100000 in
set_option maxHeartbeats 4000000 in
theorem s_Mo_begin {x y : Int32} (hB0 : MoX M h0 h tw i fa fm tl lk al ind sk dp lv fr en nf nn dg nu kd pn pe T xs L ps L1 p1 nt tb fd) (hQ1 : ¬ (wi x 0 2 = true ∧ wi y 0 9 = true) → ∀ h', MoX M h0 h' 1 i fa fm tl lk al ind sk dp lv fr en nf nn dg nu kd pn pe T xs L ps L1 p1 nt tb fd → Q (some (.int 0)) h' c s) (hQ2 : wi x 0 2 = true ∧ wi y 0 9 = true → 16 ≤ ps.length → ∀ h', MoX M h0 h' 2 i fa fm tl lk al ind sk dp lv fr en nf nn dg nu kd pn pe T xs L ps L1 p1 nt tb fd → Q (some (.int 0)) h' c s) (hQ3 : ∀ a b, x = nI a → y = nI b → a < 3 → b < 10 → ps.length < 16 → ∀ h', MoX M h0 h' 0 i fa fm tl lk al ind sk dp lv fr en nf nn dg nu kd pn pe T xs L ((ps ++ [(a, b, L.length)])) L1 p1 nt tb fd → Q (some (.int (nI (ps ++ [(a, b, L.length)]).length))) h' c s) : bp_AM l G H0 (1, 23, false, false) M_Mo_begin h c s [.ref (M 0), .int x, .int y] Q := by
  refine bp_of (ls := [some (.ref (M 0)), some (.int x), some (.int y)]) (by decide) dt_Mo_begin (Nat.le_of_ble_eq_true rfl) (fun q hq => hq) false ?_
  refine bp_aload_n (q := 1) 0 rfl rfl rfl rfl ?_
  refine bp_iload_n (q := 2) 1 rfl rfl rfl rfl ?_
  refine bp_if_lt (q := 5) (tgt := 20) 2 rfl rfl (by decide) (fun z2 => ?_) (fun z2 => ?_)
  · refine bp_iconst (v := 1) (q := 21) 11 rfl rfl (by decide) ?_
    refine bp_goto (tgt := 40) 12 rfl (by decide) ?_
    refine bp_putI (q := 43) (ci := 9) (j := 0) 22 rfl rfl fl_Mo_52_9 cl9 hB0.kb (fun r hr => by cases hr; rfl) (by decide) rfl rfl ?_
    refine bp_nx (X := fun h1 => MoX M h0 h1 1 i fa fm tl lk al ind sk dp lv fr en nf nn dg nu kd pn pe T xs L ps L1 p1 nt tb fd) (hB0.s0 rfl) (fun h1 hB1 => ?_)
    refine bp_aload_n (q := 44) 23 rfl rfl rfl rfl ?_
    refine bp_getI (q := 47) (ci := 9) (j := 0) 24 rfl rfl fl_Mo_52_9 hB1.kb rfl ?_
    rw [hB1.i0]
    refine bp_if_eq (q := 50) (tgt := 52) 25 rfl rfl (by decide) (fun z => absurd z (by decide)) (fun z47 => ?_)
    refine bp_iconst (v := 0) (q := 51) 26 rfl rfl (by decide) ?_
    exact bp_iret 27 rfl rfl rfl ⟨_, rfl, hQ1 (fun q => wi_lt z2 q.1) _ hB1⟩
  · refine bp_iload_n (q := 6) 3 rfl rfl rfl rfl ?_
    refine bp_iconst (v := 2) (q := 7) 4 rfl rfl (by decide) ?_
    refine bp_icmp_gt (q := 10) (tgt := 20) 5 rfl rfl (by decide) (fun z7 => ?_) (fun z7 => ?_)
    · refine bp_iconst (v := 1) (q := 21) 11 rfl rfl (by decide) ?_
      refine bp_goto (tgt := 40) 12 rfl (by decide) ?_
      refine bp_putI (q := 43) (ci := 9) (j := 0) 22 rfl rfl fl_Mo_52_9 cl9 hB0.kb (fun r hr => by cases hr; rfl) (by decide) rfl rfl ?_
      refine bp_nx (X := fun h1 => MoX M h0 h1 1 i fa fm tl lk al ind sk dp lv fr en nf nn dg nu kd pn pe T xs L ps L1 p1 nt tb fd) (hB0.s0 rfl) (fun h1 hB1 => ?_)
      refine bp_aload_n (q := 44) 23 rfl rfl rfl rfl ?_
      refine bp_getI (q := 47) (ci := 9) (j := 0) 24 rfl rfl fl_Mo_52_9 hB1.kb rfl ?_
      rw [hB1.i0]
      refine bp_if_eq (q := 50) (tgt := 52) 25 rfl rfl (by decide) (fun z => absurd z (by decide)) (fun z47 => ?_)
      refine bp_iconst (v := 0) (q := 51) 26 rfl rfl (by decide) ?_
      exact bp_iret 27 rfl rfl rfl ⟨_, rfl, hQ1 (fun q => wi_gt z7 q.1) _ hB1⟩
    · refine bp_iload_n (q := 11) 6 rfl rfl rfl rfl ?_
      refine bp_if_lt (q := 14) (tgt := 20) 7 rfl rfl (by decide) (fun z11 => ?_) (fun z11 => ?_)
      · refine bp_iconst (v := 1) (q := 21) 11 rfl rfl (by decide) ?_
        refine bp_goto (tgt := 40) 12 rfl (by decide) ?_
        refine bp_putI (q := 43) (ci := 9) (j := 0) 22 rfl rfl fl_Mo_52_9 cl9 hB0.kb (fun r hr => by cases hr; rfl) (by decide) rfl rfl ?_
        refine bp_nx (X := fun h1 => MoX M h0 h1 1 i fa fm tl lk al ind sk dp lv fr en nf nn dg nu kd pn pe T xs L ps L1 p1 nt tb fd) (hB0.s0 rfl) (fun h1 hB1 => ?_)
        refine bp_aload_n (q := 44) 23 rfl rfl rfl rfl ?_
        refine bp_getI (q := 47) (ci := 9) (j := 0) 24 rfl rfl fl_Mo_52_9 hB1.kb rfl ?_
        rw [hB1.i0]
        refine bp_if_eq (q := 50) (tgt := 52) 25 rfl rfl (by decide) (fun z => absurd z (by decide)) (fun z47 => ?_)
        refine bp_iconst (v := 0) (q := 51) 26 rfl rfl (by decide) ?_
        exact bp_iret 27 rfl rfl rfl ⟨_, rfl, hQ1 (fun q => wi_lt z11 q.2) _ hB1⟩
      · refine bp_iload_n (q := 15) 8 rfl rfl rfl rfl ?_
        refine bp_bipush (v := 9) (q := 17) 9 rfl rfl (by decide) ?_
        refine bp_icmp_le (q := 20) (tgt := 24) 10 rfl rfl (by decide) (fun z17 => ?_) (fun z17 => ?_)
        · refine bp_aload_n (q := 25) 13 rfl rfl rfl rfl ?_
          refine bp_getR (x := M 6) (q := 28) (ci := 9) (j := 6) 14 rfl rfl fl_Mo_21_9 hB0.kb rfl hB0.r6 ?_
          refine bp_iconst (v := 0) (q := 29) 15 rfl rfl (by decide) ?_
          refine bp_iald (q := 30) 16 rfl rfl hB0.k6 (vp_inL (n := 0) hB0.l6 (by decide) (by decide)) ?_
          rw [show bp_I _ (M 6) ((0 : Int32).toNatClampNeg) = nI ps.length from hB0.2.2.2.2.2.1.2.2.2.1]
          refine bp_bipush (v := 16) (q := 32) 17 rfl rfl (by decide) ?_
          refine bp_icmp_ne (q := 35) (tgt := 39) 18 rfl rfl (by decide) (fun z32 => ?_) (fun z32 => ?_)
          · refine bp_iconst (v := 0) (q := 40) 21 rfl rfl (by decide) ?_
            refine bp_putI (q := 43) (ci := 9) (j := 0) 22 rfl rfl fl_Mo_52_9 cl9 hB0.kb (fun r hr => by cases hr; rfl) (by decide) rfl rfl ?_
            refine bp_nx (X := fun h1 => MoX M h0 h1 0 i fa fm tl lk al ind sk dp lv fr en nf nn dg nu kd pn pe T xs L ps L1 p1 nt tb fd) (hB0.s0 rfl) (fun h1 hB1 => ?_)
            refine bp_aload_n (q := 44) 23 rfl rfl rfl rfl ?_
            refine bp_getI (q := 47) (ci := 9) (j := 0) 24 rfl rfl fl_Mo_52_9 hB1.kb rfl ?_
            rw [hB1.i0]
            refine bp_if_eq (q := 50) (tgt := 52) 25 rfl rfl (by decide) (fun z47 => ?_) (fun z => absurd z (by decide))
            refine bp_aload_n (q := 53) 28 rfl rfl rfl rfl ?_
            obtain ⟨a, ha, -, rfl, -⟩ : ∃ k, k < 3 ∧ 0 ≤ k ∧ x = nI k ∧ True := by
              obtain ⟨k, -, h2, h3, -⟩ := wi_cl (x := 0) (y := 2) (by decide) (by decide) (wi_tt z2 z7)
              exact ⟨k, by omega, by omega, h3, trivial⟩
            obtain ⟨b, hb, -, rfl, -⟩ : ∃ k, k < 10 ∧ 0 ≤ k ∧ y = nI k ∧ True := by
              obtain ⟨k, -, h2, h3, -⟩ := wi_cl (x := 0) (y := 9) (by decide) (by decide) (wi_tt z11 (Int32.not_lt.mpr z17))
              exact ⟨k, by omega, by omega, h3, trivial⟩
            have h16 : ps.length < 16 := by
              have q := hB1.2.2.2.2.2.1.2.1
              have q2 : ¬ ps.length = 16 := fun e => z32 (by rw [e]; rfl)
              omega
            refine bp_iconst (v := 0) (q := 54) 29 rfl rfl (by decide) ?_
            refine bp_iload_n (q := 55) 30 rfl rfl rfl rfl ?_
            refine bp_iload_n (q := 56) 31 rfl rfl rfl rfl ?_
            refine bp_callV (q := 59) (ci := 9) 32 rfl rfl cw_Mo_endParagraph lk_Mo_132 rfl hB1.kb wd1553 wd60 rfl rfl (Nat.le_of_ble_eq_true rfl) ⟨Nat.le_of_ble_eq_true rfl, Nat.le_of_ble_eq_true rfl⟩ (s_Mo_endParagraph0 (x := a) (y := b) (e := L.length) hB1 h16 (Nat.le_refl _) (fun h2 hB2 => ?_))
            refine bp_aload_n (q := 60) 33 rfl rfl rfl rfl ?_
            refine bp_getR (x := M 6) (q := 63) (ci := 9) (j := 6) 34 rfl rfl fl_Mo_21_9 hB2.kb rfl hB2.r6 ?_
            refine bp_iconst (v := 0) (q := 64) 35 rfl rfl (by decide) ?_
            refine bp_iald (q := 65) 36 rfl rfl hB2.k6 (vp_inL (n := 0) hB2.l6 (by decide) (by decide)) ?_
            rw [show bp_I _ (M 6) ((0 : Int32).toNatClampNeg) = nI (ps ++ [(a, b, L.length)]).length from hB2.2.2.2.2.2.1.2.2.2.1]
            exact bp_iret 37 rfl rfl rfl ⟨_, rfl, hQ3 a b rfl rfl ha hb h16 _ hB2⟩
          · refine bp_iconst (v := 2) (q := 36) 19 rfl rfl (by decide) ?_
            refine bp_goto (tgt := 40) 20 rfl (by decide) ?_
            refine bp_putI (q := 43) (ci := 9) (j := 0) 22 rfl rfl fl_Mo_52_9 cl9 hB0.kb (fun r hr => by cases hr; rfl) (by decide) rfl rfl ?_
            refine bp_nx (X := fun h1 => MoX M h0 h1 2 i fa fm tl lk al ind sk dp lv fr en nf nn dg nu kd pn pe T xs L ps L1 p1 nt tb fd) (hB0.s0 rfl) (fun h1 hB1 => ?_)
            refine bp_aload_n (q := 44) 23 rfl rfl rfl rfl ?_
            refine bp_getI (q := 47) (ci := 9) (j := 0) 24 rfl rfl fl_Mo_52_9 hB1.kb rfl ?_
            rw [hB1.i0]
            refine bp_if_eq (q := 50) (tgt := 52) 25 rfl rfl (by decide) (fun z => absurd z (by decide)) (fun z47 => ?_)
            refine bp_iconst (v := 0) (q := 51) 26 rfl rfl (by decide) ?_
            exact bp_iret 27 rfl rfl rfl ⟨_, rfl, hQ2 ⟨wi_tt z2 z7, wi_tt z11 (Int32.not_lt.mpr z17)⟩ (by have := (nI_eq_iff (b := 16) (by have := hB0.2.2.2.2.2.1.2.1; omega) (by decide)).mp z32; omega) _ hB1⟩
        · refine bp_iconst (v := 1) (q := 21) 11 rfl rfl (by decide) ?_
          refine bp_goto (tgt := 40) 12 rfl (by decide) ?_
          refine bp_putI (q := 43) (ci := 9) (j := 0) 22 rfl rfl fl_Mo_52_9 cl9 hB0.kb (fun r hr => by cases hr; rfl) (by decide) rfl rfl ?_
          refine bp_nx (X := fun h1 => MoX M h0 h1 1 i fa fm tl lk al ind sk dp lv fr en nf nn dg nu kd pn pe T xs L ps L1 p1 nt tb fd) (hB0.s0 rfl) (fun h1 hB1 => ?_)
          refine bp_aload_n (q := 44) 23 rfl rfl rfl rfl ?_
          refine bp_getI (q := 47) (ci := 9) (j := 0) 24 rfl rfl fl_Mo_52_9 hB1.kb rfl ?_
          rw [hB1.i0]
          refine bp_if_eq (q := 50) (tgt := 52) 25 rfl rfl (by decide) (fun z => absurd z (by decide)) (fun z47 => ?_)
          refine bp_iconst (v := 0) (q := 51) 26 rfl rfl (by decide) ?_
          exact bp_iret 27 rfl rfl rfl ⟨_, rfl, hQ1 (fun q => wi_gt (Int32.not_le.mp z17) q.2) _ hB1⟩
end MO9
