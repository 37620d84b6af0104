/-! the reference's braced reading: states, words, numbers -/
theorem nt_sn {nt : List (Nat → Nat)} {v : Nat → Nat} {k : Nat} (h : k < nt.length) : nt_ (nt ++ [v]) k = nt_ nt k := by
  unfold nt_
  rw [List.getD_eq_getElem?_getD, List.getD_eq_getElem?_getD, List.getElem?_append_left h]
theorem nt_sn' {nt : List (Nat → Nat)} {v : Nat → Nat} : nt_ (nt ++ [v]) nt.length = v := by
  unfold nt_
  rw [List.getD_eq_getElem?_getD, List.getElem?_append_right (Nat.le_refl _), Nat.sub_self]; rfl
theorem spl_one {T : List Nat} {u v : Nat} {ys zs : List Nat} (h1 : spl T u v ys = true) (h2 : spl T u v zs = true) : ys = zs := by
  unfold spl at h1 h2
  rw [Bool.and_eq_true, Bool.and_eq_true, decide_eq_true_eq, decide_eq_true_eq, decide_eq_true_eq] at h1 h2
  have e : ys.length = zs.length := by omega
  rw [← h1.2.2, ← h2.2.2, e]
theorem spT_inj : ∀ j, j < 16 → ∀ k, k < 16 → spT j = spT k → j = k := by decide +kernel
theorem wdf_is {T : List Nat} {u v k : Nat} (hk : k < 16) (h : spl T u v (spT k) = true) : ∀ n j, j ≤ k → k < j + n → j + n ≤ 16 → wdf T u v n j = k
  | 0, j, h1, h2, _ => by omega
  | n + 1, j, h1, h2, h3 => by
    rw [wdf]
    by_cases e : spl T u v (spT j) = true
    · rw [if_pos e]; exact spT_inj j (by omega) k hk (spl_one e h)
    · rw [if_neg e]
      exact wdf_is hk h n (j + 1) (by have : j ≠ k := fun q => e (by rw [q]; exact h); omega) (by omega) (by omega)
theorem wdf_spl {T : List Nat} {u v : Nat} : ∀ n j, wdf T u v n j ≠ 0 → 1 ≤ j → spl T u v (spT (wdf T u v n j)) = true
  | 0, j, h, _ => absurd rfl h
  | n + 1, j, h, hj => by
    rw [wdf] at h ⊢
    by_cases e : spl T u v (spT j) = true
    · rw [if_pos e]; exact e
    · rw [if_neg e] at h ⊢; exact wdf_spl n (j + 1) h (by omega)
theorem spl_W {T : List Nat} {u v k : Nat} (h1 : 1 ≤ k) (h2 : k < 16) : spl T u v (spT k) = decide (wdf T u v 15 1 = k) := by
  rw [Bool.eq_iff_iff, decide_eq_true_eq]
  constructor
  · intro h; exact wdf_is h2 h 15 1 h1 (by omega) (by omega)
  · intro h
    have := wdf_spl (T := T) (u := u) (v := v) 15 1 (by omega) (by omega)
    rw [h] at this
    exact this
section MO14
variable {l : Launch} {G : bp_G} {H0 : Heap} {M : Nat → Nat} {h0 h : bp_H} {tw : Int32} {i : Nat} {fa : Int32} {fm : Int32} {tl : Int32} {lk : Nat} {al : Nat} {ind : Nat} {sk : Nat} {dp : Nat} {lv : Nat} {fr : Bool} {en : Nat} {nf : Nat} {nn : Nat} {dg : Nat} {nu : Int32} {kd : Nat} {pn : Int32} {pe : Nat} {T : List Nat} {xs : List Nat} {L : List (Nat × Nat)} {ps : List (Nat × Nat × Nat)} {L1 : List (Nat × Nat)} {p1 : List (Nat × Nat × Nat)} {nt : List (Nat → Nat)} {tb : List Nat} {fd : List Nat} {c s : Nat} {Q : Option Value → bp_H → Nat → Nat → Prop} {h' : bp_H} {nt' : List (Nat → Nat)} {tb' fd' : List Nat}
theorem MoX.arr21 (hB : MoX M h0 h tw i fa fm tl lk al ind sk dp lv fr en nf nn dg nu kd pn pe T xs L ps L1 p1 nt tb fd) (f : bp_Fi (fun x => x = M 21) h h') (hN : moN h' (M 21) nt') : MoX M h0 h' tw i fa fm tl lk al ind sk dp lv fr en nf nn dg nu kd pn pe T xs L ps L1 p1 nt' tb fd := by
  obtain ⟨b1, b2, b3, b4, b5, b6, b7, b8, b9, b10⟩ := hB
  have e : ∀ i, mC i = true → i ≠ 21 → ∀ j, bp_I h' (M i) j = bp_I h (M i) j := fun i hi hn j => f.2.2.2 _ (b2.ne i 21 hi rfl hn) j
  exact ⟨b1.tr (f.wk (fun x hx => ⟨21, rfl, hx⟩)), b2.fi f, b3.sm (e 0 rfl (by decide)), b4.sm (e 2 rfl (by decide)), b5.sm (e 4 rfl (by decide)), b6.sm (fun i h1 h2 => e i (mC_p i h1 h2) (by omega)), b7.sm (fun i h1 h2 => e i (mC_p i h1 h2) (by omega)), hN, b9.sm (e 25 rfl (by decide)), b10.sm (e 26 rfl (by decide))⟩
theorem MoX.arr25 (hB : MoX M h0 h tw i fa fm tl lk al ind sk dp lv fr en nf nn dg nu kd pn pe T xs L ps L1 p1 nt tb fd) (f : bp_Fi (fun x => x = M 25) h h') (hN : moS h' (M 25) 8 tb') : MoX M h0 h' tw i fa fm tl lk al ind sk dp lv fr en nf nn dg nu kd pn pe T xs L ps L1 p1 nt tb' fd := by
  obtain ⟨b1, b2, b3, b4, b5, b6, b7, b8, b9, b10⟩ := hB
  have e : ∀ i, mC i = true → i ≠ 25 → ∀ j, bp_I h' (M i) j = bp_I h (M i) j := fun i hi hn j => f.2.2.2 _ (b2.ne i 25 hi rfl hn) j
  exact ⟨b1.tr (f.wk (fun x hx => ⟨25, rfl, hx⟩)), b2.fi f, b3.sm (e 0 rfl (by decide)), b4.sm (e 2 rfl (by decide)), b5.sm (e 4 rfl (by decide)), b6.sm (fun i h1 h2 => e i (mC_p i h1 h2) (by omega)), b7.sm (fun i h1 h2 => e i (mC_p i h1 h2) (by omega)), b8.sm (e 21 rfl (by decide)), hN, b10.sm (e 26 rfl (by decide))⟩
theorem MoX.arr26 (hB : MoX M h0 h tw i fa fm tl lk al ind sk dp lv fr en nf nn dg nu kd pn pe T xs L ps L1 p1 nt tb fd) (f : bp_Fi (fun x => x = M 26) h h') (hN : moS h' (M 26) 8 fd') : MoX M h0 h' tw i fa fm tl lk al ind sk dp lv fr en nf nn dg nu kd pn pe T xs L ps L1 p1 nt tb fd' := by
  obtain ⟨b1, b2, b3, b4, b5, b6, b7, b8, b9, b10⟩ := hB
  have e : ∀ i, mC i = true → i ≠ 26 → ∀ j, bp_I h' (M i) j = bp_I h (M i) j := fun i hi hn j => f.2.2.2 _ (b2.ne i 26 hi rfl hn) j
  exact ⟨b1.tr (f.wk (fun x hx => ⟨26, rfl, hx⟩)), b2.fi f, b3.sm (e 0 rfl (by decide)), b4.sm (e 2 rfl (by decide)), b5.sm (e 4 rfl (by decide)), b6.sm (fun i h1 h2 => e i (mC_p i h1 h2) (by omega)), b7.sm (fun i h1 h2 => e i (mC_p i h1 h2) (by omega)), b8.sm (e 21 rfl (by decide)), b9.sm (e 25 rfl (by decide)), hN⟩
theorem MoX.w21 {k : Nat} {x : Int32} (hB : MoX M h0 h tw i fa fm tl lk al ind sk dp lv fr en nf nn dg nu kd pn pe T xs L ps L1 p1 nt tb fd) (hk : 4 * nt.length ≤ k) : MoX M h0 (bp_sI h (M 21) k x) tw i fa fm tl lk al ind sk dp lv fr en nf nn dg nu kd pn pe T xs L ps L1 p1 nt tb fd := hB.arr21 (bp_Fi.sI rfl) ⟨hB.2.2.2.2.2.2.2.1.1, fun j hj => by rw [bp_I_sI, if_neg (fun z => by have := z.2; omega), bp_I_sI, if_neg (fun z => by have := z.2; omega), bp_I_sI, if_neg (fun z => by have := z.2; omega), bp_I_sI, if_neg (fun z => by have := z.2; omega)]; exact hB.2.2.2.2.2.2.2.1.2 j hj⟩
theorem MoX.less {nt : List (Nat → Nat)} {v : Nat → Nat} (hB : MoX M h0 h tw i fa fm tl lk al ind sk dp lv fr en nf nn dg nu kd pn pe T xs L ps L1 p1 (nt ++ [v]) tb fd) : MoX M h0 h tw i fa fm tl lk al ind sk dp lv fr en nf nn dg nu kd pn pe T xs L ps L1 p1 nt tb fd := hB.arr21 ⟨rfl, rfl, rfl, fun _ _ _ => rfl⟩ ⟨by have := hB.2.2.2.2.2.2.2.1.1; rw [List.length_append] at this; simp at this; omega, fun j hj => by have := hB.2.2.2.2.2.2.2.1.2 j (by rw [List.length_append]; omega); rw [nt_sn hj] at this; exact this⟩
set_option maxRecDepth 100000 in
set_option maxHeartbeats 4000000 in
theorem s_Mo_note {v : Nat → Nat} (hB0 : MoX M h0 h tw i fa fm tl (mlV v) (v 3) (v 4) (v 5) nt.length lv fr en nf nn dg nu kd pn pe T xs L ps L1 p1 nt tb fd) (hd : nt.length ≤ 12) (hQ : ∀ h', MoX M h0 h' tw i fa fm tl (mlV v) (v 3) (v 4) (v 5) (nt.length + 1) lv fr en nf nn dg nu kd pn pe T xs L ps L1 p1 (nt ++ [v]) tb fd → Q none h' c s) : bp_AM l G H0 (0, 0, false, false) M_Mo_note h c s [.ref (M 0)] Q := by
  refine bp_of (ls := [some (.ref (M 0))]) (by decide) dt_Mo_note (Nat.le_of_ble_eq_true rfl) (fun q hq => hq) false ?_
  refine bp_aload_n (q := 1) 0 rfl rfl rfl rfl ?_
  refine bp_getR (x := M 21) (q := 4) (ci := 9) (j := 21) 1 rfl rfl fl_Mo_43_9 hB0.kb rfl hB0.r21 ?_
  refine bp_iconst (v := 4) (q := 5) 2 rfl rfl (by decide) ?_
  refine bp_aload_n (q := 6) 3 rfl rfl rfl rfl ?_
  refine bp_getI (q := 9) (ci := 9) (j := 20) 4 rfl rfl fl_Mo_93_9 hB0.kb rfl ?_
  rw [hB0.i20]
  refine bp_imul (q := 10) 5 rfl rfl ?_
  rw [show (4 : Int32) * nI nt.length = nI (4 * nt.length + 0) from by rw [show (4 : Int32) = nI 4 from rfl, nI_mul]; rfl]
  refine bp_aload_n (q := 11) 6 rfl rfl rfl rfl ?_
  refine bp_getI (q := 14) (ci := 9) (j := 16) 7 rfl rfl fl_Mo_96_9 hB0.kb rfl ?_
  rw [hB0.i16]
  refine bp_iast (q := 15) 8 rfl rfl hB0.k21 (vp_inL hB0.l21 (by omega) (by decide))  ?_
  rw [nI_clamp (by omega)]
  refine bp_nx (X := fun h1 => MoX M h0 h1 tw i fa fm tl (mlV v) (v 3) (v 4) (v 5) nt.length lv fr en nf nn dg nu kd pn pe T xs L ps L1 p1 nt tb fd ∧ bp_I h1 (M 21) (4 * nt.length + 0) = nI (mlV v)) ⟨hB0.w21 (by omega), by rw [bp_I_sI, if_pos ⟨rfl, rfl⟩]⟩ (fun h1 ⟨hB1, f1_0⟩ => ?_)
  refine bp_aload_n (q := 16) 9 rfl rfl rfl rfl ?_
  refine bp_getR (x := M 21) (q := 19) (ci := 9) (j := 21) 10 rfl rfl fl_Mo_43_9 hB1.kb rfl hB1.r21 ?_
  refine bp_iconst (v := 4) (q := 20) 11 rfl rfl (by decide) ?_
  refine bp_aload_n (q := 21) 12 rfl rfl rfl rfl ?_
  refine bp_getI (q := 24) (ci := 9) (j := 20) 13 rfl rfl fl_Mo_93_9 hB1.kb rfl ?_
  rw [hB1.i20]
  refine bp_imul (q := 25) 14 rfl rfl ?_
  refine bp_iconst (v := 1) (q := 26) 15 rfl rfl (by decide) ?_
  refine bp_iadd (q := 27) 16 rfl rfl ?_
  rw [show (4 : Int32) * nI nt.length + 1 = nI (4 * nt.length + 1) from by rw [show (4 : Int32) = nI 4 from rfl, nI_mul, show (1 : Int32) = nI 1 from rfl, nI_add]]
  refine bp_aload_n (q := 28) 17 rfl rfl rfl rfl ?_
  refine bp_getI (q := 31) (ci := 9) (j := 17) 18 rfl rfl fl_Mo_99_9 hB1.kb rfl ?_
  rw [hB1.i17]
  refine bp_iast (q := 32) 19 rfl rfl hB1.k21 (vp_inL hB1.l21 (by omega) (by decide))  ?_
  rw [nI_clamp (by omega)]
  refine bp_nx (X := fun h2 => MoX M h0 h2 tw i fa fm tl (mlV v) (v 3) (v 4) (v 5) nt.length lv fr en nf nn dg nu kd pn pe T xs L ps L1 p1 nt tb fd ∧ bp_I h2 (M 21) (4 * nt.length + 0) = nI (mlV v) ∧ bp_I h2 (M 21) (4 * nt.length + 1) = nI (v 3)) ⟨hB1.w21 (by omega), by rw [bp_I_sI, if_neg (fun z => by have := z.2; omega)]; exact f1_0, by rw [bp_I_sI, if_pos ⟨rfl, rfl⟩]⟩ (fun h2 ⟨hB2, f2_0, f2_1⟩ => ?_)
  refine bp_aload_n (q := 33) 20 rfl rfl rfl rfl ?_
  refine bp_getR (x := M 21) (q := 36) (ci := 9) (j := 21) 21 rfl rfl fl_Mo_43_9 hB2.kb rfl hB2.r21 ?_
  refine bp_iconst (v := 4) (q := 37) 22 rfl rfl (by decide) ?_
  refine bp_aload_n (q := 38) 23 rfl rfl rfl rfl ?_
  refine bp_getI (q := 41) (ci := 9) (j := 20) 24 rfl rfl fl_Mo_93_9 hB2.kb rfl ?_
  rw [hB2.i20]
  refine bp_imul (q := 42) 25 rfl rfl ?_
  refine bp_iconst (v := 2) (q := 43) 26 rfl rfl (by decide) ?_
  refine bp_iadd (q := 44) 27 rfl rfl ?_
  rw [show (4 : Int32) * nI nt.length + 2 = nI (4 * nt.length + 2) from by rw [show (4 : Int32) = nI 4 from rfl, nI_mul, show (2 : Int32) = nI 2 from rfl, nI_add]]
  refine bp_aload_n (q := 45) 28 rfl rfl rfl rfl ?_
  refine bp_getI (q := 48) (ci := 9) (j := 18) 29 rfl rfl fl_Mo_102_9 hB2.kb rfl ?_
  rw [hB2.i18]
  refine bp_iast (q := 49) 30 rfl rfl hB2.k21 (vp_inL hB2.l21 (by omega) (by decide))  ?_
  rw [nI_clamp (by omega)]
  refine bp_nx (X := fun h3 => MoX M h0 h3 tw i fa fm tl (mlV v) (v 3) (v 4) (v 5) nt.length lv fr en nf nn dg nu kd pn pe T xs L ps L1 p1 nt tb fd ∧ bp_I h3 (M 21) (4 * nt.length + 0) = nI (mlV v) ∧ bp_I h3 (M 21) (4 * nt.length + 1) = nI (v 3) ∧ bp_I h3 (M 21) (4 * nt.length + 2) = nI (v 4)) ⟨hB2.w21 (by omega), by rw [bp_I_sI, if_neg (fun z => by have := z.2; omega)]; exact f2_0, by rw [bp_I_sI, if_neg (fun z => by have := z.2; omega)]; exact f2_1, by rw [bp_I_sI, if_pos ⟨rfl, rfl⟩]⟩ (fun h3 ⟨hB3, f3_0, f3_1, f3_2⟩ => ?_)
  refine bp_aload_n (q := 50) 31 rfl rfl rfl rfl ?_
  refine bp_getR (x := M 21) (q := 53) (ci := 9) (j := 21) 32 rfl rfl fl_Mo_43_9 hB3.kb rfl hB3.r21 ?_
  refine bp_iconst (v := 4) (q := 54) 33 rfl rfl (by decide) ?_
  refine bp_aload_n (q := 55) 34 rfl rfl rfl rfl ?_
  refine bp_getI (q := 58) (ci := 9) (j := 20) 35 rfl rfl fl_Mo_93_9 hB3.kb rfl ?_
  rw [hB3.i20]
  refine bp_imul (q := 59) 36 rfl rfl ?_
  refine bp_iconst (v := 3) (q := 60) 37 rfl rfl (by decide) ?_
  refine bp_iadd (q := 61) 38 rfl rfl ?_
  rw [show (4 : Int32) * nI nt.length + 3 = nI (4 * nt.length + 3) from by rw [show (4 : Int32) = nI 4 from rfl, nI_mul, show (3 : Int32) = nI 3 from rfl, nI_add]]
  refine bp_aload_n (q := 62) 39 rfl rfl rfl rfl ?_
  refine bp_getI (q := 65) (ci := 9) (j := 19) 40 rfl rfl fl_Mo_105_9 hB3.kb rfl ?_
  rw [hB3.i19]
  refine bp_iast (q := 66) 41 rfl rfl hB3.k21 (vp_inL hB3.l21 (by omega) (by decide))  ?_
  rw [nI_clamp (by omega)]
  refine bp_nx (X := fun h4 => MoX M h0 h4 tw i fa fm tl (mlV v) (v 3) (v 4) (v 5) nt.length lv fr en nf nn dg nu kd pn pe T xs L ps L1 p1 nt tb fd ∧ bp_I h4 (M 21) (4 * nt.length + 0) = nI (mlV v) ∧ bp_I h4 (M 21) (4 * nt.length + 1) = nI (v 3) ∧ bp_I h4 (M 21) (4 * nt.length + 2) = nI (v 4) ∧ bp_I h4 (M 21) (4 * nt.length + 3) = nI (v 5)) ⟨hB3.w21 (by omega), by rw [bp_I_sI, if_neg (fun z => by have := z.2; omega)]; exact f3_0, by rw [bp_I_sI, if_neg (fun z => by have := z.2; omega)]; exact f3_1, by rw [bp_I_sI, if_neg (fun z => by have := z.2; omega)]; exact f3_2, by rw [bp_I_sI, if_pos ⟨rfl, rfl⟩]⟩ (fun h4 ⟨hB4, f4_0, f4_1, f4_2, f4_3⟩ => ?_)
  refine bp_aload_n (q := 67) 42 rfl rfl rfl rfl ?_
  refine bp_dup (q := 68) 43 rfl rfl rfl ?_
  refine bp_getI (q := 71) (ci := 9) (j := 20) 44 rfl rfl fl_Mo_93_9 hB4.kb rfl ?_
  rw [hB4.i20]
  refine bp_iconst (v := 1) (q := 72) 45 rfl rfl (by decide) ?_
  refine bp_iadd (q := 73) 46 rfl rfl ?_
  refine bp_putI (q := 76) (ci := 9) (j := 20) 47 rfl rfl fl_Mo_93_9 cl9 hB4.kb (fun r hr => by cases hr; rfl) (by decide) rfl rfl ?_
  refine bp_nx (X := fun h5 => MoX M h0 h5 tw i fa fm tl (mlV v) (v 3) (v 4) (v 5) (nt.length + 1) lv fr en nf nn dg nu kd pn pe T xs L ps L1 p1 nt tb fd ∧ bp_I h5 (M 21) (4 * nt.length + 0) = nI (mlV v) ∧ bp_I h5 (M 21) (4 * nt.length + 1) = nI (v 3) ∧ bp_I h5 (M 21) (4 * nt.length + 2) = nI (v 4) ∧ bp_I h5 (M 21) (4 * nt.length + 3) = nI (v 5)) ⟨hB4.s20 (nI_1 _), by rw [bp_I_sI, if_neg (fun z => absurd z.1 (hB4.2.1.ne 21 0))]; exact f4_0, by rw [bp_I_sI, if_neg (fun z => absurd z.1 (hB4.2.1.ne 21 0))]; exact f4_1, by rw [bp_I_sI, if_neg (fun z => absurd z.1 (hB4.2.1.ne 21 0))]; exact f4_2, by rw [bp_I_sI, if_neg (fun z => absurd z.1 (hB4.2.1.ne 21 0))]; exact f4_3⟩ (fun h5 ⟨hB5, g0, g1, g2, g3⟩ => ?_)
  have hN : moN h5 (M 21) (nt ++ [v]) := ⟨by rw [List.length_append]; simp; omega, fun j hj => by
    rw [List.length_append] at hj
    by_cases e : j < nt.length
    · rw [nt_sn e]; exact hB5.2.2.2.2.2.2.2.1.2 j e
    · have e2 : j = nt.length := by simp at hj; omega
      rw [e2, nt_sn']; exact ⟨g0, g1, g2, g3⟩⟩
  have hB6 := hB5.arr21 ⟨rfl, rfl, rfl, fun _ _ _ => rfl⟩ hN
  exact bp_vret 48 rfl rfl  ⟨_, rfl, hQ _ hB6⟩
set_option maxRecDepth 100000 in
set_option maxHeartbeats 4000000 in
theorem s_Mo_recall {v : Nat → Nat} (hB0 : MoX M h0 h tw i fa fm tl lk al ind sk (nt.length + 1) lv fr en nf nn dg nu kd pn pe T xs L ps L1 p1 (nt ++ [v]) tb fd) (hd : nt.length ≤ 12) (hQ : ∀ h', MoX M h0 h' tw i fa fm tl (mlV v) (v 3) (v 4) (v 5) nt.length lv fr en nf nn dg nu kd pn pe T xs L ps L1 p1 nt tb fd → Q none h' c s) : bp_AM l G H0 (0, 0, false, false) M_Mo_recall h c s [.ref (M 0)] Q := by
  refine bp_of (ls := [some (.ref (M 0))]) (by decide) dt_Mo_recall (Nat.le_of_ble_eq_true rfl) (fun q hq => hq) false ?_
  refine bp_aload_n (q := 1) 0 rfl rfl rfl rfl ?_
  refine bp_dup (q := 2) 1 rfl rfl rfl ?_
  refine bp_getI (q := 5) (ci := 9) (j := 20) 2 rfl rfl fl_Mo_93_9 hB0.kb rfl ?_
  rw [hB0.i20]
  refine bp_iconst (v := 1) (q := 6) 3 rfl rfl (by decide) ?_
  refine bp_isub (q := 7) 4 rfl rfl ?_
  refine bp_putI (q := 10) (ci := 9) (j := 20) 5 rfl rfl fl_Mo_93_9 cl9 hB0.kb (fun r hr => by cases hr; rfl) (by decide) rfl rfl ?_
  refine bp_nx (X := fun h1 => MoX M h0 h1 tw i fa fm tl lk al ind sk nt.length lv fr en nf nn dg nu kd pn pe T xs L ps L1 p1 (nt ++ [v]) tb fd) (hB0.s20 (nI_sub (b := 1) (by omega))) (fun h1 hB1 => ?_)
  refine bp_aload_n (q := 11) 6 rfl rfl rfl rfl ?_
  refine bp_aload_n (q := 12) 7 rfl rfl rfl rfl ?_
  refine bp_getR (x := M 21) (q := 15) (ci := 9) (j := 21) 8 rfl rfl fl_Mo_43_9 hB1.kb rfl hB1.r21 ?_
  refine bp_iconst (v := 4) (q := 16) 9 rfl rfl (by decide) ?_
  refine bp_aload_n (q := 17) 10 rfl rfl rfl rfl ?_
  refine bp_getI (q := 20) (ci := 9) (j := 20) 11 rfl rfl fl_Mo_93_9 hB1.kb rfl ?_
  rw [hB1.i20]
  refine bp_imul (q := 21) 12 rfl rfl ?_
  rw [show (4 : Int32) * nI nt.length = nI (4 * nt.length + 0) from by rw [show (4 : Int32) = nI 4 from rfl, nI_mul]; rfl]
  refine bp_iald (q := 22) 13 rfl rfl hB1.k21 (vp_inL hB1.l21 (by omega) (by decide)) ?_
  rw [nI_clamp (by omega), show bp_I h1 (M 21) (4 * nt.length + 0) = nI (mlV v) from by have := (hB1.2.2.2.2.2.2.2.1.2 nt.length (by rw [List.length_append]; simp)).1; rw [nt_sn'] at this; exact this]
  refine bp_putI (q := 25) (ci := 9) (j := 16) 14 rfl rfl fl_Mo_96_9 cl9 hB1.kb (fun r hr => by cases hr; rfl) (by decide) rfl rfl ?_
  refine bp_nx (X := fun h2 => MoX M h0 h2 tw i fa fm tl (mlV v) al ind sk nt.length lv fr en nf nn dg nu kd pn pe T xs L ps L1 p1 (nt ++ [v]) tb fd) (hB1.s16 rfl) (fun h2 hB2 => ?_)
  refine bp_aload_n (q := 26) 15 rfl rfl rfl rfl ?_
  refine bp_aload_n (q := 27) 16 rfl rfl rfl rfl ?_
  refine bp_getR (x := M 21) (q := 30) (ci := 9) (j := 21) 17 rfl rfl fl_Mo_43_9 hB2.kb rfl hB2.r21 ?_
  refine bp_iconst (v := 4) (q := 31) 18 rfl rfl (by decide) ?_
  refine bp_aload_n (q := 32) 19 rfl rfl rfl rfl ?_
  refine bp_getI (q := 35) (ci := 9) (j := 20) 20 rfl rfl fl_Mo_93_9 hB2.kb rfl ?_
  rw [hB2.i20]
  refine bp_imul (q := 36) 21 rfl rfl ?_
  refine bp_iconst (v := 1) (q := 37) 22 rfl rfl (by decide) ?_
  refine bp_iadd (q := 38) 23 rfl rfl ?_
  rw [show (4 : Int32) * nI nt.length + 1 = nI (4 * nt.length + 1) from by rw [show (4 : Int32) = nI 4 from rfl, nI_mul, show (1 : Int32) = nI 1 from rfl, nI_add]]
  refine bp_iald (q := 39) 24 rfl rfl hB2.k21 (vp_inL hB2.l21 (by omega) (by decide)) ?_
  rw [nI_clamp (by omega), show bp_I h2 (M 21) (4 * nt.length + 1) = nI (v 3) from by have := (hB2.2.2.2.2.2.2.2.1.2 nt.length (by rw [List.length_append]; simp)).2.1; rw [nt_sn'] at this; exact this]
  refine bp_putI (q := 42) (ci := 9) (j := 17) 25 rfl rfl fl_Mo_99_9 cl9 hB2.kb (fun r hr => by cases hr; rfl) (by decide) rfl rfl ?_
  refine bp_nx (X := fun h3 => MoX M h0 h3 tw i fa fm tl (mlV v) (v 3) ind sk nt.length lv fr en nf nn dg nu kd pn pe T xs L ps L1 p1 (nt ++ [v]) tb fd) (hB2.s17 rfl) (fun h3 hB3 => ?_)
  refine bp_aload_n (q := 43) 26 rfl rfl rfl rfl ?_
  refine bp_aload_n (q := 44) 27 rfl rfl rfl rfl ?_
  refine bp_getR (x := M 21) (q := 47) (ci := 9) (j := 21) 28 rfl rfl fl_Mo_43_9 hB3.kb rfl hB3.r21 ?_
  refine bp_iconst (v := 4) (q := 48) 29 rfl rfl (by decide) ?_
  refine bp_aload_n (q := 49) 30 rfl rfl rfl rfl ?_
  refine bp_getI (q := 52) (ci := 9) (j := 20) 31 rfl rfl fl_Mo_93_9 hB3.kb rfl ?_
  rw [hB3.i20]
  refine bp_imul (q := 53) 32 rfl rfl ?_
  refine bp_iconst (v := 2) (q := 54) 33 rfl rfl (by decide) ?_
  refine bp_iadd (q := 55) 34 rfl rfl ?_
  rw [show (4 : Int32) * nI nt.length + 2 = nI (4 * nt.length + 2) from by rw [show (4 : Int32) = nI 4 from rfl, nI_mul, show (2 : Int32) = nI 2 from rfl, nI_add]]
  refine bp_iald (q := 56) 35 rfl rfl hB3.k21 (vp_inL hB3.l21 (by omega) (by decide)) ?_
  rw [nI_clamp (by omega), show bp_I h3 (M 21) (4 * nt.length + 2) = nI (v 4) from by have := (hB3.2.2.2.2.2.2.2.1.2 nt.length (by rw [List.length_append]; simp)).2.2.1; rw [nt_sn'] at this; exact this]
  refine bp_putI (q := 59) (ci := 9) (j := 18) 36 rfl rfl fl_Mo_102_9 cl9 hB3.kb (fun r hr => by cases hr; rfl) (by decide) rfl rfl ?_
  refine bp_nx (X := fun h4 => MoX M h0 h4 tw i fa fm tl (mlV v) (v 3) (v 4) sk nt.length lv fr en nf nn dg nu kd pn pe T xs L ps L1 p1 (nt ++ [v]) tb fd) (hB3.s18 rfl) (fun h4 hB4 => ?_)
  refine bp_aload_n (q := 60) 37 rfl rfl rfl rfl ?_
  refine bp_aload_n (q := 61) 38 rfl rfl rfl rfl ?_
  refine bp_getR (x := M 21) (q := 64) (ci := 9) (j := 21) 39 rfl rfl fl_Mo_43_9 hB4.kb rfl hB4.r21 ?_
  refine bp_iconst (v := 4) (q := 65) 40 rfl rfl (by decide) ?_
  refine bp_aload_n (q := 66) 41 rfl rfl rfl rfl ?_
  refine bp_getI (q := 69) (ci := 9) (j := 20) 42 rfl rfl fl_Mo_93_9 hB4.kb rfl ?_
  rw [hB4.i20]
  refine bp_imul (q := 70) 43 rfl rfl ?_
  refine bp_iconst (v := 3) (q := 71) 44 rfl rfl (by decide) ?_
  refine bp_iadd (q := 72) 45 rfl rfl ?_
  rw [show (4 : Int32) * nI nt.length + 3 = nI (4 * nt.length + 3) from by rw [show (4 : Int32) = nI 4 from rfl, nI_mul, show (3 : Int32) = nI 3 from rfl, nI_add]]
  refine bp_iald (q := 73) 46 rfl rfl hB4.k21 (vp_inL hB4.l21 (by omega) (by decide)) ?_
  rw [nI_clamp (by omega), show bp_I h4 (M 21) (4 * nt.length + 3) = nI (v 5) from by have := (hB4.2.2.2.2.2.2.2.1.2 nt.length (by rw [List.length_append]; simp)).2.2.2; rw [nt_sn'] at this; exact this]
  refine bp_putI (q := 76) (ci := 9) (j := 19) 47 rfl rfl fl_Mo_105_9 cl9 hB4.kb (fun r hr => by cases hr; rfl) (by decide) rfl rfl ?_
  refine bp_nx (X := fun h5 => MoX M h0 h5 tw i fa fm tl (mlV v) (v 3) (v 4) (v 5) nt.length lv fr en nf nn dg nu kd pn pe T xs L ps L1 p1 (nt ++ [v]) tb fd) (hB4.s19 rfl) (fun h5 hB5 => ?_)
  exact bp_vret 48 rfl rfl  ⟨_, rfl, hQ _ hB5.less⟩
set_option maxRecDepth 100000 in
set_option maxHeartbeats 4000000 in
theorem s_Mo_word {ro : Bool} {k : Nat} {x : Int64} (hB0 : MoX M h0 h tw i fa fm tl lk al ind sk dp lv fr en nf nn dg nu kd pn pe T xs L ps L1 p1 nt tb fd) (hT : okT T) (hx : ltx x (spT k)) (hk : k = 1 ∨ k = 2 ∨ k = 3 ∨ k = 4 ∨ k = 5 ∨ k = 6 ∨ k = 7 ∨ k = 8 ∨ k = 9 ∨ k = 10 ∨ k = 11 ∨ k = 12 ∨ k = 13 ∨ k = 14 ∨ k = 15) (hu : nf < 100000) (hv : nn < 100000) (huv : nf ≤ nn) (hQ : Q (some (.int (bI (decide (wdf T nf nn 15 1 = k))))) h c s) : bp_AM l G H0 (2, 48, ro, ro) M_Mo_word h c s [.ref (M 0), .long x] Q := by
  refine bp_of (ls := [some (.ref (M 0)), some (.long x), none]) (by decide) dt_Mo_word (Nat.le_of_ble_eq_true rfl) (fun q hq => hq) ro ?_
  refine bp_aload_n (q := 1) 0 rfl rfl rfl rfl ?_
  refine bp_aload_n (q := 2) 1 rfl rfl rfl rfl ?_
  refine bp_getI (q := 5) (ci := 9) (j := 27) 2 rfl rfl fl_Mo_179_9 hB0.kb rfl ?_
  rw [hB0.i27]
  refine bp_aload_n (q := 6) 3 rfl rfl rfl rfl ?_
  refine bp_getI (q := 9) (ci := 9) (j := 28) 4 rfl rfl fl_Mo_182_9 hB0.kb rfl ?_
  rw [hB0.i28]
  refine bp_lload_n (q := 10) 5 rfl rfl rfl rfl ?_
  refine bp_callV (q := 13) (ci := 9) 6 rfl rfl cw_Mo_reads lk_Mo_191 rfl hB0.kb wd1496 wd54 rfl rfl (Nat.le_of_ble_eq_true rfl) ⟨Nat.le_of_ble_eq_true rfl, Nat.le_of_ble_eq_true rfl⟩ (s_Mo_reads (ro := ro) hB0 hT hx (by rcases hk with e | e | e | e | e | e | e | e | e | e | e | e | e | e | e <;> subst e <;> rfl) hu hv huv ?_)
  refine bp_iret 7 rfl rfl (bI_nar _) ⟨_, rfl, ?_⟩
  rw [spl_W (by omega) (by omega)]
  exact hQ
def bdN (dg : Nat) (nu o : Int32) : Int32 := if dg = 0 then o else nu
set_option maxRecDepth 100000 in
set_option maxHeartbeats 4000000 in
theorem s_Mo_bounded {be o lo hi : Int32} (hB0 : MoX M h0 h tw i 0 fm tl lk al ind sk dp lv fr en nf nn dg nu kd pn pe T xs L ps L1 p1 nt tb fd) (hdg : dg < 1000000) (hQ1 : 5 < dg ∨ bdN dg nu o < lo ∨ hi < bdN dg nu o → ∀ h', MoX M h0 h' tw i (-5) be tl lk al ind sk dp lv fr en nf nn dg nu kd pn pe T xs L ps L1 p1 nt tb fd → Q (some (.int lo)) h' c s) (hQ2 : dg ≤ 5 → lo ≤ bdN dg nu o → bdN dg nu o ≤ hi → Q (some (.int (bdN dg nu o))) h c s) : bp_AM l G H0 (2, 45, false, false) M_Mo_bounded h c s [.ref (M 0), .int be, .int o, .int lo, .int hi] Q := by
  refine bp_of (ls := [some (.ref (M 0)), some (.int be), some (.int o), some (.int lo), some (.int hi), none]) (by decide) dt_Mo_bounded (Nat.le_of_ble_eq_true rfl) (fun q hq => hq) false ?_
  have hf : (0 : Int32) = 0 := rfl
  refine bp_aload_n (q := 1) 0 rfl rfl rfl rfl ?_
  refine bp_getI (q := 4) (ci := 9) (j := 29) 1 rfl rfl fl_Mo_185_9 hB0.kb rfl ?_
  rw [hB0.i29]
  refine bp_if_ne (q := 7) (tgt := 11) 2 rfl rfl (by decide) (fun z4 => ?_) (fun z4 => ?_)
  · refine bp_aload_n (q := 12) 5 rfl rfl rfl rfl ?_
    refine bp_getI (q := 15) (ci := 9) (j := 30) 6 rfl rfl fl_Mo_188_9 hB0.kb rfl ?_
    rw [hB0.i30]
    refine bp_istore (q := 17) 7 rfl rfl (by decide) (bp_up5 rfl) ?_
    have eN : bdN dg nu o = nu := if_neg (fun e => z4 (by rw [e]; rfl))
    refine bp_aload_n (q := 18) 8 rfl rfl rfl rfl ?_
    refine bp_aload_n (q := 19) 9 rfl rfl rfl rfl ?_
    refine bp_getI (q := 22) (ci := 9) (j := 29) 10 rfl rfl fl_Mo_185_9 hB0.kb rfl ?_
    rw [hB0.i29]
    refine bp_iconst (v := 5) (q := 23) 11 rfl rfl (by decide) ?_
    refine bp_icmp_gt (q := 26) (tgt := 39) 12 rfl rfl (by decide) (fun z23 => ?_) (fun z23 => ?_)
    · refine bp_iconst (v := 1) (q := 40) 19 rfl rfl (by decide) ?_
      refine bp_goto (tgt := 44) 20 rfl (by decide) ?_
      refine bp_bipush (v := -5) (q := 46) 22 rfl rfl (by decide) ?_
      refine bp_iload_n (q := 47) 23 rfl rfl rfl rfl ?_
      refine bp_callV (q := 50) (ci := 9) 24 rfl rfl cw_Mo_failIf lk_Mo_118 rfl hB0.kb wd1449 wd44 rfl rfl (Nat.le_of_ble_eq_true rfl) ⟨Nat.le_of_ble_eq_true rfl, Nat.le_of_ble_eq_true rfl⟩ (s_Mo_failIf0 hB0 (by decide) hf (fun h1 hB1 => ?_))
      refine bp_aload_n (q := 51) 25 rfl rfl rfl rfl ?_
      refine bp_getI (q := 54) (ci := 9) (j := 13) 26 rfl rfl fl_Mo_69_9 hB1.kb rfl ?_
      rw [hB1.i13]
      refine bp_if_ne (q := 57) (tgt := 62) 27 rfl rfl (by decide) (fun z54 => ?_) (fun z => absurd z (by decide))
      refine bp_iload_n (q := 63) 30 rfl rfl rfl rfl ?_
      exact bp_iret 31 rfl rfl rfl ⟨_, rfl, hQ1 (Or.inl (by have := (nI_lt_iff (a := 5) (by decide) hdg).mp z23; exact this)) _ hB1⟩
    · refine bp_iload (q := 28) 13 rfl rfl rfl ?_
      refine bp_iload_n (q := 29) 14 rfl rfl rfl rfl ?_
      refine bp_icmp_lt (q := 32) (tgt := 39) 15 rfl rfl (by decide) (fun z29 => ?_) (fun z29 => ?_)
      · refine bp_iconst (v := 1) (q := 40) 19 rfl rfl (by decide) ?_
        refine bp_goto (tgt := 44) 20 rfl (by decide) ?_
        refine bp_bipush (v := -5) (q := 46) 22 rfl rfl (by decide) ?_
        refine bp_iload_n (q := 47) 23 rfl rfl rfl rfl ?_
        refine bp_callV (q := 50) (ci := 9) 24 rfl rfl cw_Mo_failIf lk_Mo_118 rfl hB0.kb wd1449 wd44 rfl rfl (Nat.le_of_ble_eq_true rfl) ⟨Nat.le_of_ble_eq_true rfl, Nat.le_of_ble_eq_true rfl⟩ (s_Mo_failIf0 hB0 (by decide) hf (fun h1 hB1 => ?_))
        refine bp_aload_n (q := 51) 25 rfl rfl rfl rfl ?_
        refine bp_getI (q := 54) (ci := 9) (j := 13) 26 rfl rfl fl_Mo_69_9 hB1.kb rfl ?_
        rw [hB1.i13]
        refine bp_if_ne (q := 57) (tgt := 62) 27 rfl rfl (by decide) (fun z54 => ?_) (fun z => absurd z (by decide))
        refine bp_iload_n (q := 63) 30 rfl rfl rfl rfl ?_
        exact bp_iret 31 rfl rfl rfl ⟨_, rfl, hQ1 (Or.inr (Or.inl (by rw [eN]; exact z29))) _ hB1⟩
      · refine bp_iload (q := 34) 16 rfl rfl rfl ?_
        refine bp_iload (q := 36) 17 rfl rfl rfl ?_
        refine bp_icmp_le (q := 39) (tgt := 43) 18 rfl rfl (by decide) (fun z36 => ?_) (fun z36 => ?_)
        · refine bp_iconst (v := 0) (q := 44) 21 rfl rfl (by decide) ?_
          refine bp_bipush (v := -5) (q := 46) 22 rfl rfl (by decide) ?_
          refine bp_iload_n (q := 47) 23 rfl rfl rfl rfl ?_
          refine bp_callV (q := 50) (ci := 9) 24 rfl rfl cw_Mo_failIf lk_Mo_118 rfl hB0.kb wd1449 wd44 rfl rfl (Nat.le_of_ble_eq_true rfl) ⟨Nat.le_of_ble_eq_true rfl, Nat.le_of_ble_eq_true rfl⟩ (s_Mo_failIfN hB0 rfl ?_)
          refine bp_aload_n (q := 51) 25 rfl rfl rfl rfl ?_
          refine bp_getI (q := 54) (ci := 9) (j := 13) 26 rfl rfl fl_Mo_69_9 hB0.kb rfl ?_
          rw [hB0.i13]
          refine bp_if_ne (q := 57) (tgt := 62) 27 rfl rfl (by decide) (fun z => absurd z (by decide)) (fun z54 => ?_)
          refine bp_iload (q := 59) 28 rfl rfl rfl ?_
          refine bp_goto (tgt := 63) 29 rfl (by decide) ?_
          refine bp_iret 31 rfl rfl rfl ⟨_, rfl, ?_⟩
          have q := hQ2 (Nat.not_lt.mp (fun e => z23 ((nI_lt_iff (a := 5) (by decide) hdg).mpr e))) (by rw [eN]; exact Int32.not_lt.mp z29) (by rw [eN]; exact z36)
          rw [eN] at q
          exact q
        · refine bp_iconst (v := 1) (q := 40) 19 rfl rfl (by decide) ?_
          refine bp_goto (tgt := 44) 20 rfl (by decide) ?_
          refine bp_bipush (v := -5) (q := 46) 22 rfl rfl (by decide) ?_
          refine bp_iload_n (q := 47) 23 rfl rfl rfl rfl ?_
          refine bp_callV (q := 50) (ci := 9) 24 rfl rfl cw_Mo_failIf lk_Mo_118 rfl hB0.kb wd1449 wd44 rfl rfl (Nat.le_of_ble_eq_true rfl) ⟨Nat.le_of_ble_eq_true rfl, Nat.le_of_ble_eq_true rfl⟩ (s_Mo_failIf0 hB0 (by decide) hf (fun h1 hB1 => ?_))
          refine bp_aload_n (q := 51) 25 rfl rfl rfl rfl ?_
          refine bp_getI (q := 54) (ci := 9) (j := 13) 26 rfl rfl fl_Mo_69_9 hB1.kb rfl ?_
          rw [hB1.i13]
          refine bp_if_ne (q := 57) (tgt := 62) 27 rfl rfl (by decide) (fun z54 => ?_) (fun z => absurd z (by decide))
          refine bp_iload_n (q := 63) 30 rfl rfl rfl rfl ?_
          exact bp_iret 31 rfl rfl rfl ⟨_, rfl, hQ1 (Or.inr (Or.inr (by rw [eN]; exact Int32.not_le.mp z36))) _ hB1⟩
  · refine bp_iload_n (q := 8) 3 rfl rfl rfl rfl ?_
    refine bp_goto (tgt := 15) 4 rfl (by decide) ?_
    refine bp_istore (q := 17) 7 rfl rfl (by decide) (bp_up5 rfl) ?_
    have eN : bdN dg nu o = o := if_pos ((nI_eq_iff (b := 0) hdg (by decide)).mp z4)
    refine bp_aload_n (q := 18) 8 rfl rfl rfl rfl ?_
    refine bp_aload_n (q := 19) 9 rfl rfl rfl rfl ?_
    refine bp_getI (q := 22) (ci := 9) (j := 29) 10 rfl rfl fl_Mo_185_9 hB0.kb rfl ?_
    rw [hB0.i29]
    refine bp_iconst (v := 5) (q := 23) 11 rfl rfl (by decide) ?_
    refine bp_icmp_gt (q := 26) (tgt := 39) 12 rfl rfl (by decide) (fun z23 => ?_) (fun z23 => ?_)
    · refine bp_iconst (v := 1) (q := 40) 19 rfl rfl (by decide) ?_
      refine bp_goto (tgt := 44) 20 rfl (by decide) ?_
      refine bp_bipush (v := -5) (q := 46) 22 rfl rfl (by decide) ?_
      refine bp_iload_n (q := 47) 23 rfl rfl rfl rfl ?_
      refine bp_callV (q := 50) (ci := 9) 24 rfl rfl cw_Mo_failIf lk_Mo_118 rfl hB0.kb wd1449 wd44 rfl rfl (Nat.le_of_ble_eq_true rfl) ⟨Nat.le_of_ble_eq_true rfl, Nat.le_of_ble_eq_true rfl⟩ (s_Mo_failIf0 hB0 (by decide) hf (fun h1 hB1 => ?_))
      refine bp_aload_n (q := 51) 25 rfl rfl rfl rfl ?_
      refine bp_getI (q := 54) (ci := 9) (j := 13) 26 rfl rfl fl_Mo_69_9 hB1.kb rfl ?_
      rw [hB1.i13]
      refine bp_if_ne (q := 57) (tgt := 62) 27 rfl rfl (by decide) (fun z54 => ?_) (fun z => absurd z (by decide))
      refine bp_iload_n (q := 63) 30 rfl rfl rfl rfl ?_
      exact bp_iret 31 rfl rfl rfl ⟨_, rfl, hQ1 (Or.inl (by have := (nI_lt_iff (a := 5) (by decide) hdg).mp z23; exact this)) _ hB1⟩
    · refine bp_iload (q := 28) 13 rfl rfl rfl ?_
      refine bp_iload_n (q := 29) 14 rfl rfl rfl rfl ?_
      refine bp_icmp_lt (q := 32) (tgt := 39) 15 rfl rfl (by decide) (fun z29 => ?_) (fun z29 => ?_)
      · refine bp_iconst (v := 1) (q := 40) 19 rfl rfl (by decide) ?_
        refine bp_goto (tgt := 44) 20 rfl (by decide) ?_
        refine bp_bipush (v := -5) (q := 46) 22 rfl rfl (by decide) ?_
        refine bp_iload_n (q := 47) 23 rfl rfl rfl rfl ?_
        refine bp_callV (q := 50) (ci := 9) 24 rfl rfl cw_Mo_failIf lk_Mo_118 rfl hB0.kb wd1449 wd44 rfl rfl (Nat.le_of_ble_eq_true rfl) ⟨Nat.le_of_ble_eq_true rfl, Nat.le_of_ble_eq_true rfl⟩ (s_Mo_failIf0 hB0 (by decide) hf (fun h1 hB1 => ?_))
        refine bp_aload_n (q := 51) 25 rfl rfl rfl rfl ?_
        refine bp_getI (q := 54) (ci := 9) (j := 13) 26 rfl rfl fl_Mo_69_9 hB1.kb rfl ?_
        rw [hB1.i13]
        refine bp_if_ne (q := 57) (tgt := 62) 27 rfl rfl (by decide) (fun z54 => ?_) (fun z => absurd z (by decide))
        refine bp_iload_n (q := 63) 30 rfl rfl rfl rfl ?_
        exact bp_iret 31 rfl rfl rfl ⟨_, rfl, hQ1 (Or.inr (Or.inl (by rw [eN]; exact z29))) _ hB1⟩
      · refine bp_iload (q := 34) 16 rfl rfl rfl ?_
        refine bp_iload (q := 36) 17 rfl rfl rfl ?_
        refine bp_icmp_le (q := 39) (tgt := 43) 18 rfl rfl (by decide) (fun z36 => ?_) (fun z36 => ?_)
        · refine bp_iconst (v := 0) (q := 44) 21 rfl rfl (by decide) ?_
          refine bp_bipush (v := -5) (q := 46) 22 rfl rfl (by decide) ?_
          refine bp_iload_n (q := 47) 23 rfl rfl rfl rfl ?_
          refine bp_callV (q := 50) (ci := 9) 24 rfl rfl cw_Mo_failIf lk_Mo_118 rfl hB0.kb wd1449 wd44 rfl rfl (Nat.le_of_ble_eq_true rfl) ⟨Nat.le_of_ble_eq_true rfl, Nat.le_of_ble_eq_true rfl⟩ (s_Mo_failIfN hB0 rfl ?_)
          refine bp_aload_n (q := 51) 25 rfl rfl rfl rfl ?_
          refine bp_getI (q := 54) (ci := 9) (j := 13) 26 rfl rfl fl_Mo_69_9 hB0.kb rfl ?_
          rw [hB0.i13]
          refine bp_if_ne (q := 57) (tgt := 62) 27 rfl rfl (by decide) (fun z => absurd z (by decide)) (fun z54 => ?_)
          refine bp_iload (q := 59) 28 rfl rfl rfl ?_
          refine bp_goto (tgt := 63) 29 rfl (by decide) ?_
          refine bp_iret 31 rfl rfl rfl ⟨_, rfl, ?_⟩
          have q := hQ2 (Nat.not_lt.mp (fun e => z23 ((nI_lt_iff (a := 5) (by decide) hdg).mpr e))) (by rw [eN]; exact Int32.not_lt.mp z29) (by rw [eN]; exact z36)
          rw [eN] at q
          exact q
        · refine bp_iconst (v := 1) (q := 40) 19 rfl rfl (by decide) ?_
          refine bp_goto (tgt := 44) 20 rfl (by decide) ?_
          refine bp_bipush (v := -5) (q := 46) 22 rfl rfl (by decide) ?_
          refine bp_iload_n (q := 47) 23 rfl rfl rfl rfl ?_
          refine bp_callV (q := 50) (ci := 9) 24 rfl rfl cw_Mo_failIf lk_Mo_118 rfl hB0.kb wd1449 wd44 rfl rfl (Nat.le_of_ble_eq_true rfl) ⟨Nat.le_of_ble_eq_true rfl, Nat.le_of_ble_eq_true rfl⟩ (s_Mo_failIf0 hB0 (by decide) hf (fun h1 hB1 => ?_))
          refine bp_aload_n (q := 51) 25 rfl rfl rfl rfl ?_
          refine bp_getI (q := 54) (ci := 9) (j := 13) 26 rfl rfl fl_Mo_69_9 hB1.kb rfl ?_
          rw [hB1.i13]
          refine bp_if_ne (q := 57) (tgt := 62) 27 rfl rfl (by decide) (fun z54 => ?_) (fun z => absurd z (by decide))
          refine bp_iload_n (q := 63) 30 rfl rfl rfl rfl ?_
          exact bp_iret 31 rfl rfl rfl ⟨_, rfl, hQ1 (Or.inr (Or.inr (by rw [eN]; exact Int32.not_le.mp z36))) _ hB1⟩
set_option maxRecDepth 100000 in
set_option maxHeartbeats 4000000 in
theorem s_Mo_withStyle {ro : Bool} {n b : Nat} {o : Int32} (hn : n < 8192) (hb : b = 1 ∨ b = 2 ∨ b = 4) (hQ : Q (some (.int (nI (n - n % 8 + stS (n % 8) b (decide (o = 0)))))) h c s) : bp_AM l G H0 (0, 0, ro, ro) M_Mo_withStyle h c s [.int (nI n), .int (nI b), .int o] Q := by
  refine bp_of (ls := [some (.int (nI n)), some (.int (nI b)), some (.int o), none]) (by decide) dt_Mo_withStyle (Nat.le_of_ble_eq_true rfl) (fun q hq => hq) ro ?_
  refine bp_iload_n (q := 1) 0 rfl rfl rfl rfl ?_
  refine bp_bipush (v := 7) (q := 3) 1 rfl rfl (by decide) ?_
  refine bp_iand (q := 4) 2 rfl rfl ?_
  rw [cm_7 n hn]
  refine bp_istore_n (q := 5) 3 rfl rfl rfl (by decide) (bp_up3 rfl) ?_
  refine bp_iload_n (q := 6) 4 rfl rfl rfl rfl ?_
  refine bp_iload_n (q := 7) 5 rfl rfl rfl rfl ?_
  refine bp_isub (q := 8) 6 rfl rfl ?_
  rw [nI_sub (Nat.mod_le _ _)]
  refine bp_iload_n (q := 9) 7 rfl rfl rfl rfl ?_
  refine bp_if_eq (q := 12) (tgt := 18) 8 rfl rfl (by decide) (fun z9 => ?_) (fun z9 => ?_)
  · refine bp_iload_n (q := 19) 13 rfl rfl rfl rfl ?_
    refine bp_iload_n (q := 20) 14 rfl rfl rfl rfl ?_
    refine bp_iconst (v := -1) (q := 21) 15 rfl rfl (by decide) ?_
    refine bp_ixor (q := 22) 16 rfl rfl ?_
    refine bp_iand (q := 23) 17 rfl rfl ?_
    rw [(st_off (n % 8) (by omega) b (by omega) hb).1]
    refine bp_iadd (q := 24) 18 rfl rfl ?_
    rw [nI_add]
    refine bp_iret 19 rfl rfl rfl ⟨_, rfl, ?_⟩
    rw [decide_eq_true z9] at hQ
    exact hQ
  · refine bp_iload_n (q := 13) 9 rfl rfl rfl rfl ?_
    refine bp_iload_n (q := 14) 10 rfl rfl rfl rfl ?_
    refine bp_ior (q := 15) 11 rfl rfl ?_
    rw [(st_off (n % 8) (by omega) b (by omega) hb).2]
    refine bp_goto (tgt := 23) 12 rfl (by decide) ?_
    refine bp_iadd (q := 24) 18 rfl rfl ?_
    rw [nI_add]
    refine bp_iret 19 rfl rfl rfl ⟨_, rfl, ?_⟩
    rw [decide_eq_false z9] at hQ
    exact hQ
end MO14
