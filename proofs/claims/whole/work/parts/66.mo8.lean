/-! the reference's pages grow -/
theorem vp_inL {n N K : Nat} (e : K = N) (h : n < N) (hN : N < 2 ^ 31) : vp_in (nI n) K := by rw [e]; exact vp_in_nI h hN
section MO8
variable {l : Launch} {G : bp_G} {H0 : Heap} {M : Nat → Nat} {h0 h : bp_H} {tw : Int32} {i : Nat} {fa : Int32} {fm : Int32} {tl : Int32} {lk : Nat} {al : Nat} {ind : Nat} {sk : Nat} {dp : Nat} {lv : Nat} {fr : Bool} {en : Nat} {nf : Nat} {nn : Nat} {dg : Nat} {nu : Int32} {kd : Nat} {pn : Int32} {pe : Nat} {T : List Nat} {xs : List Nat} {L : List (Nat × Nat)} {ps : List (Nat × Nat × Nat)} {L1 : List (Nat × Nat)} {p1 : List (Nat × Nat × Nat)} {nt : List (Nat → Nat)} {tb : List Nat} {fd : List Nat} {c s : Nat} {Q : Option Value → bp_H → Nat → Nat → Prop} {h' : bp_H} {L' L1' : List (Nat × Nat)} {ps' p1' : List (Nat × Nat × Nat)}
theorem MoX.pages (hB : MoX M h0 h tw i fa fm tl lk al ind sk dp lv fr en nf nn dg nu kd pn pe T xs L ps L1 p1 nt tb fd) (f : bp_Fi (fun x => ∃ i, 5 ≤ i ∧ i ≤ 11 ∧ x = M i) h h') (g0 : moP M h' 0 L' ps') (g1 : moP M h' 1 L1' p1') : MoX M h0 h' tw i fa fm tl lk al ind sk dp lv fr en nf nn dg nu kd pn pe T xs L' ps' L1' p1' nt tb fd := by
  obtain ⟨b1, b2, b3, b4, b5, b6, b7, b8, b9, b10⟩ := hB
  have e : ∀ i, mC i = true → ¬ (5 ≤ i ∧ i ≤ 11) → ∀ j, bp_I h' (M i) j = bp_I h (M i) j := fun i hi hn j => f.2.2.2 _ (fun ⟨q, q1, q2, q3⟩ => hn (by have := b2.2.2 i q hi (mC_p q q1 q2) q3; omega)) j
  exact ⟨b1.tr (f.wk (fun x ⟨i, h1, h2, hx⟩ => ⟨i, mC_p i h1 h2, hx⟩)), b2.fi f, b3.sm (e 0 rfl (by decide)), b4.sm (e 2 rfl (by decide)), b5.sm (e 4 rfl (by decide)), g0, g1, b8.sm (e 21 rfl (by decide)), b9.sm (e 25 rfl (by decide)), b10.sm (e 26 rfl (by decide))⟩
/-- heaps of the two changes -/
def mhL (M : Nat → Nat) (h : bp_H) (g K n : Nat) (u y p : Int32) : bp_H := bp_sI (bp_sI (bp_sI (bp_sI h (M 7) K u) (M 8) K y) (M 9) K p) (M 5) g (nI (n + 1))
def mhP (M : Nat → Nat) (h : bp_H) (g K n : Nat) (a i : Int32) : bp_H := bp_sI (bp_sI (bp_sI h (M 10) K a) (M 11) K i) (M 6) g (nI (n + 1))
theorem mhL_f {g K n : Nat} {u y p : Int32} : bp_Fi (fun x => ∃ i, 5 ≤ i ∧ i ≤ 11 ∧ x = M i) h (mhL M h g K n u y p) := (((bp_Fi.sI (F := fun x => ∃ i, 5 ≤ i ∧ i ≤ 11 ∧ x = M i) ⟨7, by decide, by decide, rfl⟩).tr (bp_Fi.sI ⟨8, by decide, by decide, rfl⟩)).tr (bp_Fi.sI ⟨9, by decide, by decide, rfl⟩)).tr (bp_Fi.sI ⟨5, by decide, by decide, rfl⟩)
theorem mhP_f {g K n : Nat} {a i : Int32} : bp_Fi (fun x => ∃ i, 5 ≤ i ∧ i ≤ 11 ∧ x = M i) h (mhP M h g K n a i) := ((bp_Fi.sI (F := fun x => ∃ i, 5 ≤ i ∧ i ≤ 11 ∧ x = M i) ⟨10, by decide, by decide, rfl⟩).tr (bp_Fi.sI ⟨11, by decide, by decide, rfl⟩)).tr (bp_Fi.sI ⟨6, by decide, by decide, rfl⟩)
theorem mhL_I (H : MoL M h) {g K n k : Nat} {u y p : Int32} : bp_I (mhL M h g K n u y p) (M 5) k = (if k = g then nI (n + 1) else bp_I h (M 5) k) ∧ bp_I (mhL M h g K n u y p) (M 6) k = bp_I h (M 6) k ∧ bp_I (mhL M h g K n u y p) (M 7) k = (if k = K then u else bp_I h (M 7) k) ∧ bp_I (mhL M h g K n u y p) (M 8) k = (if k = K then y else bp_I h (M 8) k) ∧ bp_I (mhL M h g K n u y p) (M 9) k = (if k = K then p else bp_I h (M 9) k) ∧ bp_I (mhL M h g K n u y p) (M 10) k = bp_I h (M 10) k ∧ bp_I (mhL M h g K n u y p) (M 11) k = bp_I h (M 11) k := by
  have n1 := H.ne 5 7; have n2 := H.ne 5 8; have n3 := H.ne 5 9; have n4 := H.ne 6 5; have n5 := H.ne 6 7; have n6 := H.ne 6 8; have n7 := H.ne 6 9; have n8 := H.ne 7 5; have n9 := H.ne 7 8; have n10 := H.ne 7 9; have n11 := H.ne 8 5; have n12 := H.ne 8 7; have n13 := H.ne 8 9; have n14 := H.ne 9 5; have n15 := H.ne 9 7; have n16 := H.ne 9 8; have n17 := H.ne 10 5; have n18 := H.ne 10 7; have n19 := H.ne 10 8; have n20 := H.ne 10 9; have n21 := H.ne 11 5; have n22 := H.ne 11 7; have n23 := H.ne 11 8; have n24 := H.ne 11 9
  unfold mhL
  simp [bp_I_sI, n1, n2, n3, n4, n5, n6, n7, n8, n9, n10, n11, n12, n13, n14, n15, n16, n17, n18, n19, n20, n21, n22, n23, n24]
theorem mhP_I (H : MoL M h) {g K n k : Nat} {a i : Int32} : bp_I (mhP M h g K n a i) (M 5) k = bp_I h (M 5) k ∧ bp_I (mhP M h g K n a i) (M 6) k = (if k = g then nI (n + 1) else bp_I h (M 6) k) ∧ bp_I (mhP M h g K n a i) (M 7) k = bp_I h (M 7) k ∧ bp_I (mhP M h g K n a i) (M 8) k = bp_I h (M 8) k ∧ bp_I (mhP M h g K n a i) (M 9) k = bp_I h (M 9) k ∧ bp_I (mhP M h g K n a i) (M 10) k = (if k = K then a else bp_I h (M 10) k) ∧ bp_I (mhP M h g K n a i) (M 11) k = (if k = K then i else bp_I h (M 11) k) := by
  have n1 := H.ne 5 10; have n2 := H.ne 5 11; have n3 := H.ne 5 6; have n4 := H.ne 6 10; have n5 := H.ne 6 11; have n6 := H.ne 7 10; have n7 := H.ne 7 11; have n8 := H.ne 7 6; have n9 := H.ne 8 10; have n10 := H.ne 8 11; have n11 := H.ne 8 6; have n12 := H.ne 9 10; have n13 := H.ne 9 11; have n14 := H.ne 9 6; have n15 := H.ne 10 11; have n16 := H.ne 10 6; have n17 := H.ne 11 10; have n18 := H.ne 11 6
  unfold mhP
  simp [bp_I_sI, n1, n2, n3, n4, n5, n6, n7, n8, n9, n10, n11, n12, n13, n14, n15, n16, n17, n18]
/-- a letter more on page g; its paragraphs may have other ends -/
theorem moP.letter {g g' u y : Nat} (H : MoL M h) (A : moP M h g L ps) (A' : moP M h g' L1 p1) (hg : g < 2) (hg' : g' < 2) (hne : g' ≠ g) (hl : L.length < 400) (hn : ps'.length = ps.length) (hs : ∀ j, j < ps.length → p_a ps' j = p_a ps j ∧ p_i ps' j = p_i ps j) (hx : ∀ k, k < L.length → pIx ps' k = pIx ps k) : moP M (mhL M h g (400 * g + L.length) L.length (nI u) (nI (cmL y)) (nI (pIx ps' L.length))) g (L ++ [(u, y)]) ps' ∧ moP M (mhL M h g (400 * g + L.length) L.length (nI u) (nI (cmL y)) (nI (pIx ps' L.length))) g' L1 p1 := by
  constructor
  · refine ⟨by rw [List.length_append]; exact hl, by rw [hn]; exact A.2.1, by rw [(mhL_I H).1, if_pos rfl, List.length_append]; rfl, by rw [(mhL_I H).2.1, hn]; exact A.2.2.2.1, fun k hk => ?_, fun q hq => ?_⟩
    · rw [List.length_append] at hk
      rw [cdL_sn, lkL_sn]
      by_cases e : k < L.length
      · rw [n_sn (by rw [cdL_len]; exact e), n_sn (by rw [lkL_len]; exact e), hx k e, (mhL_I H).2.2.1, if_neg (by omega), (mhL_I H).2.2.2.1, if_neg (by omega), (mhL_I H).2.2.2.2.1, if_neg (by omega)]
        exact A.2.2.2.2.1 k e
      · have e2 : k = L.length := by simp at hk; omega
        have a := n_sn' (xs := cdL L) (q := u)
        have b := n_sn' (xs := lkL L) (q := y)
        rw [cdL_len] at a
        rw [lkL_len] at b
        rw [e2, a, b, (mhL_I H).2.2.1, if_pos rfl, (mhL_I H).2.2.2.1, if_pos rfl, (mhL_I H).2.2.2.2.1, if_pos rfl]
        exact ⟨rfl, rfl, rfl⟩
    · rw [(mhL_I H).2.2.2.2.2.1, (mhL_I H).2.2.2.2.2.2, (hs q (by omega)).1, (hs q (by omega)).2]
      exact A.2.2.2.2.2 q (by omega)
  · refine ⟨A'.1, A'.2.1, by rw [(mhL_I H).1, if_neg hne]; exact A'.2.2.1, by rw [(mhL_I H).2.1]; exact A'.2.2.2.1, fun k hk => ?_, fun q hq => by rw [(mhL_I H).2.2.2.2.2.1, (mhL_I H).2.2.2.2.2.2]; exact A'.2.2.2.2.2 q hq⟩
    have := A'.1
    rw [(mhL_I H).2.2.1, if_neg (by omega), (mhL_I H).2.2.2.1, if_neg (by omega), (mhL_I H).2.2.2.2.1, if_neg (by omega)]
    exact A'.2.2.2.2.1 k hk
/-- a paragraph more on page g, whose end is behind all letters -/
theorem moP.par {g g' x y e : Nat} (H : MoL M h) (A : moP M h g L ps) (A' : moP M h g' L1 p1) (hg : g < 2) (hg' : g' < 2) (hne : g' ≠ g) (hl : ps.length < 16) (he : L.length ≤ e) : moP M (mhP M h g (16 * g + ps.length) ps.length (nI x) (nI y)) g L (ps ++ [(x, y, e)]) ∧ moP M (mhP M h g (16 * g + ps.length) ps.length (nI x) (nI y)) g' L1 p1 := by
  constructor
  · refine ⟨A.1, by rw [List.length_append]; exact hl, by rw [(mhP_I H).1]; exact A.2.2.1, by rw [(mhP_I H).2.1, if_pos rfl, List.length_append]; rfl, fun k hk => ?_, fun q hq => ?_⟩
    · rw [(mhP_I H).2.2.1, (mhP_I H).2.2.2.1, (mhP_I H).2.2.2.2.1, show pIx (ps ++ [(x, y, e)]) k = pIx ps k from by unfold pIx; rw [List.filter_append, List.length_append, List.filter_cons_of_neg (by simp; omega)]; rfl]
      exact A.2.2.2.2.1 k hk
    · rw [List.length_append] at hq
      unfold p_a p_i
      by_cases z : q < ps.length
      · rw [p_sn z, (mhP_I H).2.2.2.2.2.1, if_neg (by omega), (mhP_I H).2.2.2.2.2.2, if_neg (by omega)]
        exact A.2.2.2.2.2 q z
      · have z2 : q = ps.length := by simp at hq; omega
        rw [z2, p_sn', (mhP_I H).2.2.2.2.2.1, if_pos rfl, (mhP_I H).2.2.2.2.2.2, if_pos rfl]
        exact ⟨rfl, rfl⟩
  · have := A'.2.1
    refine ⟨A'.1, A'.2.1, by rw [(mhP_I H).1]; exact A'.2.2.1, by rw [(mhP_I H).2.1, if_neg hne]; exact A'.2.2.2.1, fun k hk => by rw [(mhP_I H).2.2.1, (mhP_I H).2.2.2.1, (mhP_I H).2.2.2.2.1]; exact A'.2.2.2.2.1 k hk, fun q hq => ?_⟩
    rw [(mhP_I H).2.2.2.2.2.1, if_neg (by omega), (mhP_I H).2.2.2.2.2.2, if_neg (by omega)]
    exact A'.2.2.2.2.2 q hq
set_option maxRecDepth 100000 in
set_option maxHeartbeats 4000000 in
theorem s_Mo_addLetter0 {u y q : Nat} (hB0 : MoX M h0 h tw i fa fm tl lk al ind sk dp lv fr en nf nn dg nu kd pn pe T xs L ps L1 p1 nt tb fd) (hl : L.length < 400) (hn : ps'.length = ps.length) (hs : ∀ j, j < ps.length → p_a ps' j = p_a ps j ∧ p_i ps' j = p_i ps j) (hx : ∀ k, k < L.length → pIx ps' k = pIx ps k) (hq : q = pIx ps' L.length) (hQ : ∀ h', MoX M h0 h' tw i fa fm tl lk al ind sk dp lv fr en nf nn dg nu kd pn pe T xs ((L ++ [(u, y)])) ps' L1 p1 nt tb fd → Q none h' c s) : bp_AM l G H0 (0, 0, false, false) M_Mo_addLetter h c s [.ref (M 0), .int (nI 0), .int (nI u), .int (nI (cmL y)), .int (nI q)] Q := by
  refine bp_of (ls := [some (.ref (M 0)), some (.int (nI 0)), some (.int (nI u)), some (.int (nI (cmL y))), some (.int (nI q)), none]) (by decide) dt_Mo_addLetter (Nat.le_of_ble_eq_true rfl) (fun q hq => hq) false ?_
  refine bp_sipush (v := 400) (q := 3) 0 rfl rfl (by decide) ?_
  refine bp_iload_n (q := 4) 1 rfl rfl rfl rfl ?_
  refine bp_imul (q := 5) 2 rfl rfl ?_
  refine bp_aload_n (q := 6) 3 rfl rfl rfl rfl ?_
  refine bp_getR (x := M 5) (q := 9) (ci := 9) (j := 5) 4 rfl rfl fl_Mo_17_9 hB0.kb rfl hB0.r5 ?_
  refine bp_iload_n (q := 10) 5 rfl rfl rfl rfl ?_
  refine bp_iald (q := 11) 6 rfl rfl hB0.k5 (vp_inL (n := 0) hB0.l5 (by decide) (by decide)) ?_
  rw [show (nI 0).toNatClampNeg = 0 from rfl, hB0.2.2.2.2.2.1.2.2.1]
  refine bp_iadd (q := 12) 7 rfl rfl ?_
  rw [show (400 : Int32) * nI 0 + nI L.length = nI (400 * 0 + L.length) from by rw [show (400 : Int32) = nI 400 from rfl, nI_mul, nI_add]]
  refine bp_istore (q := 14) 8 rfl rfl (by decide) (bp_up5 rfl) ?_
  refine bp_aload_n (q := 15) 9 rfl rfl rfl rfl ?_
  refine bp_getR (x := M 7) (q := 18) (ci := 9) (j := 7) 10 rfl rfl fl_Mo_24_9 hB0.kb rfl hB0.r7 ?_
  refine bp_iload (q := 20) 11 rfl rfl rfl ?_
  refine bp_iload_n (q := 21) 12 rfl rfl rfl rfl ?_
  refine bp_iast (q := 22) 13 rfl rfl hB0.k7 (vp_inL hB0.l7 (by omega) (by decide))  ?_
  rw [nI_clamp (by omega)]
  refine bp_aload_n (q := 23) 14 rfl rfl rfl rfl ?_
  refine bp_getR (x := M 8) (q := 26) (ci := 9) (j := 8) 15 rfl rfl fl_Mo_27_9 hB0.kb rfl hB0.r8 ?_
  refine bp_iload (q := 28) 16 rfl rfl rfl ?_
  refine bp_iload_n (q := 29) 17 rfl rfl rfl rfl ?_
  refine bp_iast (q := 30) 18 rfl rfl hB0.k8 (vp_inL hB0.l8 (by omega) (by decide))  ?_
  rw [nI_clamp (by omega)]
  refine bp_aload_n (q := 31) 19 rfl rfl rfl rfl ?_
  refine bp_getR (x := M 9) (q := 34) (ci := 9) (j := 9) 20 rfl rfl fl_Mo_30_9 hB0.kb rfl hB0.r9 ?_
  refine bp_iload (q := 36) 21 rfl rfl rfl ?_
  refine bp_iload (q := 38) 22 rfl rfl rfl ?_
  refine bp_iast (q := 39) 23 rfl rfl hB0.k9 (vp_inL hB0.l9 (by omega) (by decide))  ?_
  rw [nI_clamp (by omega)]
  refine bp_aload_n (q := 40) 24 rfl rfl rfl rfl ?_
  refine bp_getR (x := M 5) (q := 43) (ci := 9) (j := 5) 25 rfl rfl fl_Mo_17_9 hB0.kb rfl hB0.r5 ?_
  refine bp_iload_n (q := 44) 26 rfl rfl rfl rfl ?_
  refine bp_dup2 (q := 45) 27 rfl rfl rfl rfl ?_
  refine bp_iald (q := 46) 28 rfl rfl hB0.k5 (vp_inL (n := 0) hB0.l5 (by decide) (by decide)) ?_
  rw [show (nI 0).toNatClampNeg = 0 from rfl, show bp_I (bp_sI (bp_sI (bp_sI h (M 7) (400 * 0 + L.length) (nI u)) (M 8) (400 * 0 + L.length) (nI (cmL y))) (M 9) (400 * 0 + L.length) (nI q)) (M 5) 0 = nI L.length from by rw [bp_I_sI, if_neg (fun z => absurd z.1 (hB0.2.1.ne 5 9)), bp_I_sI, if_neg (fun z => absurd z.1 (hB0.2.1.ne 5 8)), bp_I_sI, if_neg (fun z => absurd z.1 (hB0.2.1.ne 5 7))]; exact hB0.2.2.2.2.2.1.2.2.1]
  refine bp_iconst (v := 1) (q := 47) 29 rfl rfl (by decide) ?_
  refine bp_iadd (q := 48) 30 rfl rfl ?_
  rw [nI_1]
  refine bp_iast (q := 49) 31 rfl rfl hB0.k5 (vp_inL (n := 0) hB0.l5 (by decide) (by decide))  ?_
  rw [show (nI 0).toNatClampNeg = 0 from rfl]
  refine bp_vret 32 rfl rfl  ⟨_, rfl, ?_⟩
  have hp := moP.letter (u := u) (y := y) (ps' := ps') hB0.2.1 hB0.2.2.2.2.2.1 hB0.2.2.2.2.2.2.1 (by decide) (by decide) (by decide) hl hn hs hx
  rw [← hq] at hp
  exact hQ _ (hB0.pages mhL_f hp.1 hp.2)
set_option maxRecDepth 100000 in
set_option maxHeartbeats 4000000 in
theorem s_Mo_endParagraph0 {x y e : Nat} (hB0 : MoX M h0 h tw i fa fm tl lk al ind sk dp lv fr en nf nn dg nu kd pn pe T xs L ps L1 p1 nt tb fd) (hl : ps.length < 16) (he : L.length ≤ e) (hQ : ∀ h', MoX M h0 h' tw i fa fm tl lk al ind sk dp lv fr en nf nn dg nu kd pn pe T xs L ((ps ++ [(x, y, e)])) L1 p1 nt tb fd → Q none h' c s) : bp_AM l G H0 (0, 0, false, false) M_Mo_endParagraph h c s [.ref (M 0), .int (nI 0), .int (nI x), .int (nI y)] Q := by
  refine bp_of (ls := [some (.ref (M 0)), some (.int (nI 0)), some (.int (nI x)), some (.int (nI y))]) (by decide) dt_Mo_endParagraph (Nat.le_of_ble_eq_true rfl) (fun q hq => hq) false ?_
  refine bp_aload_n (q := 1) 0 rfl rfl rfl rfl ?_
  refine bp_getR (x := M 10) (q := 4) (ci := 9) (j := 10) 1 rfl rfl fl_Mo_33_9 hB0.kb rfl hB0.r10 ?_
  refine bp_bipush (v := 16) (q := 6) 2 rfl rfl (by decide) ?_
  refine bp_iload_n (q := 7) 3 rfl rfl rfl rfl ?_
  refine bp_imul (q := 8) 4 rfl rfl ?_
  refine bp_aload_n (q := 9) 5 rfl rfl rfl rfl ?_
  refine bp_getR (x := M 6) (q := 12) (ci := 9) (j := 6) 6 rfl rfl fl_Mo_21_9 hB0.kb rfl hB0.r6 ?_
  refine bp_iload_n (q := 13) 7 rfl rfl rfl rfl ?_
  refine bp_iald (q := 14) 8 rfl rfl hB0.k6 (vp_inL (n := 0) hB0.l6 (by decide) (by decide)) ?_
  rw [show (nI 0).toNatClampNeg = 0 from rfl, hB0.2.2.2.2.2.1.2.2.2.1]
  refine bp_iadd (q := 15) 9 rfl rfl ?_
  rw [show (16 : Int32) * nI 0 + nI ps.length = nI (16 * 0 + ps.length) from by rw [show (16 : Int32) = nI 16 from rfl, nI_mul, nI_add]]
  refine bp_iload_n (q := 16) 10 rfl rfl rfl rfl ?_
  refine bp_iast (q := 17) 11 rfl rfl hB0.k10 (vp_inL hB0.l10 (by omega) (by decide))  ?_
  rw [nI_clamp (by omega)]
  refine bp_aload_n (q := 18) 12 rfl rfl rfl rfl ?_
  refine bp_getR (x := M 11) (q := 21) (ci := 9) (j := 11) 13 rfl rfl fl_Mo_36_9 hB0.kb rfl hB0.r11 ?_
  refine bp_bipush (v := 16) (q := 23) 14 rfl rfl (by decide) ?_
  refine bp_iload_n (q := 24) 15 rfl rfl rfl rfl ?_
  refine bp_imul (q := 25) 16 rfl rfl ?_
  refine bp_aload_n (q := 26) 17 rfl rfl rfl rfl ?_
  refine bp_getR (x := M 6) (q := 29) (ci := 9) (j := 6) 18 rfl rfl fl_Mo_21_9 hB0.kb rfl hB0.r6 ?_
  refine bp_iload_n (q := 30) 19 rfl rfl rfl rfl ?_
  refine bp_iald (q := 31) 20 rfl rfl hB0.k6 (vp_inL (n := 0) hB0.l6 (by decide) (by decide)) ?_
  rw [show (nI 0).toNatClampNeg = 0 from rfl, show bp_I (bp_sI h (M 10) (16 * 0 + ps.length) (nI x)) (M 6) 0 = nI ps.length from by rw [bp_I_sI, if_neg (fun z => absurd z.1 (hB0.2.1.ne 6 10))]; exact hB0.2.2.2.2.2.1.2.2.2.1]
  refine bp_iadd (q := 32) 21 rfl rfl ?_
  rw [show (16 : Int32) * nI 0 + nI ps.length = nI (16 * 0 + ps.length) from by rw [show (16 : Int32) = nI 16 from rfl, nI_mul, nI_add]]
  refine bp_iload_n (q := 33) 22 rfl rfl rfl rfl ?_
  refine bp_iast (q := 34) 23 rfl rfl hB0.k11 (vp_inL hB0.l11 (by omega) (by decide))  ?_
  rw [nI_clamp (by omega)]
  refine bp_aload_n (q := 35) 24 rfl rfl rfl rfl ?_
  refine bp_getR (x := M 6) (q := 38) (ci := 9) (j := 6) 25 rfl rfl fl_Mo_21_9 hB0.kb rfl hB0.r6 ?_
  refine bp_iload_n (q := 39) 26 rfl rfl rfl rfl ?_
  refine bp_dup2 (q := 40) 27 rfl rfl rfl rfl ?_
  refine bp_iald (q := 41) 28 rfl rfl hB0.k6 (vp_inL (n := 0) hB0.l6 (by decide) (by decide)) ?_
  rw [show (nI 0).toNatClampNeg = 0 from rfl, show bp_I (bp_sI (bp_sI h (M 10) (16 * 0 + ps.length) (nI x)) (M 11) (16 * 0 + ps.length) (nI y)) (M 6) 0 = nI ps.length from by rw [bp_I_sI, if_neg (fun z => absurd z.1 (hB0.2.1.ne 6 11)), bp_I_sI, if_neg (fun z => absurd z.1 (hB0.2.1.ne 6 10))]; exact hB0.2.2.2.2.2.1.2.2.2.1]
  refine bp_iconst (v := 1) (q := 42) 29 rfl rfl (by decide) ?_
  refine bp_iadd (q := 43) 30 rfl rfl ?_
  rw [nI_1]
  refine bp_iast (q := 44) 31 rfl rfl hB0.k6 (vp_inL (n := 0) hB0.l6 (by decide) (by decide))  ?_
  rw [show (nI 0).toNatClampNeg = 0 from rfl]
  refine bp_vret 32 rfl rfl  ⟨_, rfl, ?_⟩
  have hp := moP.par (x := x) (y := y) (e := e) hB0.2.1 hB0.2.2.2.2.2.1 hB0.2.2.2.2.2.2.1 (by decide) (by decide) (by decide) hl he
  exact hQ _ (hB0.pages mhP_f hp.1 hp.2)
set_option maxRecDepth 100000 in
set_option maxHeartbeats 4000000 in
theorem s_Mo_addLetter1 {u y q : Nat} (hB0 : MoX M h0 h tw i fa fm tl lk al ind sk dp lv fr en nf nn dg nu kd pn pe T xs L ps L1 p1 nt tb fd) (hl : L1.length < 400) (hn : ps'.length = p1.length) (hs : ∀ j, j < p1.length → p_a ps' j = p_a p1 j ∧ p_i ps' j = p_i p1 j) (hx : ∀ k, k < L1.length → pIx ps' k = pIx p1 k) (hq : q = pIx ps' L1.length) (hQ : ∀ h', MoX M h0 h' tw i fa fm tl lk al ind sk dp lv fr en nf nn dg nu kd pn pe T xs L ps ((L1 ++ [(u, y)])) ps' nt tb fd → Q none h' c s) : bp_AM l G H0 (0, 0, false, false) M_Mo_addLetter h c s [.ref (M 0), .int (nI 1), .int (nI u), .int (nI (cmL y)), .int (nI q)] Q := by
  refine bp_of (ls := [some (.ref (M 0)), some (.int (nI 1)), some (.int (nI u)), some (.int (nI (cmL y))), some (.int (nI q)), none]) (by decide) dt_Mo_addLetter (Nat.le_of_ble_eq_true rfl) (fun q hq => hq) false ?_
  refine bp_sipush (v := 400) (q := 3) 0 rfl rfl (by decide) ?_
  refine bp_iload_n (q := 4) 1 rfl rfl rfl rfl ?_
  refine bp_imul (q := 5) 2 rfl rfl ?_
  refine bp_aload_n (q := 6) 3 rfl rfl rfl rfl ?_
  refine bp_getR (x := M 5) (q := 9) (ci := 9) (j := 5) 4 rfl rfl fl_Mo_17_9 hB0.kb rfl hB0.r5 ?_
  refine bp_iload_n (q := 10) 5 rfl rfl rfl rfl ?_
  refine bp_iald (q := 11) 6 rfl rfl hB0.k5 (vp_inL (n := 1) hB0.l5 (by decide) (by decide)) ?_
  rw [show (nI 1).toNatClampNeg = 1 from rfl, hB0.2.2.2.2.2.2.1.2.2.1]
  refine bp_iadd (q := 12) 7 rfl rfl ?_
  rw [show (400 : Int32) * nI 1 + nI L1.length = nI (400 * 1 + L1.length) from by rw [show (400 : Int32) = nI 400 from rfl, nI_mul, nI_add]]
  refine bp_istore (q := 14) 8 rfl rfl (by decide) (bp_up5 rfl) ?_
  refine bp_aload_n (q := 15) 9 rfl rfl rfl rfl ?_
  refine bp_getR (x := M 7) (q := 18) (ci := 9) (j := 7) 10 rfl rfl fl_Mo_24_9 hB0.kb rfl hB0.r7 ?_
  refine bp_iload (q := 20) 11 rfl rfl rfl ?_
  refine bp_iload_n (q := 21) 12 rfl rfl rfl rfl ?_
  refine bp_iast (q := 22) 13 rfl rfl hB0.k7 (vp_inL hB0.l7 (by omega) (by decide))  ?_
  rw [nI_clamp (by omega)]
  refine bp_aload_n (q := 23) 14 rfl rfl rfl rfl ?_
  refine bp_getR (x := M 8) (q := 26) (ci := 9) (j := 8) 15 rfl rfl fl_Mo_27_9 hB0.kb rfl hB0.r8 ?_
  refine bp_iload (q := 28) 16 rfl rfl rfl ?_
  refine bp_iload_n (q := 29) 17 rfl rfl rfl rfl ?_
  refine bp_iast (q := 30) 18 rfl rfl hB0.k8 (vp_inL hB0.l8 (by omega) (by decide))  ?_
  rw [nI_clamp (by omega)]
  refine bp_aload_n (q := 31) 19 rfl rfl rfl rfl ?_
  refine bp_getR (x := M 9) (q := 34) (ci := 9) (j := 9) 20 rfl rfl fl_Mo_30_9 hB0.kb rfl hB0.r9 ?_
  refine bp_iload (q := 36) 21 rfl rfl rfl ?_
  refine bp_iload (q := 38) 22 rfl rfl rfl ?_
  refine bp_iast (q := 39) 23 rfl rfl hB0.k9 (vp_inL hB0.l9 (by omega) (by decide))  ?_
  rw [nI_clamp (by omega)]
  refine bp_aload_n (q := 40) 24 rfl rfl rfl rfl ?_
  refine bp_getR (x := M 5) (q := 43) (ci := 9) (j := 5) 25 rfl rfl fl_Mo_17_9 hB0.kb rfl hB0.r5 ?_
  refine bp_iload_n (q := 44) 26 rfl rfl rfl rfl ?_
  refine bp_dup2 (q := 45) 27 rfl rfl rfl rfl ?_
  refine bp_iald (q := 46) 28 rfl rfl hB0.k5 (vp_inL (n := 1) hB0.l5 (by decide) (by decide)) ?_
  rw [show (nI 1).toNatClampNeg = 1 from rfl, show bp_I (bp_sI (bp_sI (bp_sI h (M 7) (400 * 1 + L1.length) (nI u)) (M 8) (400 * 1 + L1.length) (nI (cmL y))) (M 9) (400 * 1 + L1.length) (nI q)) (M 5) 1 = nI L1.length from by rw [bp_I_sI, if_neg (fun z => absurd z.1 (hB0.2.1.ne 5 9)), bp_I_sI, if_neg (fun z => absurd z.1 (hB0.2.1.ne 5 8)), bp_I_sI, if_neg (fun z => absurd z.1 (hB0.2.1.ne 5 7))]; exact hB0.2.2.2.2.2.2.1.2.2.1]
  refine bp_iconst (v := 1) (q := 47) 29 rfl rfl (by decide) ?_
  refine bp_iadd (q := 48) 30 rfl rfl ?_
  rw [nI_1]
  refine bp_iast (q := 49) 31 rfl rfl hB0.k5 (vp_inL (n := 1) hB0.l5 (by decide) (by decide))  ?_
  rw [show (nI 1).toNatClampNeg = 1 from rfl]
  refine bp_vret 32 rfl rfl  ⟨_, rfl, ?_⟩
  have hp := moP.letter (u := u) (y := y) (ps' := ps') hB0.2.1 hB0.2.2.2.2.2.2.1 hB0.2.2.2.2.2.1 (by decide) (by decide) (by decide) hl hn hs hx
  rw [← hq] at hp
  exact hQ _ (hB0.pages mhL_f hp.2 hp.1)
set_option maxRecDepth 100000 in
set_option maxHeartbeats 4000000 in
theorem s_Mo_endParagraph1 {x y e : Nat} (hB0 : MoX M h0 h tw i fa fm tl lk al ind sk dp lv fr en nf nn dg nu kd pn pe T xs L ps L1 p1 nt tb fd) (hl : p1.length < 16) (he : L1.length ≤ e) (hQ : ∀ h', MoX M h0 h' tw i fa fm tl lk al ind sk dp lv fr en nf nn dg nu kd pn pe T xs L ps L1 ((p1 ++ [(x, y, e)])) nt tb fd → Q none h' c s) : bp_AM l G H0 (0, 0, false, false) M_Mo_endParagraph h c s [.ref (M 0), .int (nI 1), .int (nI x), .int (nI y)] Q := by
  refine bp_of (ls := [some (.ref (M 0)), some (.int (nI 1)), some (.int (nI x)), some (.int (nI y))]) (by decide) dt_Mo_endParagraph (Nat.le_of_ble_eq_true rfl) (fun q hq => hq) false ?_
  refine bp_aload_n (q := 1) 0 rfl rfl rfl rfl ?_
  refine bp_getR (x := M 10) (q := 4) (ci := 9) (j := 10) 1 rfl rfl fl_Mo_33_9 hB0.kb rfl hB0.r10 ?_
  refine bp_bipush (v := 16) (q := 6) 2 rfl rfl (by decide) ?_
  refine bp_iload_n (q := 7) 3 rfl rfl rfl rfl ?_
  refine bp_imul (q := 8) 4 rfl rfl ?_
  refine bp_aload_n (q := 9) 5 rfl rfl rfl rfl ?_
  refine bp_getR (x := M 6) (q := 12) (ci := 9) (j := 6) 6 rfl rfl fl_Mo_21_9 hB0.kb rfl hB0.r6 ?_
  refine bp_iload_n (q := 13) 7 rfl rfl rfl rfl ?_
  refine bp_iald (q := 14) 8 rfl rfl hB0.k6 (vp_inL (n := 1) hB0.l6 (by decide) (by decide)) ?_
  rw [show (nI 1).toNatClampNeg = 1 from rfl, hB0.2.2.2.2.2.2.1.2.2.2.1]
  refine bp_iadd (q := 15) 9 rfl rfl ?_
  rw [show (16 : Int32) * nI 1 + nI p1.length = nI (16 * 1 + p1.length) from by rw [show (16 : Int32) = nI 16 from rfl, nI_mul, nI_add]]
  refine bp_iload_n (q := 16) 10 rfl rfl rfl rfl ?_
  refine bp_iast (q := 17) 11 rfl rfl hB0.k10 (vp_inL hB0.l10 (by omega) (by decide))  ?_
  rw [nI_clamp (by omega)]
  refine bp_aload_n (q := 18) 12 rfl rfl rfl rfl ?_
  refine bp_getR (x := M 11) (q := 21) (ci := 9) (j := 11) 13 rfl rfl fl_Mo_36_9 hB0.kb rfl hB0.r11 ?_
  refine bp_bipush (v := 16) (q := 23) 14 rfl rfl (by decide) ?_
  refine bp_iload_n (q := 24) 15 rfl rfl rfl rfl ?_
  refine bp_imul (q := 25) 16 rfl rfl ?_
  refine bp_aload_n (q := 26) 17 rfl rfl rfl rfl ?_
  refine bp_getR (x := M 6) (q := 29) (ci := 9) (j := 6) 18 rfl rfl fl_Mo_21_9 hB0.kb rfl hB0.r6 ?_
  refine bp_iload_n (q := 30) 19 rfl rfl rfl rfl ?_
  refine bp_iald (q := 31) 20 rfl rfl hB0.k6 (vp_inL (n := 1) hB0.l6 (by decide) (by decide)) ?_
  rw [show (nI 1).toNatClampNeg = 1 from rfl, show bp_I (bp_sI h (M 10) (16 * 1 + p1.length) (nI x)) (M 6) 1 = nI p1.length from by rw [bp_I_sI, if_neg (fun z => absurd z.1 (hB0.2.1.ne 6 10))]; exact hB0.2.2.2.2.2.2.1.2.2.2.1]
  refine bp_iadd (q := 32) 21 rfl rfl ?_
  rw [show (16 : Int32) * nI 1 + nI p1.length = nI (16 * 1 + p1.length) from by rw [show (16 : Int32) = nI 16 from rfl, nI_mul, nI_add]]
  refine bp_iload_n (q := 33) 22 rfl rfl rfl rfl ?_
  refine bp_iast (q := 34) 23 rfl rfl hB0.k11 (vp_inL hB0.l11 (by omega) (by decide))  ?_
  rw [nI_clamp (by omega)]
  refine bp_aload_n (q := 35) 24 rfl rfl rfl rfl ?_
  refine bp_getR (x := M 6) (q := 38) (ci := 9) (j := 6) 25 rfl rfl fl_Mo_21_9 hB0.kb rfl hB0.r6 ?_
  refine bp_iload_n (q := 39) 26 rfl rfl rfl rfl ?_
  refine bp_dup2 (q := 40) 27 rfl rfl rfl rfl ?_
  refine bp_iald (q := 41) 28 rfl rfl hB0.k6 (vp_inL (n := 1) hB0.l6 (by decide) (by decide)) ?_
  rw [show (nI 1).toNatClampNeg = 1 from rfl, show bp_I (bp_sI (bp_sI h (M 10) (16 * 1 + p1.length) (nI x)) (M 11) (16 * 1 + p1.length) (nI y)) (M 6) 1 = nI p1.length from by rw [bp_I_sI, if_neg (fun z => absurd z.1 (hB0.2.1.ne 6 11)), bp_I_sI, if_neg (fun z => absurd z.1 (hB0.2.1.ne 6 10))]; exact hB0.2.2.2.2.2.2.1.2.2.2.1]
  refine bp_iconst (v := 1) (q := 42) 29 rfl rfl (by decide) ?_
  refine bp_iadd (q := 43) 30 rfl rfl ?_
  rw [nI_1]
  refine bp_iast (q := 44) 31 rfl rfl hB0.k6 (vp_inL (n := 1) hB0.l6 (by decide) (by decide))  ?_
  rw [show (nI 1).toNatClampNeg = 1 from rfl]
  refine bp_vret 32 rfl rfl  ⟨_, rfl, ?_⟩
  have hp := moP.par (x := x) (y := y) (e := e) hB0.2.1 hB0.2.2.2.2.2.2.1 hB0.2.2.2.2.2.1 (by decide) (by decide) (by decide) hl he
  exact hQ _ (hB0.pages mhP_f hp.2 hp.1)
end MO8
