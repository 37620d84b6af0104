/-! the reference takes a page over -/
def moT (M : Nat → Nat) (hh h : bp_H) (L1 : List (Nat × Nat)) (p1 : List (Nat × Nat × Nat)) (a b : Nat) : Prop := bp_Fi (fun x => ∃ i, 5 ≤ i ∧ i ≤ 11 ∧ x = M i) hh h ∧ MoL M h ∧ moP M h 1 L1 p1 ∧ bp_I h (M 5) 0 = nI L1.length ∧ bp_I h (M 6) 0 = nI p1.length ∧ (∀ j, j < a → bp_I h (M 7) j = nI ((cdL L1).getD j 0) ∧ bp_I h (M 8) j = nI (cmL ((lkL L1).getD j 0)) ∧ bp_I h (M 9) j = nI (pIx p1 j)) ∧ ∀ j, j < b → bp_I h (M 10) j = nI (p_a p1 j) ∧ bp_I h (M 11) j = nI (p_i p1 j)
section MO17
variable {l : Launch} {G : bp_G} {H0 : Heap} {M : Nat → Nat} {h0 h : bp_H} {tw : Int32} {i : Nat} {fa : Int32} {fm : Int32} {tl : Int32} {lk : Nat} {al : Nat} {ind : Nat} {sk : Nat} {dp : Nat} {lv : Nat} {fr : Bool} {en : Nat} {nf : Nat} {nn : Nat} {dg : Nat} {nu : Int32} {kd : Nat} {pn : Int32} {pe : Nat} {T : List Nat} {xs : List Nat} {L : List (Nat × Nat)} {ps : List (Nat × Nat × Nat)} {L1 : List (Nat × Nat)} {p1 : List (Nat × Nat × Nat)} {nt : List (Nat → Nat)} {tb : List Nat} {fd : List Nat} {c s : Nat} {Q : Option Value → bp_H → Nat → Nat → Prop} {hh h' : bp_H} {a b k : Nat}
theorem moT.let_ (hM : moT M hh h L1 p1 k b) (hk : k < L1.length) : moT M hh (bp_sI (bp_sI (bp_sI h (M 7) k (nI ((cdL L1).getD k 0))) (M 8) k (nI (cmL ((lkL L1).getD k 0)))) (M 9) k (nI (pIx p1 k))) L1 p1 (k + 1) b := by
  obtain ⟨f, H, A, m1, m2, m3, m4⟩ := hM
  have n1 := H.ne 5 7; have n2 := H.ne 5 8; have n3 := H.ne 5 9; have n5 := H.ne 6 7; have n6 := H.ne 6 8; have n7 := H.ne 6 9; have n9 := H.ne 7 8; have n10 := H.ne 7 9; have n12 := H.ne 8 7; have n13 := H.ne 8 9; have n15 := H.ne 9 7; have n16 := H.ne 9 8; have n18 := H.ne 10 7; have n19 := H.ne 10 8; have n20 := H.ne 10 9; have n22 := H.ne 11 7; have n23 := H.ne 11 8; have n24 := H.ne 11 9
  have f2 : bp_Fi (fun x => ∃ i, 5 ≤ i ∧ i ≤ 11 ∧ x = M i) h (bp_sI (bp_sI (bp_sI h (M 7) k (nI ((cdL L1).getD k 0))) (M 8) k (nI (cmL ((lkL L1).getD k 0)))) (M 9) k (nI (pIx p1 k))) := ((bp_Fi.sI (F := fun x => ∃ i, 5 ≤ i ∧ i ≤ 11 ∧ x = M i) ⟨7, by decide, by decide, rfl⟩).tr (bp_Fi.sI ⟨8, by decide, by decide, rfl⟩)).tr (bp_Fi.sI ⟨9, by decide, by decide, rfl⟩)
  have e7 : ∀ j, bp_I (bp_sI (bp_sI (bp_sI h (M 7) k (nI ((cdL L1).getD k 0))) (M 8) k (nI (cmL ((lkL L1).getD k 0)))) (M 9) k (nI (pIx p1 k))) (M 7) j = if j = k then nI ((cdL L1).getD k 0) else bp_I h (M 7) j := fun j => by simp [bp_I_sI, n9, n10]
  have e8 : ∀ j, bp_I (bp_sI (bp_sI (bp_sI h (M 7) k (nI ((cdL L1).getD k 0))) (M 8) k (nI (cmL ((lkL L1).getD k 0)))) (M 9) k (nI (pIx p1 k))) (M 8) j = if j = k then nI (cmL ((lkL L1).getD k 0)) else bp_I h (M 8) j := fun j => by simp [bp_I_sI, n12, n13]
  have e9 : ∀ j, bp_I (bp_sI (bp_sI (bp_sI h (M 7) k (nI ((cdL L1).getD k 0))) (M 8) k (nI (cmL ((lkL L1).getD k 0)))) (M 9) k (nI (pIx p1 k))) (M 9) j = if j = k then nI (pIx p1 k) else bp_I h (M 9) j := fun j => by simp [bp_I_sI, n15, n16]
  have hl := A.1
  refine ⟨f.tr f2, H.fi f2, ⟨A.1, A.2.1, ?_, ?_, fun j hj => ?_, fun j hj => ?_⟩, ?_, ?_, fun j hj => ?_, fun j hj => ?_⟩
  · simp only [bp_I_sI, n1, n2, n3, false_and, if_false]; exact A.2.2.1
  · simp only [bp_I_sI, n5, n6, n7, false_and, if_false]; exact A.2.2.2.1
  · rw [e7, e8, e9, if_neg (by omega), if_neg (by omega), if_neg (by omega)]; exact A.2.2.2.2.1 j hj
  · simp only [bp_I_sI, n18, n19, n20, n22, n23, n24, false_and, if_false]; exact A.2.2.2.2.2 j hj
  · simp only [bp_I_sI, n1, n2, n3, false_and, if_false]; exact m1
  · simp only [bp_I_sI, n5, n6, n7, false_and, if_false]; exact m2
  · rw [e7, e8, e9]
    by_cases e : j = k
    · rw [if_pos e, if_pos e, if_pos e, e]; exact ⟨rfl, rfl, rfl⟩
    · rw [if_neg e, if_neg e, if_neg e]; exact m3 j (by omega)
  · simp only [bp_I_sI, n18, n19, n20, n22, n23, n24, false_and, if_false]; exact m4 j hj
theorem moT.par_ (hM : moT M hh h L1 p1 a k) (hk : k < p1.length) : moT M hh (bp_sI (bp_sI h (M 10) k (nI (p_a p1 k))) (M 11) k (nI (p_i p1 k))) L1 p1 a (k + 1) := by
  obtain ⟨f, H, A, m1, m2, m3, m4⟩ := hM
  have n1 := H.ne 5 10; have n2 := H.ne 5 11; have n4 := H.ne 6 10; have n5 := H.ne 6 11; have n6 := H.ne 7 10; have n7 := H.ne 7 11; have n9 := H.ne 8 10; have n10 := H.ne 8 11; have n12 := H.ne 9 10; have n13 := H.ne 9 11; have n15 := H.ne 10 11; have n17 := H.ne 11 10
  have f2 : bp_Fi (fun x => ∃ i, 5 ≤ i ∧ i ≤ 11 ∧ x = M i) h (bp_sI (bp_sI h (M 10) k (nI (p_a p1 k))) (M 11) k (nI (p_i p1 k))) := (bp_Fi.sI (F := fun x => ∃ i, 5 ≤ i ∧ i ≤ 11 ∧ x = M i) ⟨10, by decide, by decide, rfl⟩).tr (bp_Fi.sI ⟨11, by decide, by decide, rfl⟩)
  have e7 : ∀ j, bp_I (bp_sI (bp_sI h (M 10) k (nI (p_a p1 k))) (M 11) k (nI (p_i p1 k))) (M 10) j = if j = k then nI (p_a p1 k) else bp_I h (M 10) j := fun j => by simp [bp_I_sI, n15]
  have e8 : ∀ j, bp_I (bp_sI (bp_sI h (M 10) k (nI (p_a p1 k))) (M 11) k (nI (p_i p1 k))) (M 11) j = if j = k then nI (p_i p1 k) else bp_I h (M 11) j := fun j => by simp [bp_I_sI, n17]
  have hl := A.2.1
  refine ⟨f.tr f2, H.fi f2, ⟨A.1, A.2.1, ?_, ?_, fun j hj => ?_, fun j hj => ?_⟩, ?_, ?_, fun j hj => ?_, fun j hj => ?_⟩
  · simp only [bp_I_sI, n1, n2, false_and, if_false]; exact A.2.2.1
  · simp only [bp_I_sI, n4, n5, false_and, if_false]; exact A.2.2.2.1
  · simp only [bp_I_sI, n6, n7, n9, n10, n12, n13, false_and, if_false]; exact A.2.2.2.2.1 j hj
  · rw [e7, e8, if_neg (by omega), if_neg (by omega)]; exact A.2.2.2.2.2 j hj
  · simp only [bp_I_sI, n1, n2, false_and, if_false]; exact m1
  · simp only [bp_I_sI, n4, n5, false_and, if_false]; exact m2
  · simp only [bp_I_sI, n6, n7, n9, n10, n12, n13, false_and, if_false]; exact m3 j hj
  · rw [e7, e8]
    by_cases e : j = k
    · rw [if_pos e, if_pos e, e]; exact ⟨rfl, rfl⟩
    · rw [if_neg e, if_neg e]; exact m4 j (by omega)
theorem moT.sta_ (H : MoL M h) (A : moP M h 1 L1 p1) : moT M h (bp_sI (bp_sI h (M 5) 0 (nI L1.length)) (M 6) 0 (nI p1.length)) L1 p1 0 0 := by
  have n1 := H.ne 5 6; have n2 := H.ne 6 5; have n3 := H.ne 7 5; have n4 := H.ne 7 6; have n5 := H.ne 8 5; have n6 := H.ne 8 6; have n7 := H.ne 9 5; have n8 := H.ne 9 6; have n9 := H.ne 10 5; have n10 := H.ne 10 6; have n11 := H.ne 11 5; have n12 := H.ne 11 6
  have f2 : bp_Fi (fun x => ∃ i, 5 ≤ i ∧ i ≤ 11 ∧ x = M i) h (bp_sI (bp_sI h (M 5) 0 (nI L1.length)) (M 6) 0 (nI p1.length)) := (bp_Fi.sI (F := fun x => ∃ i, 5 ≤ i ∧ i ≤ 11 ∧ x = M i) ⟨5, by decide, by decide, rfl⟩).tr (bp_Fi.sI ⟨6, by decide, by decide, rfl⟩)
  refine ⟨f2, H.fi f2, ⟨A.1, A.2.1, ?_, ?_, fun j hj => ?_, fun j hj => ?_⟩, ?_, ?_, fun j hj => absurd hj (Nat.not_lt_zero j), fun j hj => absurd hj (Nat.not_lt_zero j)⟩
  · simp [bp_I_sI, n1, n2]; exact A.2.2.1
  · simp [bp_I_sI, n1, n2]; exact A.2.2.2.1
  · simp only [bp_I_sI, n3, n4, n5, n6, n7, n8, false_and, if_false]; exact A.2.2.2.2.1 j hj
  · simp only [bp_I_sI, n9, n10, n11, n12, false_and, if_false]; exact A.2.2.2.2.2 j hj
  · simp [bp_I_sI, n1, n2]
  · simp [bp_I_sI, n1, n2]
theorem moT.done (hB : MoX M h0 h tw i fa fm tl lk al ind sk dp lv fr en nf nn dg nu kd pn pe T xs L ps L1 p1 nt tb fd) (hM : moT M h h' L1 p1 L1.length p1.length) : MoX M h0 h' tw i fa fm tl lk al ind sk dp lv fr en nf nn dg nu kd pn pe T xs L1 p1 L1 p1 nt tb fd :=
  hB.pages hM.1 ⟨hM.2.2.1.1, hM.2.2.1.2.1, hM.2.2.2.1, hM.2.2.2.2.1, fun k hk => by rw [Nat.mul_zero, Nat.zero_add]; exact hM.2.2.2.2.2.1 k hk, fun k hk => by rw [Nat.mul_zero, Nat.zero_add]; exact hM.2.2.2.2.2.2 k hk⟩ hM.2.2.1
set_option maxRecDepth 100000 in
set_option maxHeartbeats 4000000 in
theorem lp_Mo_take1 {Q : Outcome → bp_H → Nat → Nat → Prop} : ∀ (m k : Nat) (h : bp_H), m + k = L1.length → moT M hh h L1 p1 k 0 → (∀ h', moT M hh h' L1 p1 L1.length 0 → bp_A l G H0 (0, 0, false, false) M_Mo_takeOver h' c s 92 [some (.ref (M 0)), some (.int 0)] [] Q) → bp_A l G H0 (0, 0, false, false) M_Mo_takeOver h c s 26 [some (.ref (M 0)), some (.int (nI k))] [] Q := by
  intro m
  induction m with
  | zero =>
    intro k h hm hM hQ
    have hl := hM.2.2.1.1
    refine bp_iload_n (q := 27) 18 rfl rfl rfl rfl ?_
    refine bp_aload_n (q := 28) 19 rfl rfl rfl rfl ?_
    refine bp_getR (x := M 5) (q := 31) (ci := 9) (j := 5) 20 rfl rfl fl_Mo_17_9 hM.2.1.1 rfl (hM.2.1.2.1 5 rfl).1 ?_
    refine bp_iconst (v := 1) (q := 32) 21 rfl rfl (by decide) ?_
    refine bp_iald (q := 33) 22 rfl rfl (hM.2.1.2.1 5 rfl).2.1 (vp_inL (n := 1) (N := 2) (hM.2.1.2.1 5 rfl).2.2 (by decide) (by decide)) ?_
    rw [show bp_I _ (M 5) ((1 : Int32).toNatClampNeg) = nI L1.length from hM.2.2.1.2.2.1]
    refine bp_icmp_ge (q := 36) (tgt := 90) 23 rfl rfl (by decide) (fun z33 => ?_) (fun z33 => ?_)
    · refine bp_iconst (v := 0) (q := 91) 56 rfl rfl (by decide) ?_
      refine bp_istore_n (q := 92) 57 rfl rfl rfl (by decide) (bp_up1 rfl) ?_
      rw [show k = L1.length from by omega] at hM
      exact hQ _ hM
    · exact absurd (nI_le (by omega) (by omega)) z33
  | succ m ih =>
    intro k h hm hM hQ
    have hl := hM.2.2.1.1
    have hk : k < L1.length := by omega
    refine bp_iload_n (q := 27) 18 rfl rfl rfl rfl ?_
    refine bp_aload_n (q := 28) 19 rfl rfl rfl rfl ?_
    refine bp_getR (x := M 5) (q := 31) (ci := 9) (j := 5) 20 rfl rfl fl_Mo_17_9 hM.2.1.1 rfl (hM.2.1.2.1 5 rfl).1 ?_
    refine bp_iconst (v := 1) (q := 32) 21 rfl rfl (by decide) ?_
    refine bp_iald (q := 33) 22 rfl rfl (hM.2.1.2.1 5 rfl).2.1 (vp_inL (n := 1) (N := 2) (hM.2.1.2.1 5 rfl).2.2 (by decide) (by decide)) ?_
    rw [show bp_I _ (M 5) ((1 : Int32).toNatClampNeg) = nI L1.length from hM.2.2.1.2.2.1]
    refine bp_icmp_ge (q := 36) (tgt := 90) 23 rfl rfl (by decide) (fun z33 => ?_) (fun z33 => ?_)
    · exact absurd z33 (nI_ge hk (by omega))
    · refine bp_aload_n (q := 37) 24 rfl rfl rfl rfl ?_
      refine bp_getR (x := M 7) (q := 40) (ci := 9) (j := 7) 25 rfl rfl fl_Mo_24_9 hM.2.1.1 rfl (hM.2.1.2.1 7 rfl).1 ?_
      refine bp_iload_n (q := 41) 26 rfl rfl rfl rfl ?_
      refine bp_aload_n (q := 42) 27 rfl rfl rfl rfl ?_
      refine bp_getR (x := M 7) (q := 45) (ci := 9) (j := 7) 28 rfl rfl fl_Mo_24_9 hM.2.1.1 rfl (hM.2.1.2.1 7 rfl).1 ?_
      refine bp_sipush (v := 400) (q := 48) 29 rfl rfl (by decide) ?_
      refine bp_iload_n (q := 49) 30 rfl rfl rfl rfl ?_
      refine bp_iadd (q := 50) 31 rfl rfl ?_
      rw [show (400 : Int32) + nI k = nI (400 * 1 + k) from nI_add 400 k]
      refine bp_iald (q := 51) 32 rfl rfl (hM.2.1.2.1 7 rfl).2.1 (vp_inL (N := 800) (hM.2.1.2.1 7 rfl).2.2 (by omega) (by decide)) ?_
      rw [nI_clamp (by omega), (hM.2.2.1.2.2.2.2.1 k hk).1]
      refine bp_iast (q := 52) 33 rfl rfl (hM.2.1.2.1 7 rfl).2.1 (vp_inL (N := 800) (hM.2.1.2.1 7 rfl).2.2 (by omega) (by decide))  ?_
      rw [nI_clamp (by omega)]
      refine bp_aload_n (q := 53) 34 rfl rfl rfl rfl ?_
      refine bp_getR (x := M 8) (q := 56) (ci := 9) (j := 8) 35 rfl rfl fl_Mo_27_9 hM.2.1.1 rfl (hM.2.1.2.1 8 rfl).1 ?_
      refine bp_iload_n (q := 57) 36 rfl rfl rfl rfl ?_
      refine bp_aload_n (q := 58) 37 rfl rfl rfl rfl ?_
      refine bp_getR (x := M 8) (q := 61) (ci := 9) (j := 8) 38 rfl rfl fl_Mo_27_9 hM.2.1.1 rfl (hM.2.1.2.1 8 rfl).1 ?_
      refine bp_sipush (v := 400) (q := 64) 39 rfl rfl (by decide) ?_
      refine bp_iload_n (q := 65) 40 rfl rfl rfl rfl ?_
      refine bp_iadd (q := 66) 41 rfl rfl ?_
      rw [show (400 : Int32) + nI k = nI (400 * 1 + k) from nI_add 400 k]
      refine bp_iald (q := 67) 42 rfl rfl (hM.2.1.2.1 8 rfl).2.1 (vp_inL (N := 800) (hM.2.1.2.1 8 rfl).2.2 (by omega) (by decide)) ?_
      rw [nI_clamp (by omega), bp_I_sI, if_neg (fun z => absurd z.1 (hM.2.1.ne 8 7)), (hM.2.2.1.2.2.2.2.1 k hk).2.1]
      refine bp_iast (q := 68) 43 rfl rfl (hM.2.1.2.1 8 rfl).2.1 (vp_inL (N := 800) (hM.2.1.2.1 8 rfl).2.2 (by omega) (by decide))  ?_
      rw [nI_clamp (by omega)]
      refine bp_aload_n (q := 69) 44 rfl rfl rfl rfl ?_
      refine bp_getR (x := M 9) (q := 72) (ci := 9) (j := 9) 45 rfl rfl fl_Mo_30_9 hM.2.1.1 rfl (hM.2.1.2.1 9 rfl).1 ?_
      refine bp_iload_n (q := 73) 46 rfl rfl rfl rfl ?_
      refine bp_aload_n (q := 74) 47 rfl rfl rfl rfl ?_
      refine bp_getR (x := M 9) (q := 77) (ci := 9) (j := 9) 48 rfl rfl fl_Mo_30_9 hM.2.1.1 rfl (hM.2.1.2.1 9 rfl).1 ?_
      refine bp_sipush (v := 400) (q := 80) 49 rfl rfl (by decide) ?_
      refine bp_iload_n (q := 81) 50 rfl rfl rfl rfl ?_
      refine bp_iadd (q := 82) 51 rfl rfl ?_
      rw [show (400 : Int32) + nI k = nI (400 * 1 + k) from nI_add 400 k]
      refine bp_iald (q := 83) 52 rfl rfl (hM.2.1.2.1 9 rfl).2.1 (vp_inL (N := 800) (hM.2.1.2.1 9 rfl).2.2 (by omega) (by decide)) ?_
      rw [nI_clamp (by omega), bp_I_sI, if_neg (fun z => absurd z.1 (hM.2.1.ne 9 8)), bp_I_sI, if_neg (fun z => absurd z.1 (hM.2.1.ne 9 7)), (hM.2.2.1.2.2.2.2.1 k hk).2.2]
      refine bp_iast (q := 84) 53 rfl rfl (hM.2.1.2.1 9 rfl).2.1 (vp_inL (N := 800) (hM.2.1.2.1 9 rfl).2.2 (by omega) (by decide))  ?_
      rw [nI_clamp (by omega)]
      refine bp_iinc (v := nI (k + 1)) (q := 87) 54 rfl rfl rfl (nI_1 k) (by decide) (bp_up1 rfl) ?_
      refine bp_goto (tgt := 26) 55 rfl (by decide) ?_
      exact ih (k + 1) _ (by omega) (hM.let_ hk) hQ
set_option maxRecDepth 100000 in
set_option maxHeartbeats 4000000 in
theorem lp_Mo_take2 (hQ : ∀ h', moT M hh h' L1 p1 L1.length p1.length → Q none h' c s) : ∀ (m k : Nat) (h : bp_H), m + k = p1.length → moT M hh h L1 p1 L1.length k → bp_A l G H0 (0, 0, false, false) M_Mo_takeOver h c s 92 [some (.ref (M 0)), some (.int (nI k))] [] (fun o h' c' s' => ∃ v, o = .returned v ∧ Q v h' c' s') := by
  intro m
  induction m with
  | zero =>
    intro k h hm hM
    have hl := hM.2.2.1.2.1
    refine bp_iload_n (q := 93) 58 rfl rfl rfl rfl ?_
    refine bp_aload_n (q := 94) 59 rfl rfl rfl rfl ?_
    refine bp_getR (x := M 6) (q := 97) (ci := 9) (j := 6) 60 rfl rfl fl_Mo_21_9 hM.2.1.1 rfl (hM.2.1.2.1 6 rfl).1 ?_
    refine bp_iconst (v := 1) (q := 98) 61 rfl rfl (by decide) ?_
    refine bp_iald (q := 99) 62 rfl rfl (hM.2.1.2.1 6 rfl).2.1 (vp_inL (n := 1) (N := 2) (hM.2.1.2.1 6 rfl).2.2 (by decide) (by decide)) ?_
    rw [show bp_I _ (M 6) ((1 : Int32).toNatClampNeg) = nI p1.length from hM.2.2.1.2.2.2.1]
    refine bp_icmp_ge (q := 102) (tgt := 138) 63 rfl rfl (by decide) (fun z99 => ?_) (fun z99 => ?_)
    · exact bp_vret 86 rfl rfl  ⟨_, rfl, hQ _ (by rw [show k = p1.length from by omega] at hM; exact hM)⟩
    · exact absurd (nI_le (by omega) (by omega)) z99
  | succ m ih =>
    intro k h hm hM
    have hl := hM.2.2.1.2.1
    have hk : k < p1.length := by omega
    refine bp_iload_n (q := 93) 58 rfl rfl rfl rfl ?_
    refine bp_aload_n (q := 94) 59 rfl rfl rfl rfl ?_
    refine bp_getR (x := M 6) (q := 97) (ci := 9) (j := 6) 60 rfl rfl fl_Mo_21_9 hM.2.1.1 rfl (hM.2.1.2.1 6 rfl).1 ?_
    refine bp_iconst (v := 1) (q := 98) 61 rfl rfl (by decide) ?_
    refine bp_iald (q := 99) 62 rfl rfl (hM.2.1.2.1 6 rfl).2.1 (vp_inL (n := 1) (N := 2) (hM.2.1.2.1 6 rfl).2.2 (by decide) (by decide)) ?_
    rw [show bp_I _ (M 6) ((1 : Int32).toNatClampNeg) = nI p1.length from hM.2.2.1.2.2.2.1]
    refine bp_icmp_ge (q := 102) (tgt := 138) 63 rfl rfl (by decide) (fun z99 => ?_) (fun z99 => ?_)
    · exact absurd z99 (nI_ge hk (by omega))
    · refine bp_aload_n (q := 103) 64 rfl rfl rfl rfl ?_
      refine bp_getR (x := M 10) (q := 106) (ci := 9) (j := 10) 65 rfl rfl fl_Mo_33_9 hM.2.1.1 rfl (hM.2.1.2.1 10 rfl).1 ?_
      refine bp_iload_n (q := 107) 66 rfl rfl rfl rfl ?_
      refine bp_aload_n (q := 108) 67 rfl rfl rfl rfl ?_
      refine bp_getR (x := M 10) (q := 111) (ci := 9) (j := 10) 68 rfl rfl fl_Mo_33_9 hM.2.1.1 rfl (hM.2.1.2.1 10 rfl).1 ?_
      refine bp_bipush (v := 16) (q := 113) 69 rfl rfl (by decide) ?_
      refine bp_iload_n (q := 114) 70 rfl rfl rfl rfl ?_
      refine bp_iadd (q := 115) 71 rfl rfl ?_
      rw [show (16 : Int32) + nI k = nI (16 * 1 + k) from nI_add 16 k]
      refine bp_iald (q := 116) 72 rfl rfl (hM.2.1.2.1 10 rfl).2.1 (vp_inL (N := 32) (hM.2.1.2.1 10 rfl).2.2 (by omega) (by decide)) ?_
      rw [nI_clamp (by omega), (hM.2.2.1.2.2.2.2.2 k hk).1]
      refine bp_iast (q := 117) 73 rfl rfl (hM.2.1.2.1 10 rfl).2.1 (vp_inL (N := 32) (hM.2.1.2.1 10 rfl).2.2 (by omega) (by decide))  ?_
      rw [nI_clamp (by omega)]
      refine bp_aload_n (q := 118) 74 rfl rfl rfl rfl ?_
      refine bp_getR (x := M 11) (q := 121) (ci := 9) (j := 11) 75 rfl rfl fl_Mo_36_9 hM.2.1.1 rfl (hM.2.1.2.1 11 rfl).1 ?_
      refine bp_iload_n (q := 122) 76 rfl rfl rfl rfl ?_
      refine bp_aload_n (q := 123) 77 rfl rfl rfl rfl ?_
      refine bp_getR (x := M 11) (q := 126) (ci := 9) (j := 11) 78 rfl rfl fl_Mo_36_9 hM.2.1.1 rfl (hM.2.1.2.1 11 rfl).1 ?_
      refine bp_bipush (v := 16) (q := 128) 79 rfl rfl (by decide) ?_
      refine bp_iload_n (q := 129) 80 rfl rfl rfl rfl ?_
      refine bp_iadd (q := 130) 81 rfl rfl ?_
      rw [show (16 : Int32) + nI k = nI (16 * 1 + k) from nI_add 16 k]
      refine bp_iald (q := 131) 82 rfl rfl (hM.2.1.2.1 11 rfl).2.1 (vp_inL (N := 32) (hM.2.1.2.1 11 rfl).2.2 (by omega) (by decide)) ?_
      rw [nI_clamp (by omega), bp_I_sI, if_neg (fun z => absurd z.1 (hM.2.1.ne 11 10)), (hM.2.2.1.2.2.2.2.2 k hk).2]
      refine bp_iast (q := 132) 83 rfl rfl (hM.2.1.2.1 11 rfl).2.1 (vp_inL (N := 32) (hM.2.1.2.1 11 rfl).2.2 (by omega) (by decide))  ?_
      rw [nI_clamp (by omega)]
      refine bp_iinc (v := nI (k + 1)) (q := 135) 84 rfl rfl rfl (nI_1 k) (by decide) (bp_up1 rfl) ?_
      refine bp_goto (tgt := 92) 85 rfl (by decide) ?_
      exact ih (k + 1) _ (by omega) (hM.par_ hk)
set_option maxRecDepth 100000 in
set_option maxHeartbeats 4000000 in
theorem s_Mo_takeOver  (hB0 : MoX M h0 h tw i fa fm tl lk al ind sk dp lv fr en nf nn dg nu kd pn pe T xs L ps L1 p1 nt tb fd) (hQ : ∀ h', MoX M h0 h' tw i fa fm tl lk al ind sk dp lv fr en nf nn dg nu kd pn pe T xs L1 p1 L1 p1 nt tb fd → Q none h' c s) : bp_AM l G H0 (0, 0, false, false) M_Mo_takeOver h c s [.ref (M 0)] Q := by
  refine bp_of (ls := [some (.ref (M 0)), none]) (by decide) dt_Mo_takeOver (Nat.le_of_ble_eq_true rfl) (fun q hq => hq) false ?_
  refine bp_aload_n (q := 1) 0 rfl rfl rfl rfl ?_
  refine bp_getR (x := M 5) (q := 4) (ci := 9) (j := 5) 1 rfl rfl fl_Mo_17_9 hB0.kb rfl hB0.r5 ?_
  refine bp_iconst (v := 0) (q := 5) 2 rfl rfl (by decide) ?_
  refine bp_aload_n (q := 6) 3 rfl rfl rfl rfl ?_
  refine bp_getR (x := M 5) (q := 9) (ci := 9) (j := 5) 4 rfl rfl fl_Mo_17_9 hB0.kb rfl hB0.r5 ?_
  refine bp_iconst (v := 1) (q := 10) 5 rfl rfl (by decide) ?_
  refine bp_iald (q := 11) 6 rfl rfl hB0.k5 (vp_inL (n := 1) hB0.l5 (by decide) (by decide)) ?_
  rw [show bp_I _ (M 5) ((1 : Int32).toNatClampNeg) = nI L1.length from hB0.2.2.2.2.2.2.1.2.2.1]
  refine bp_iast (q := 12) 7 rfl rfl hB0.k5 (vp_inL (n := 0) hB0.l5 (by decide) (by decide))  ?_
  rw [show ((0 : Int32).toNatClampNeg) = 0 from rfl]
  refine bp_aload_n (q := 13) 8 rfl rfl rfl rfl ?_
  refine bp_getR (x := M 6) (q := 16) (ci := 9) (j := 6) 9 rfl rfl fl_Mo_21_9 hB0.kb rfl hB0.r6 ?_
  refine bp_iconst (v := 0) (q := 17) 10 rfl rfl (by decide) ?_
  refine bp_aload_n (q := 18) 11 rfl rfl rfl rfl ?_
  refine bp_getR (x := M 6) (q := 21) (ci := 9) (j := 6) 12 rfl rfl fl_Mo_21_9 hB0.kb rfl hB0.r6 ?_
  refine bp_iconst (v := 1) (q := 22) 13 rfl rfl (by decide) ?_
  refine bp_iald (q := 23) 14 rfl rfl hB0.k6 (vp_inL (n := 1) hB0.l6 (by decide) (by decide)) ?_
  rw [show bp_I _ (M 6) ((1 : Int32).toNatClampNeg) = nI p1.length from by rw [bp_I_sI, if_neg (fun z => absurd z.1 (hB0.2.1.ne 6 5))]; exact hB0.2.2.2.2.2.2.1.2.2.2.1]
  refine bp_iast (q := 24) 15 rfl rfl hB0.k6 (vp_inL (n := 0) hB0.l6 (by decide) (by decide))  ?_
  rw [show ((0 : Int32).toNatClampNeg) = 0 from rfl]
  refine bp_iconst (v := 0) (q := 25) 16 rfl rfl (by decide) ?_
  refine bp_istore_n (q := 26) 17 rfl rfl rfl (by decide) (bp_up1 rfl) ?_
  exact lp_Mo_take1 L1.length 0 _ (Nat.add_zero _) (moT.sta_ hB0.2.1 hB0.2.2.2.2.2.2.1) (fun h1 hM => lp_Mo_take2 (fun h2 hM2 => hQ _ (moT.done hB0 hM2)) p1.length 0 h1 (Nat.add_zero _) hM)
set_option maxRecDepth 100000 in
set_option maxHeartbeats 4000000 in
theorem s_Mo_finished0  (hB0 : MoX M h0 h tw i 0 fm tl lk al ind sk dp lv fr en nf nn dg nu kd pn pe T xs L ps L1 p1 nt tb fd) (hQ : ∀ h', MoX M h0 h' tw i 0 fm (-1) lk al ind sk dp lv fr en nf nn dg nu kd pn pe T xs L1 p1 L1 p1 nt tb fd → Q (some (.int (nI p1.length))) h' c s) : bp_AM l G H0 (1, 21, false, false) M_Mo_finished h c s [.ref (M 0)] Q := by
  refine bp_of (ls := [some (.ref (M 0))]) (by decide) dt_Mo_finished (Nat.le_of_ble_eq_true rfl) (fun q hq => hq) false ?_
  refine bp_aload_n (q := 1) 0 rfl rfl rfl rfl ?_
  refine bp_aload_n (q := 2) 1 rfl rfl rfl rfl ?_
  refine bp_getI (q := 5) (ci := 9) (j := 13) 2 rfl rfl fl_Mo_69_9 hB0.kb rfl ?_
  rw [hB0.i13]
  refine bp_if_ne (q := 8) (tgt := 12) 3 rfl rfl (by decide) (fun z5 => ?_) (fun z5 => ?_)
  · exact absurd rfl z5
  · refine bp_iconst (v := -1) (q := 9) 4 rfl rfl (by decide) ?_
    refine bp_goto (tgt := 16) 5 rfl (by decide) ?_
    refine bp_putI (q := 19) (ci := 9) (j := 15) 8 rfl rfl fl_Mo_39_9 cl9 hB0.kb (fun r hr => by cases hr; rfl) (by decide) rfl rfl ?_
    refine bp_nx (X := fun h1 => MoX M h0 h1 tw i 0 fm (-1) lk al ind sk dp lv fr en nf nn dg nu kd pn pe T xs L ps L1 p1 nt tb fd) (hB0.s15 rfl) (fun h1 hB1 => ?_)
    refine bp_aload_n (q := 20) 9 rfl rfl rfl rfl ?_
    refine bp_getI (q := 23) (ci := 9) (j := 13) 10 rfl rfl fl_Mo_69_9 hB1.kb rfl ?_
    rw [hB1.i13]
    refine bp_if_eq (q := 26) (tgt := 31) 11 rfl rfl (by decide) (fun z23 => ?_) (fun z23 => ?_)
    · refine bp_aload_n (q := 32) 15 rfl rfl rfl rfl ?_
      refine bp_callV (q := 35) (ci := 9) 16 rfl rfl cw_Mo_takeOver lk_Mo_87 rfl hB1.kb wd1568 wd63 rfl rfl (Nat.le_of_ble_eq_true rfl) ⟨Nat.le_of_ble_eq_true rfl, Nat.le_of_ble_eq_true rfl⟩ (s_Mo_takeOver hB1 (fun h2 hB2 => ?_))
      refine bp_aload_n (q := 36) 17 rfl rfl rfl rfl ?_
      refine bp_getR (x := M 6) (q := 39) (ci := 9) (j := 6) 18 rfl rfl fl_Mo_21_9 hB2.kb rfl hB2.r6 ?_
      refine bp_iconst (v := 0) (q := 40) 19 rfl rfl (by decide) ?_
      refine bp_iald (q := 41) 20 rfl rfl hB2.k6 (vp_inL (n := 0) hB2.l6 (by decide) (by decide)) ?_
      rw [show bp_I _ (M 6) ((0 : Int32).toNatClampNeg) = nI p1.length from hB2.2.2.2.2.2.1.2.2.2.1]
      exact bp_iret 21 rfl rfl rfl ⟨_, rfl, hQ _ hB2⟩
    · exact absurd rfl z23
set_option maxRecDepth 100000 in
set_option maxHeartbeats 4000000 in
theorem s_Mo_finished1  (hB0 : MoX M h0 h tw i fa fm tl lk al ind sk dp lv fr en nf nn dg nu kd pn pe T xs L ps L1 p1 nt tb fd) (hf : ¬ fa = 0) (hQ : ∀ h', MoX M h0 h' tw i fa fm fm lk al ind sk dp lv fr en nf nn dg nu kd pn pe T xs L ps L1 p1 nt tb fd → Q (some (.int fa)) h' c s) : bp_AM l G H0 (1, 21, false, false) M_Mo_finished h c s [.ref (M 0)] Q := by
  refine bp_of (ls := [some (.ref (M 0))]) (by decide) dt_Mo_finished (Nat.le_of_ble_eq_true rfl) (fun q hq => hq) false ?_
  refine bp_aload_n (q := 1) 0 rfl rfl rfl rfl ?_
  refine bp_aload_n (q := 2) 1 rfl rfl rfl rfl ?_
  refine bp_getI (q := 5) (ci := 9) (j := 13) 2 rfl rfl fl_Mo_69_9 hB0.kb rfl ?_
  rw [hB0.i13]
  refine bp_if_ne (q := 8) (tgt := 12) 3 rfl rfl (by decide) (fun z5 => ?_) (fun z5 => ?_)
  · refine bp_aload_n (q := 13) 6 rfl rfl rfl rfl ?_
    refine bp_getI (q := 16) (ci := 9) (j := 14) 7 rfl rfl fl_Mo_72_9 hB0.kb rfl ?_
    rw [hB0.i14]
    refine bp_putI (q := 19) (ci := 9) (j := 15) 8 rfl rfl fl_Mo_39_9 cl9 hB0.kb (fun r hr => by cases hr; rfl) (by decide) rfl rfl ?_
    refine bp_nx (X := fun h1 => MoX M h0 h1 tw i fa fm fm lk al ind sk dp lv fr en nf nn dg nu kd pn pe T xs L ps L1 p1 nt tb fd) (hB0.s15 rfl) (fun h1 hB1 => ?_)
    refine bp_aload_n (q := 20) 9 rfl rfl rfl rfl ?_
    refine bp_getI (q := 23) (ci := 9) (j := 13) 10 rfl rfl fl_Mo_69_9 hB1.kb rfl ?_
    rw [hB1.i13]
    refine bp_if_eq (q := 26) (tgt := 31) 11 rfl rfl (by decide) (fun z23 => ?_) (fun z23 => ?_)
    · exact absurd z23 hf
    · refine bp_aload_n (q := 27) 12 rfl rfl rfl rfl ?_
      refine bp_getI (q := 30) (ci := 9) (j := 13) 13 rfl rfl fl_Mo_69_9 hB1.kb rfl ?_
      rw [hB1.i13]
      exact bp_iret 14 rfl rfl rfl ⟨_, rfl, hQ _ hB1⟩
  · exact absurd z5 hf
end MO17
