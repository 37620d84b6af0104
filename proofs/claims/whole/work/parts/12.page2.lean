theorem p_ne {P : Nat → Nat} (hinj : ∀ i j, i < 8 → j < 8 → P i = P j → i = j) (i j : Nat) (hi : i < 8 := by decide) (hj : j < 8 := by decide) (h : i ≠ j := by decide) : P i ≠ P j := fun e => h (hinj i j hi hj e)
theorem Pg.fi {h h' : bp_H} {F : Nat → Prop} {P : Nat → Nat} {L : List (Nat × Nat)} {ps : List (Nat × Nat × Nat)} (hP : Pg h P L ps) (f : bp_Fi F h h') (hF : ∀ i, i < 8 → ¬ F (P i)) : Pg h' P L ps := by
  obtain ⟨k0, r0, r1, r2, r3, r4, sz, ⟨k1, l1⟩, ⟨k2, l2⟩, ⟨k3, l3⟩, hn, hj, hc, hl, lc, ll, hinj⟩ := hP
  refine ⟨(f.K _).trans k0, (f.R _ _).trans r0, (f.R _ _).trans r1, (f.R _ _).trans r2, (f.R _ _).trans r3, (f.R _ _).trans r4, (f.2.2.2 _ (hF 0 (by decide)) _).trans sz, ⟨(f.K _).trans k1, (f.L _).trans l1⟩, ⟨(f.K _).trans k2, (f.L _).trans l2⟩, ⟨(f.K _).trans k3, (f.L _).trans l3⟩, hn, fun j hj' => ?_, hc.fi f (hF 4 (by decide)) (hF 5 (by decide)), hl.fi f (hF 6 (by decide)) (hF 7 (by decide)), (f.L _).trans lc, (f.L _).trans ll, hinj⟩
  obtain ⟨a, b, d⟩ := hj j hj'
  exact ⟨(f.2.2.2 _ (hF 1 (by decide)) _).trans a, (f.2.2.2 _ (hF 2 (by decide)) _).trans b, (f.2.2.2 _ (hF 3 (by decide)) _).trans d⟩
def pF (P : Nat → Nat) (b : Nat) : Prop := ∃ i, i < 8 ∧ b = P i
theorem pF4 {P : Nat → Nat} {b : Nat} (z : b = P 4 ∨ b = P 5 ∨ b = P 6 ∨ b = P 7) : pF P b := z.elim (fun z => ⟨4, by decide, z⟩) (fun z => z.elim (fun z => ⟨5, by decide, z⟩) (fun z => z.elim (fun z => ⟨6, by decide, z⟩) (fun z => ⟨7, by decide, z⟩)))
theorem pF0 {P : Nat → Nat} {b : Nat} (z : b = P 0 ∨ b = P 1 ∨ b = P 2 ∨ b = P 3) : pF P b := z.elim (fun z => ⟨0, by decide, z⟩) (fun z => z.elim (fun z => ⟨1, by decide, z⟩) (fun z => z.elim (fun z => ⟨2, by decide, z⟩) (fun z => ⟨3, by decide, z⟩)))
theorem Pg.rows {h h' : bp_H} {P : Nat → Nat} {L L' : List (Nat × Nat)} {ps : List (Nat × Nat × Nat)} (hP : Pg h P L ps) (f : bp_Fi (fun b => b = P 4 ∨ b = P 5 ∨ b = P 6 ∨ b = P 7) h h') (hc' : Rw h' (P 4) (P 5) (L'.map (fun q => q.1))) (hl' : Rw h' (P 6) (P 7) (L'.map (fun q => q.2))) : Pg h' P L' ps := by
  obtain ⟨k0, r0, r1, r2, r3, r4, sz, ⟨k1, l1⟩, ⟨k2, l2⟩, ⟨k3, l3⟩, hn, hj, hc, hl, lc, ll, hinj⟩ := hP
  have hF : ∀ i, i < 4 → ¬ (P i = P 4 ∨ P i = P 5 ∨ P i = P 6 ∨ P i = P 7) := fun i hi z => by
    rcases z with z | z | z | z <;> have := hinj _ _ (by omega) (by decide) z <;> omega
  refine ⟨(f.K _).trans k0, (f.R _ _).trans r0, (f.R _ _).trans r1, (f.R _ _).trans r2, (f.R _ _).trans r3, (f.R _ _).trans r4, (f.2.2.2 _ (hF 0 (by decide)) _).trans sz, ⟨(f.K _).trans k1, (f.L _).trans l1⟩, ⟨(f.K _).trans k2, (f.L _).trans l2⟩, ⟨(f.K _).trans k3, (f.L _).trans l3⟩, hn, fun j hj' => ?_, hc', hl', (f.L _).trans lc, (f.L _).trans ll, hinj⟩
  obtain ⟨a, b, d⟩ := hj j hj'
  exact ⟨(f.2.2.2 _ (hF 1 (by decide)) _).trans a, (f.2.2.2 _ (hF 2 (by decide)) _).trans b, (f.2.2.2 _ (hF 3 (by decide)) _).trans d⟩
theorem Pg.par {h h' : bp_H} {P : Nat → Nat} {L : List (Nat × Nat)} {ps ps' : List (Nat × Nat × Nat)} (hP : Pg h P L ps) (f : bp_Fi (fun b => b = P 0 ∨ b = P 1 ∨ b = P 2 ∨ b = P 3) h h') (hs : bp_I h' (P 0) 5 = nI ps'.length) (hn' : ps'.length ≤ 16) (hj' : ∀ j, j < ps'.length → bp_I h' (P 1) j = nI (p_a ps' j) ∧ bp_I h' (P 2) j = nI (p_i ps' j) ∧ bp_I h' (P 3) j = nI (p_e ps' j)) : Pg h' P L ps' := by
  obtain ⟨k0, r0, r1, r2, r3, r4, sz, ⟨k1, l1⟩, ⟨k2, l2⟩, ⟨k3, l3⟩, hn, hj, hc, hl, lc, ll, hinj⟩ := hP
  have hF : ∀ i, 4 ≤ i → i < 8 → ¬ (P i = P 0 ∨ P i = P 1 ∨ P i = P 2 ∨ P i = P 3) := fun i hi hi2 z => by
    rcases z with z | z | z | z <;> have := hinj _ _ (by omega) (by decide) z <;> omega
  exact ⟨(f.K _).trans k0, (f.R _ _).trans r0, (f.R _ _).trans r1, (f.R _ _).trans r2, (f.R _ _).trans r3, (f.R _ _).trans r4, hs, ⟨(f.K _).trans k1, (f.L _).trans l1⟩, ⟨(f.K _).trans k2, (f.L _).trans l2⟩, ⟨(f.K _).trans k3, (f.L _).trans l3⟩, hn', hj', hc.fi f (hF 4 (by decide) (by decide)) (hF 5 (by decide) (by decide)), hl.fi f (hF 6 (by decide) (by decide)) (hF 7 (by decide) (by decide)), (f.L _).trans lc, (f.L _).trans ll, hinj⟩
section PAGE2
variable {l : Launch} {G : bp_G} {H0 : Heap} {h : bp_H} {c s : Nat} {P : Nat → Nat} {L : List (Nat × Nat)} {ps : List (Nat × Nat × Nat)} {Q : Option Value → bp_H → Nat → Nat → Prop}
set_option maxRecDepth 100000 in
set_option maxHeartbeats 4000000 in
theorem s_Page_empty  (hP : Pg h P L ps) (hQ : ∀ h', Pg h' P [] [] → bp_Fi (pF P) h h' → Q none h' c s) : bp_AM l G H0 (1, 20, false, false) M_Page_empty h c s [.ref (P 0)] Q := by
  refine bp_of (ls := [some (.ref (P 0))]) (by decide) dt_Page_empty (Nat.le_of_ble_eq_true rfl) (fun q hq => hq) false ?_
  obtain ⟨k0, r0, r1, r2, r3, r4, sz, ⟨k1, l1⟩, ⟨k2, l2⟩, ⟨k3, l3⟩, hn, hj, hc, hl, lc, ll, hinj⟩ := id hP
  refine bp_aload_n (q := 1) 0 rfl rfl rfl rfl ?_
  refine bp_iconst (v := 0) (q := 2) 1 rfl rfl (by decide) ?_
  refine bp_putI (q := 5) (ci := 2) (j := 5) 2 rfl rfl fl_Page_33_2 cl2 k0 (fun r hr => by cases hr; rfl) (by decide) rfl rfl ?_
  have f0 : bp_Fi (fun b => b = P 0) h (bp_sI h (P 0) 5 0) := bp_Fi.sI rfl
  have hA : Pg (bp_sI h (P 0) 5 0) P L [] := hP.par (bp_Fi.sI (Or.inl rfl)) (by rw [bp_I_sI, if_pos ⟨rfl, rfl⟩]; rfl) (Nat.zero_le _) (fun j hj => absurd hj (Nat.not_lt_zero j))
  have hc := hc.fi f0 (p_ne hinj 4 0) (p_ne hinj 5 0)
  have hl := hl.fi f0 (p_ne hinj 6 0) (p_ne hinj 7 0)
  refine bp_aload_n (q := 6) 3 rfl rfl rfl rfl ?_
  refine bp_getR (x := (P 4)) (q := 9) (ci := 2) (j := 3) 4 rfl rfl fl_Page_26_2 k0 rfl r3 ?_
  refine bp_callV (q := 12) (ci := 1) 5 rfl rfl cw_Row_empty lk_Page_48 rfl hc.1 wd401 wd402 rfl rfl (Nat.le_of_ble_eq_true rfl) ⟨Nat.le_of_ble_eq_true rfl, Nat.le_of_ble_eq_true rfl⟩ (s_Row_empty hc (fun h1 hc1 f1 => ?_))
  have k0 := (f1.K (P 0)).trans k0
  have r4 := (f1.R (P 0) 4).trans r4
  have r2 := (f1.R (P 0) 2).trans r2
  have hl := hl.fi f1 (p_ne hinj 6 4) (p_ne hinj 7 4)
  refine bp_aload_n (q := 13) 6 rfl rfl rfl rfl ?_
  refine bp_getR (x := (P 6)) (q := 16) (ci := 2) (j := 4) 7 rfl rfl fl_Page_30_2 k0 rfl r4 ?_
  refine bp_callV (q := 19) (ci := 1) 8 rfl rfl cw_Row_empty lk_Page_48 rfl hl.1 wd401 wd402 rfl rfl (Nat.le_of_ble_eq_true rfl) ⟨Nat.le_of_ble_eq_true rfl, Nat.le_of_ble_eq_true rfl⟩ (s_Row_empty hl (fun h2 hl2 f2 => ?_))
  have hc2 := hc1.fi f2 (p_ne hinj 4 6) (p_ne hinj 5 6)
  have f := (f1.wk (F' := fun b => b = P 4 ∨ b = P 5 ∨ b = P 6 ∨ b = P 7) (fun b z => Or.inl z)).tr (f2.wk (fun b z => Or.inr (Or.inr (Or.inl z))))
  refine bp_vret 9 rfl rfl  ⟨_, rfl, ?_⟩
  exact hQ _ (hA.rows f (L' := []) hc2 hl2) ((f0.wk (fun b z => ⟨0, by decide, z⟩)).tr (f.wk (fun b z => pF4 z)))
set_option maxRecDepth 100000 in
set_option maxHeartbeats 4000000 in
theorem s_Page_put {x y : Int32} {u v : Nat} (hx : x = nI u) (hy : y = nI v) (hP : Pg h P L ps) (hlt : L.length < 400) (hQ : ∀ h', Pg h' P (L ++ [(u, v)]) ps → bp_Fi (pF P) h h' → Q none h' c s) : bp_AM l G H0 (4, 84, false, false) M_Page_put h c s [.ref (P 0), .int x, .int y] Q := by
  refine bp_of (ls := [some (.ref (P 0)), some (.int x), some (.int y)]) (by decide) dt_Page_put (Nat.le_of_ble_eq_true rfl) (fun q hq => hq) false ?_
  obtain ⟨k0, r0, r1, r2, r3, r4, sz, ⟨k1, l1⟩, ⟨k2, l2⟩, ⟨k3, l3⟩, hn, hj, hc, hl, lc, ll, hinj⟩ := id hP
  refine bp_aload_n (q := 1) 0 rfl rfl rfl rfl ?_
  refine bp_getR (x := (P 4)) (q := 4) (ci := 2) (j := 3) 1 rfl rfl fl_Page_26_2 k0 rfl r3 ?_
  refine bp_iload_n (q := 5) 2 rfl rfl rfl rfl ?_
  refine bp_callV (q := 8) (ci := 1) 3 rfl rfl cw_Row_put lk_Page_55 rfl hc.1 wd485 wd486 rfl rfl (Nat.le_of_ble_eq_true rfl) ⟨Nat.le_of_ble_eq_true rfl, Nat.le_of_ble_eq_true rfl⟩ (s_Row_put hx hc (by rw [lc, List.length_map]; exact hlt) (fun h1 hc1 f1 => ?_))
  have k0 := (f1.K (P 0)).trans k0
  have r4 := (f1.R (P 0) 4).trans r4
  have r2 := (f1.R (P 0) 2).trans r2
  have hl := hl.fi f1 (fun z => z.elim (p_ne hinj 6 4) (p_ne hinj 6 5)) (fun z => z.elim (p_ne hinj 7 4) (p_ne hinj 7 5))
  refine bp_aload_n (q := 9) 4 rfl rfl rfl rfl ?_
  refine bp_getR (x := (P 6)) (q := 12) (ci := 2) (j := 4) 5 rfl rfl fl_Page_30_2 k0 rfl r4 ?_
  refine bp_iload_n (q := 13) 6 rfl rfl rfl rfl ?_
  refine bp_callV (q := 16) (ci := 1) 7 rfl rfl cw_Row_put lk_Page_55 rfl hl.1 wd485 wd486 rfl rfl (Nat.le_of_ble_eq_true rfl) ⟨Nat.le_of_ble_eq_true rfl, Nat.le_of_ble_eq_true rfl⟩ (s_Row_put hy hl (by rw [f1.L, ll, List.length_map]; exact hlt) (fun h2 hl2 f2 => ?_))
  have hc2 := hc1.fi f2 (fun z => z.elim (p_ne hinj 4 6) (p_ne hinj 4 7)) (fun z => z.elim (p_ne hinj 5 6) (p_ne hinj 5 7))
  have f := (f1.wk (F' := fun b => b = P 4 ∨ b = P 5 ∨ b = P 6 ∨ b = P 7) (fun b z => z.elim Or.inl (fun y => Or.inr (Or.inl y)))).tr (f2.wk (fun b z => z.elim (fun y => Or.inr (Or.inr (Or.inl y))) (fun y => Or.inr (Or.inr (Or.inr y)))))
  refine bp_vret 8 rfl rfl  ⟨_, rfl, ?_⟩
  exact hQ _ (hP.rows f (L' := L ++ [(u, v)]) (by rw [List.map_append]; exact hc2) (by rw [List.map_append]; exact hl2)) (f.wk (fun b z => pF4 z))
def pG (h : bp_H) (P : Nat → Nat) (L : List (Nat × Nat)) (x y : Int32) : bp_H :=
  let k := (bp_I h (P 0) 5).toNatClampNeg
  let h1 := bp_sI h (P 1) k x
  let h2 := bp_sI h1 (P 2) (bp_I h1 (P 0) 5).toNatClampNeg y
  let h3 := bp_sI h2 (P 3) (bp_I h2 (P 0) 5).toNatClampNeg (nI (L.map (fun q => q.1)).length)
  bp_sI h3 (P 0) 5 (bp_I h3 (P 0) 5 + 1)
theorem Pg.gat {h : bp_H} {P : Nat → Nat} {L : List (Nat × Nat)} {ps : List (Nat × Nat × Nat)} {x y : Int32} {u v : Nat} (hP : Pg h P L ps) (hlt : ps.length < 16) (hx : x = nI u) (hy : y = nI v) : Pg (pG h P L x y) P L (ps ++ [(u, v, L.length)]) := by
  have hP0 := hP
  obtain ⟨k0, r0, r1, r2, r3, r4, sz, ⟨k1, l1⟩, ⟨k2, l2⟩, ⟨k3, l3⟩, hn, hj, hc, hl, lc, ll, hinj⟩ := hP
  have n01 := p_ne hinj 0 1
  have n02 := p_ne hinj 0 2
  have n03 := p_ne hinj 0 3
  have n12 := p_ne hinj 1 2
  have n13 := p_ne hinj 1 3
  have n23 := p_ne hinj 2 3
  have e0 : (nI ps.length).toNatClampNeg = ps.length := nI_clamp (by omega)
  have hE : ∀ b k, bp_I (pG h P L x y) b k = if b = P 0 ∧ k = 5 then nI (ps.length + 1) else if b = P 3 ∧ k = ps.length then nI L.length else if b = P 2 ∧ k = ps.length then y else if b = P 1 ∧ k = ps.length then x else bp_I h b k := by
    intro b k
    simp only [pG, bp_I_sI, n01, n02, n03, false_and, if_false, sz, e0, List.length_map]
    rw [nI_1]
  refine hP0.par ⟨rfl, rfl, rfl, fun b hb k => ?_⟩ ?_ (by rw [List.length_append]; exact hlt) (fun j hj' => ?_)
  · rw [hE, if_neg (fun z => hb (Or.inl z.1)), if_neg (fun z => hb (Or.inr (Or.inr (Or.inr z.1)))), if_neg (fun z => hb (Or.inr (Or.inr (Or.inl z.1)))), if_neg (fun z => hb (Or.inr (Or.inl z.1)))]
  · rw [hE, if_pos ⟨rfl, rfl⟩, List.length_append]; rfl
  · rw [List.length_append] at hj'
    simp only [hE, Ne.symm n01, Ne.symm n02, Ne.symm n03, n12, n13, n23, Ne.symm n12, Ne.symm n13, Ne.symm n23, false_and, true_and, if_false]
    by_cases e : j = ps.length
    · subst e
      simp [p_a, p_i, p_e, hx, hy]
    · have hlt' : j < ps.length := by simp at hj'; omega
      obtain ⟨a, b, d⟩ := hj j hlt'
      simp only [e, if_false]
      rw [a, b, d]
      simp only [p_a, p_i, p_e, List.getD_eq_getElem?_getD, List.getElem?_append_left hlt']
      exact ⟨trivial, trivial, trivial⟩
theorem Pg.gatF0 {h : bp_H} {P : Nat → Nat} {L : List (Nat × Nat)} {x y : Int32} : bp_Fi (fun b => b = P 0 ∨ b = P 1 ∨ b = P 2 ∨ b = P 3) h (pG h P L x y) :=
  (((bp_Fi.sI (Or.inr (Or.inl rfl))).tr (bp_Fi.sI (Or.inr (Or.inr (Or.inl rfl))))).tr (bp_Fi.sI (Or.inr (Or.inr (Or.inr rfl))))).tr (bp_Fi.sI (Or.inl rfl))
set_option maxRecDepth 100000 in
set_option maxHeartbeats 4000000 in
theorem s_Page_gather {x y : Int32} {u v : Nat} (hx : x = nI u) (hy : y = nI v) (hP : Pg h P L ps) (hlt : ps.length < 16) (hQ : ∀ h', Pg h' P L (ps ++ [(u, v, L.length)]) → bp_Fi (pF P) h h' → Q none h' c s) : bp_AM l G H0 (1, 20, false, false) M_Page_gather h c s [.ref (P 0), .int x, .int y] Q := by
  refine bp_of (ls := [some (.ref (P 0)), some (.int x), some (.int y)]) (by decide) dt_Page_gather (Nat.le_of_ble_eq_true rfl) (fun q hq => hq) false ?_
  obtain ⟨k0, r0, r1, r2, r3, r4, sz, ⟨k1, l1⟩, ⟨k2, l2⟩, ⟨k3, l3⟩, hn, hj, hc, hl, lc, ll, hinj⟩ := id hP
  have n01 := p_ne hinj 0 1
  have n02 := p_ne hinj 0 2
  have hin : vp_in (bp_I h (P 0) 5) (bp_L h (P 1)) := by rw [sz, l1]; exact vp_in_nI hlt (by decide)
  have hin2 : vp_in (bp_I (bp_sI h (P 1) (bp_I h (P 0) 5).toNatClampNeg x) (P 0) 5) (bp_L h (P 2)) := by rw [bp_I_sI, if_neg (fun z => n01 z.1), sz, l2]; exact vp_in_nI hlt (by decide)
  have hin3 : vp_in (bp_I (bp_sI (bp_sI h (P 1) (bp_I h (P 0) 5).toNatClampNeg x) (P 2) (bp_I (bp_sI h (P 1) (bp_I h (P 0) 5).toNatClampNeg x) (P 0) 5).toNatClampNeg y) (P 0) 5) (bp_L h (P 3)) := by rw [bp_I_sI, if_neg (fun z => n02 z.1), bp_I_sI, if_neg (fun z => n01 z.1), sz, l3]; exact vp_in_nI hlt (by decide)
  refine bp_aload_n (q := 1) 0 rfl rfl rfl rfl ?_
  refine bp_callV (q := 4) (ci := 2) 1 rfl rfl cw_Page_isFull lk_Page_61 rfl k0 wd678 wd679 rfl rfl (Nat.le_of_ble_eq_true rfl) ⟨Nat.le_of_ble_eq_true rfl, Nat.le_of_ble_eq_true rfl⟩ (s_Page_isFull (ro := false) hP ?_)
  refine bp_if_eq (q := 7) (tgt := 8) 2 rfl rfl (by decide) (fun z4 => ?_) (fun z4 => ?_)
  · refine bp_aload_n (q := 9) 4 rfl rfl rfl rfl ?_
    refine bp_getR (x := (P 1)) (q := 12) (ci := 2) (j := 0) 5 rfl rfl fl_Page_9_2 k0 rfl r0 ?_
    refine bp_aload_n (q := 13) 6 rfl rfl rfl rfl ?_
    refine bp_getI (q := 16) (ci := 2) (j := 5) 7 rfl rfl fl_Page_33_2 k0 rfl ?_
    refine bp_iload_n (q := 17) 8 rfl rfl rfl rfl ?_
    refine bp_iast (q := 18) 9 rfl rfl k1 hin  ?_
    refine bp_aload_n (q := 19) 10 rfl rfl rfl rfl ?_
    refine bp_getR (x := (P 2)) (q := 22) (ci := 2) (j := 1) 11 rfl rfl fl_Page_15_2 k0 rfl r1 ?_
    refine bp_aload_n (q := 23) 12 rfl rfl rfl rfl ?_
    refine bp_getI (q := 26) (ci := 2) (j := 5) 13 rfl rfl fl_Page_33_2 k0 rfl ?_
    refine bp_iload_n (q := 27) 14 rfl rfl rfl rfl ?_
    refine bp_iast (q := 28) 15 rfl rfl k2 hin2  ?_
    refine bp_aload_n (q := 29) 16 rfl rfl rfl rfl ?_
    refine bp_getR (x := (P 3)) (q := 32) (ci := 2) (j := 2) 17 rfl rfl fl_Page_18_2 k0 rfl r2 ?_
    refine bp_aload_n (q := 33) 18 rfl rfl rfl rfl ?_
    refine bp_getI (q := 36) (ci := 2) (j := 5) 19 rfl rfl fl_Page_33_2 k0 rfl ?_
    refine bp_aload_n (q := 37) 20 rfl rfl rfl rfl ?_
    refine bp_getR (x := (P 4)) (q := 40) (ci := 2) (j := 3) 21 rfl rfl fl_Page_26_2 k0 rfl r3 ?_
    refine bp_callV (q := 43) (ci := 1) 22 rfl rfl cw_Row_size lk_Page_37 rfl hc.1 wd455 wd456 rfl rfl (Nat.le_of_ble_eq_true rfl) ⟨Nat.le_of_ble_eq_true rfl, Nat.le_of_ble_eq_true rfl⟩ (s_Row_size (ro := false) (hc.fi (F := fun b => b = P 1 ∨ b = P 2) ((bp_Fi.sI (Or.inl rfl)).tr (bp_Fi.sI (Or.inr rfl))) (fun z => z.elim (p_ne hinj 4 1) (p_ne hinj 4 2)) (fun z => z.elim (p_ne hinj 5 1) (p_ne hinj 5 2))) ?_)
    refine bp_iast (q := 44) 23 rfl rfl k3 hin3  ?_
    refine bp_aload_n (q := 45) 24 rfl rfl rfl rfl ?_
    refine bp_dup (q := 46) 25 rfl rfl rfl ?_
    refine bp_getI (q := 49) (ci := 2) (j := 5) 26 rfl rfl fl_Page_33_2 k0 rfl ?_
    refine bp_iconst (v := 1) (q := 50) 27 rfl rfl (by decide) ?_
    refine bp_iadd (q := 51) 28 rfl rfl ?_
    refine bp_putI (q := 54) (ci := 2) (j := 5) 29 rfl rfl fl_Page_33_2 cl2 k0 (fun r hr => by cases hr; rfl) (by decide) rfl rfl ?_
    refine bp_vret 30 rfl rfl  ⟨_, rfl, ?_⟩
    exact hQ _ (hP.gat hlt hx hy) (Pg.gatF0.wk (fun b z => pF0 z))
  · exfalso
    exact z4 (by rw [if_neg (by omega)])
end PAGE2
