section PAGE4
variable {l : Launch} {G : bp_G} {H0 : Heap} {h : bp_H} {c s : Nat} {P : Nat → Nat} {L : List (Nat × Nat)} {ps : List (Nat × Nat × Nat)} {Q : Option Value → bp_H → Nat → Nat → Prop}
theorem Pg.ne {h : bp_H} (hP : Pg h P L ps) (i j : Nat) (hi : i < 8 := by decide) (hj : j < 8 := by decide) (hne : i ≠ j := by decide) : P i ≠ P j := p_ne hP.2.2.2.2.2.2.2.2.2.2.2.2.2.2.2.2 i j hi hj hne
theorem Pg.last {h : bp_H} {x y e : Nat} {k : Int32} (hP : Pg h P L (ps ++ [(x, y, e)])) (hk : k = nI ps.length) (v : Nat) : Pg (bp_sI h (P 3) k.toNatClampNeg (nI v)) P L (ps ++ [(x, y, v)]) := by
  have hP0 := hP
  obtain ⟨k0, r0, r1, r2, r3, r4, sz, ⟨k1, l1⟩, ⟨k2, l2⟩, ⟨k3, l3⟩, hn, hj, hc, hl, lc, ll, hinj⟩ := hP
  have hle : ps.length < 16 := by rw [List.length_append] at hn; exact hn
  have hkc : k.toNatClampNeg = ps.length := by rw [hk]; exact nI_clamp (by omega)
  rw [hkc]
  refine hP0.par (bp_Fi.sI (Or.inr (Or.inr (Or.inr rfl)))) ?_ (by rw [List.length_append]; exact hle) (fun j hj' => ?_)
  · rw [bp_I_sI, if_neg (fun z => p_ne hinj 0 3 (by decide) (by decide) (by decide) z.1), sz]; simp
  · have hj2 : j < (ps ++ [(x, y, e)]).length := by simpa using hj'
    obtain ⟨a, b, d⟩ := hj j hj2
    rw [bp_I_sI, if_neg (fun z => p_ne hinj 1 3 (by decide) (by decide) (by decide) z.1), bp_I_sI, if_neg (fun z => p_ne hinj 2 3 (by decide) (by decide) (by decide) z.1), bp_I_sI]
    by_cases ej : j = ps.length
    · subst ej
      rw [if_pos ⟨rfl, rfl⟩, a, b]
      simp [p_a, p_i, p_e]
    · have hlt : j < ps.length := by simp at hj'; omega
      rw [if_neg (fun z => ej z.2), a, b, d]
      simp only [p_a, p_i, p_e, List.getD_eq_getElem?_getD, List.getElem?_append_left hlt]
      exact ⟨trivial, trivial, trivial⟩
set_option maxRecDepth 100000 in
set_option maxHeartbeats 4000000 in
theorem s_Page_putInLast {x1 x2 : Int32} {u v x y e : Nat} (hx : x1 = nI u) (hy : x2 = nI v) (hP : Pg h P L (ps ++ [(x, y, e)])) (hlt : L.length < 400) (hQ : ∀ h', Pg h' P (L ++ [(u, v)]) (ps ++ [(x, y, L.length + 1)]) → bp_Fi (pF P) h h' → Q none h' c s) : bp_AM l G H0 (4, 84, false, false) M_Page_putInLast h c s [.ref (P 0), .int x1, .int x2] Q := by
  refine bp_of (ls := [some (.ref (P 0)), some (.int x1), some (.int x2)]) (by decide) dt_Page_putInLast (Nat.le_of_ble_eq_true rfl) (fun q hq => hq) false ?_
  obtain ⟨k0, r0, r1, r2, r3, r4, sz, ⟨k1, l1⟩, ⟨k2, l2⟩, ⟨k3, l3⟩, hn, hj, hc, hl, lc, ll, hinj⟩ := id hP
  refine bp_aload_n (q := 1) 0 rfl rfl rfl rfl ?_
  refine bp_getR (x := (P 4)) (q := 4) (ci := 2) (j := 3) 1 rfl rfl fl_Page_26_2 k0 rfl r3 ?_
  refine bp_iload_n (q := 5) 2 rfl rfl rfl rfl ?_
  refine bp_callV (q := 8) (ci := 1) 3 rfl rfl cw_Row_put lk_Page_55 rfl hc.1 wd485 wd486 rfl rfl (Nat.le_of_ble_eq_true rfl) ⟨Nat.le_of_ble_eq_true rfl, Nat.le_of_ble_eq_true rfl⟩ (s_Row_put hx hc (by rw [lc, List.length_map]; exact hlt) (fun h1 hc1 f1 => ?_))
  have k0 := (f1.K (P 0)).trans k0
  have r4 := (f1.R (P 0) 4).trans r4
  have hl := hl.fi f1 (fun z => z.elim (p_ne hinj 6 4) (p_ne hinj 6 5)) (fun z => z.elim (p_ne hinj 7 4) (p_ne hinj 7 5))
  refine bp_aload_n (q := 9) 4 rfl rfl rfl rfl ?_
  refine bp_getR (x := (P 6)) (q := 12) (ci := 2) (j := 4) 5 rfl rfl fl_Page_30_2 k0 rfl r4 ?_
  refine bp_iload_n (q := 13) 6 rfl rfl rfl rfl ?_
  refine bp_callV (q := 16) (ci := 1) 7 rfl rfl cw_Row_put lk_Page_55 rfl hl.1 wd485 wd486 rfl rfl (Nat.le_of_ble_eq_true rfl) ⟨Nat.le_of_ble_eq_true rfl, Nat.le_of_ble_eq_true rfl⟩ (s_Row_put hy hl (by rw [f1.L, ll, List.length_map]; exact hlt) (fun h2 hl2 f2 => ?_))
  have hc2 := hc1.fi f2 (fun z => z.elim (p_ne hinj 4 6) (p_ne hinj 4 7)) (fun z => z.elim (p_ne hinj 5 6) (p_ne hinj 5 7))
  have f := (f1.wk (F' := fun b => b = P 4 ∨ b = P 5 ∨ b = P 6 ∨ b = P 7) (fun b z => z.elim Or.inl (fun y => Or.inr (Or.inl y)))).tr (f2.wk (fun b z => z.elim (fun y => Or.inr (Or.inr (Or.inl y))) (fun y => Or.inr (Or.inr (Or.inr y)))))
  have hP2 := hP.rows f (L' := L ++ [(u, v)]) (by rw [List.map_append]; exact hc2) (by rw [List.map_append]; exact hl2)
  clear k0 r4 hl
  obtain ⟨k0, r0, r1, r2, r3, r4, sz, ⟨k1, l1⟩, ⟨k2, l2⟩, ⟨k3, l3⟩, hn, hj, hc, hl, lc, ll, hinj⟩ := id hP2
  have hle : ps.length < 16 := by rw [List.length_append] at hn; exact hn
  have esz : bp_I h2 (P 0) 5 - 1 = nI ps.length := by rw [sz, List.length_append]; exact nI_pred _
  have hin : vp_in (bp_I h2 (P 0) 5 - 1) (bp_L h2 (P 3)) := by rw [esz, l3]; exact vp_in_nI hle (by decide)
  refine bp_aload_n (q := 17) 8 rfl rfl rfl rfl ?_
  refine bp_aload_n (q := 18) 9 rfl rfl rfl rfl ?_
  refine bp_getI (q := 21) (ci := 2) (j := 5) 10 rfl rfl fl_Page_33_2 k0 rfl ?_
  refine bp_iconst (v := 1) (q := 22) 11 rfl rfl (by decide) ?_
  refine bp_isub (q := 23) 12 rfl rfl ?_
  refine bp_callV (q := 26) (ci := 2) 13 rfl rfl cw_Page_has lk_Page_40 rfl k0 wd808 wd809 rfl rfl (Nat.le_of_ble_eq_true rfl) ⟨Nat.le_of_ble_eq_true rfl, Nat.le_of_ble_eq_true rfl⟩ (s_Page_has (ro := false) hP2 ?_)
  refine bp_if_eq (q := 29) (tgt := 47) 14 rfl rfl (by decide) (fun z26 => ?_) (fun z26 => ?_)
  · exfalso
    rw [esz] at z26
    have e1 := if01.mp z26
    rcases e1 with e1 | e1
    · exact nI_pos (by omega) e1
    · exact nI_ge (b := (ps ++ [(x, y, e)]).length) (by simp) (by simp; omega) e1
  · refine bp_aload_n (q := 30) 15 rfl rfl rfl rfl ?_
    refine bp_getR (x := (P 3)) (q := 33) (ci := 2) (j := 2) 16 rfl rfl fl_Page_18_2 k0 rfl r2 ?_
    refine bp_aload_n (q := 34) 17 rfl rfl rfl rfl ?_
    refine bp_getI (q := 37) (ci := 2) (j := 5) 18 rfl rfl fl_Page_33_2 k0 rfl ?_
    refine bp_iconst (v := 1) (q := 38) 19 rfl rfl (by decide) ?_
    refine bp_isub (q := 39) 20 rfl rfl ?_
    refine bp_aload_n (q := 40) 21 rfl rfl rfl rfl ?_
    refine bp_getR (x := (P 4)) (q := 43) (ci := 2) (j := 3) 22 rfl rfl fl_Page_26_2 k0 rfl r3 ?_
    refine bp_callV (q := 46) (ci := 1) 23 rfl rfl cw_Row_size lk_Page_37 rfl hc.1 wd455 wd456 rfl rfl (Nat.le_of_ble_eq_true rfl) ⟨Nat.le_of_ble_eq_true rfl, Nat.le_of_ble_eq_true rfl⟩ (s_Row_size (ro := false) hc ?_)
    refine bp_iast (q := 47) 24 rfl rfl k3 hin  ?_
    refine bp_vret 25 rfl rfl  ⟨_, rfl, ?_⟩
    have e9 : ((L ++ [(u, v)]).map (fun q => q.1)).length = L.length + 1 := by simp
    rw [e9]
    exact hQ _ (hP2.last esz (L.length + 1)) ((f.wk (fun b z => pF4 z)).tr (bp_Fi.sI ⟨3, by decide, rfl⟩))
/-- what the copying of the paragraphs has done so far: i of 16 -/
def cpI (h h1 : bp_H) (P P' : Nat → Nat) (n i : Nat) : Prop := bp_Fi (fun b => b = P 0 ∨ b = P 1 ∨ b = P 2 ∨ b = P 3) h h1 ∧ bp_I h1 (P 0) 5 = nI n ∧ ∀ j, j < i → bp_I h1 (P 1) j = bp_I h (P' 1) j ∧ bp_I h1 (P 2) j = bp_I h (P' 2) j ∧ bp_I h1 (P 3) j = bp_I h (P' 3) j
def cpH (h1 : bp_H) (P P' : Nat → Nat) (k : Nat) : bp_H :=
  let h2 := bp_sI h1 (P 1) k (bp_I h1 (P' 1) k)
  let h3 := bp_sI h2 (P 2) k (bp_I h2 (P' 2) k)
  bp_sI h3 (P 3) k (bp_I h3 (P' 3) k)
theorem cpI.step {h h1 : bp_H} {P P' : Nat → Nat} {n i : Nat} (hinj : ∀ i j, i < 8 → j < 8 → P i = P j → i = j) (hD : ∀ i j, i < 8 → j < 8 → P i ≠ P' j) (I : cpI h h1 P P' n i) : cpI h (cpH h1 P P' i) P P' n (i + 1) := by
  obtain ⟨f, e0, ej⟩ := I
  have o : ∀ a k, a < 8 → bp_I h1 (P' a) k = bp_I h (P' a) k := fun a k ha => f.2.2.2 _ (fun z => by rcases z with z | z | z | z <;> exact hD _ _ (by decide) ha z.symm) k
  have n01 := p_ne hinj 0 1
  have n02 := p_ne hinj 0 2
  have n03 := p_ne hinj 0 3
  have n12 := p_ne hinj 1 2
  have n13 := p_ne hinj 1 3
  have n23 := p_ne hinj 2 3
  have d : ∀ a b, a < 8 → b < 8 → ¬ P' a = P b := fun a b ha hb z => hD b a hb ha z.symm
  have d21 := d 2 1 (by decide) (by decide)
  have d31 := d 3 1 (by decide) (by decide)
  have d32 := d 3 2 (by decide) (by decide)
  refine ⟨f.tr (((bp_Fi.sI (Or.inr (Or.inl rfl))).tr (bp_Fi.sI (Or.inr (Or.inr (Or.inl rfl))))).tr (bp_Fi.sI (Or.inr (Or.inr (Or.inr rfl))))), ?_, fun j hj => ?_⟩
  · simp only [cpH, bp_I_sI, n01, n02, n03, false_and, if_false, e0]
  · simp only [cpH, bp_I_sI, Ne.symm n12, Ne.symm n13, Ne.symm n23, n12, n13, n23, d21, d31, d32, false_and, true_and, if_false, o 1 i (by decide), o 2 i (by decide), o 3 i (by decide)]
    by_cases e : j = i
    · subst e; simp
    · have := ej j (by omega)
      simp [e, this.1, this.2.1, this.2.2]
set_option maxRecDepth 100000 in
set_option maxHeartbeats 4000000 in
theorem lp_Page_copy {P' : Nat → Nat} {L' : List (Nat × Nat)} {ps' : List (Nat × Nat × Nat)} (hP : Pg h P L ps) (hO : Pg h P' L' ps') (hD : ∀ i j, i < 8 → j < 8 → P i ≠ P' j) (hQ : ∀ h', Pg h' P L' ps' → bp_Fi (pF P) h h' → Q none h' c s) :
    ∀ (n i : Nat) (h1 : bp_H), n + i = 16 → cpI h h1 P P' ps'.length i → bp_A l G H0 (5, 106, false, false) M_Page_copy h1 c s 10 [some (.ref (P 0)), some (.ref (P' 0)), some (.int (nI i))] [] (fun o h' c' s' => ∃ v, o = .returned v ∧ Q v h' c' s') := by
  intro n
  induction n with
  | zero =>
    intro i h1 hi I
    have hO := hO.fi I.1 (fun k hk z => by rcases z with z | z | z | z <;> exact hD _ _ (by decide) hk z.symm)
    have hA : Pg h1 P L ps' := by
      refine hP.par I.1 I.2.1 hO.2.2.2.2.2.2.2.2.2.2.1 (fun j hj => ?_)
      obtain ⟨a1, a2, a3⟩ := I.2.2 j (by have := hO.2.2.2.2.2.2.2.2.2.2.1; omega)
      rw [a1, a2, a3]
      obtain ⟨b1, b2, b3⟩ := hO.2.2.2.2.2.2.2.2.2.2.2.1 j hj
      have o : ∀ a k, a < 8 → bp_I h1 (P' a) k = bp_I h (P' a) k := fun a k ha => I.1.2.2.2 _ (fun z => by rcases z with z | z | z | z <;> exact hD _ _ (by decide) ha z.symm) k
      rw [← o 1 j (by decide), ← o 2 j (by decide), ← o 3 j (by decide)]
      exact ⟨b1, b2, b3⟩
    obtain ⟨k0, r0, r1, r2, r3, r4, sz, ⟨k1, l1⟩, ⟨k2, l2⟩, ⟨k3, l3⟩, hn, hj, hc, hl, lc, ll, hinj⟩ := id hA
    obtain ⟨k0', r0', r1', r2', r3', r4', sz', ⟨k1', l1'⟩, ⟨k2', l2'⟩, ⟨k3', l3'⟩, hn', hj', hc', hl', lc', ll', hinj'⟩ := id hO
    refine bp_iload_n (q := 11) 6 rfl rfl rfl rfl ?_
    refine bp_bipush (v := 16) (q := 13) 7 rfl rfl (by decide) ?_
    refine bp_icmp_ge (q := 16) (tgt := 58) 8 rfl rfl (by decide) (fun z13 => ?_) (fun z13 => ?_)
    · refine bp_aload_n (q := 59) 35 rfl rfl rfl rfl ?_
      refine bp_getR (x := (P 4)) (q := 62) (ci := 2) (j := 3) 36 rfl rfl fl_Page_26_2 k0 rfl r3 ?_
      refine bp_aload_n (q := 63) 37 rfl rfl rfl rfl ?_
      refine bp_getR (x := (P' 4)) (q := 66) (ci := 2) (j := 3) 38 rfl rfl fl_Page_26_2 k0' rfl r3' ?_
      refine bp_callV (q := 69) (ci := 1) 39 rfl rfl cw_Row_copy lk_Page_51 rfl hc.1 wd860 wd861 rfl rfl (Nat.le_of_ble_eq_true rfl) ⟨Nat.le_of_ble_eq_true rfl, Nat.le_of_ble_eq_true rfl⟩ (s_Row_copy hc hc' (by rw [lc]; exact Nat.le_trans hc'.2.2.2.2.1 (Nat.le_of_eq lc')) (fun z => hD 4 4 (by decide) (by decide) z.symm) (fun z => hD 5 5 (by decide) (by decide) z.symm) (fun h2 hc2 f2 => ?_))
      have k0 := (f2.K (P 0)).trans k0
      have r4 := (f2.R (P 0) 4).trans r4
      have hl := hl.fi f2 (fun z => z.elim (p_ne hinj 6 4) (p_ne hinj 6 5)) (fun z => z.elim (p_ne hinj 7 4) (p_ne hinj 7 5))
      have k0' := (f2.K (P' 0)).trans k0'
      have r4' := (f2.R (P' 0) 4).trans r4'
      have hl' := hl'.fi f2 (fun z => z.elim (fun y => hD 4 6 (by decide) (by decide) y.symm) (fun y => hD 5 6 (by decide) (by decide) y.symm)) (fun z => z.elim (fun y => hD 4 7 (by decide) (by decide) y.symm) (fun y => hD 5 7 (by decide) (by decide) y.symm))
      refine bp_aload_n (q := 70) 40 rfl rfl rfl rfl ?_
      refine bp_getR (x := (P 6)) (q := 73) (ci := 2) (j := 4) 41 rfl rfl fl_Page_30_2 k0 rfl r4 ?_
      refine bp_aload_n (q := 74) 42 rfl rfl rfl rfl ?_
      refine bp_getR (x := (P' 6)) (q := 77) (ci := 2) (j := 4) 43 rfl rfl fl_Page_30_2 k0' rfl r4' ?_
      refine bp_callV (q := 80) (ci := 1) 44 rfl rfl cw_Row_copy lk_Page_51 rfl hl.1 wd860 wd861 rfl rfl (Nat.le_of_ble_eq_true rfl) ⟨Nat.le_of_ble_eq_true rfl, Nat.le_of_ble_eq_true rfl⟩ (s_Row_copy hl hl' (by rw [f2.L, ll]; exact Nat.le_trans hl'.2.2.2.2.1 (by rw [f2.L, ll']; exact Nat.le_refl _)) (fun z => hD 6 6 (by decide) (by decide) z.symm) (fun z => hD 7 7 (by decide) (by decide) z.symm) (fun h3 hl3 f3 => ?_))
      refine bp_vret 45 rfl rfl  ⟨_, rfl, ?_⟩
      have hc3 := hc2.fi f3 (fun z => z.elim (p_ne hinj 4 6) (p_ne hinj 4 7)) (fun z => z.elim (p_ne hinj 5 6) (p_ne hinj 5 7))
      have f := (f2.wk (F' := fun b => b = P 4 ∨ b = P 5 ∨ b = P 6 ∨ b = P 7) (fun b z => z.elim Or.inl (fun y => Or.inr (Or.inl y)))).tr (f3.wk (fun b z => z.elim (fun y => Or.inr (Or.inr (Or.inl y))) (fun y => Or.inr (Or.inr (Or.inr y)))))
      exact hQ _ (hA.rows f hc3 hl3) ((I.1.wk (fun b z => pF0 z)).tr (f.wk (fun b z => pF4 z)))
    · exact absurd (nI_le (a := 16) (by omega) (by omega)) z13
  | succ n ih =>
    intro i h1 hi I
    have hO := hO.fi I.1 (fun k hk z => by rcases z with z | z | z | z <;> exact hD _ _ (by decide) hk z.symm)
    obtain ⟨k0', r0', r1', r2', r3', r4', sz', ⟨k1', l1'⟩, ⟨k2', l2'⟩, ⟨k3', l3'⟩, hn', hj', hc', hl', lc', ll', hinj'⟩ := id hO
    obtain ⟨k0, r0, r1, r2, r3, r4, -, ⟨k1, l1⟩, ⟨k2, l2⟩, ⟨k3, l3⟩, -, -, -, -, -, -, hinj⟩ := id hP
    have hcl : (nI i).toNatClampNeg = i := nI_clamp (by omega)
    have k0 := (I.1.K _).trans k0
    have r0 := (I.1.R _ _).trans r0
    have r1 := (I.1.R _ _).trans r1
    have r2 := (I.1.R _ _).trans r2
    have k1 := (I.1.K _).trans k1
    have k2 := (I.1.K _).trans k2
    have k3 := (I.1.K _).trans k3
    have l1 := (I.1.L _).trans l1
    have l2 := (I.1.L _).trans l2
    have l3 := (I.1.L _).trans l3
    have hin' : ∀ {a : Nat}, bp_K h1 a = 1 → bp_L h1 a = 16 → vp_in (nI i) (bp_L h1 a) := fun _ e => by rw [e]; exact vp_in_nI (by omega) (by decide)
    refine bp_iload_n (q := 11) 6 rfl rfl rfl rfl ?_
    refine bp_bipush (v := 16) (q := 13) 7 rfl rfl (by decide) ?_
    refine bp_icmp_ge (q := 16) (tgt := 58) 8 rfl rfl (by decide) (fun z13 => ?_) (fun z13 => ?_)
    · exact absurd z13 (nI_ge (b := 16) (by omega) (by decide))
    · refine bp_aload_n (q := 17) 9 rfl rfl rfl rfl ?_
      refine bp_getR (x := (P 1)) (q := 20) (ci := 2) (j := 0) 10 rfl rfl fl_Page_9_2 k0 rfl r0 ?_
      refine bp_iload_n (q := 21) 11 rfl rfl rfl rfl ?_
      refine bp_aload_n (q := 22) 12 rfl rfl rfl rfl ?_
      refine bp_getR (x := (P' 1)) (q := 25) (ci := 2) (j := 0) 13 rfl rfl fl_Page_9_2 k0' rfl r0' ?_
      refine bp_iload_n (q := 26) 14 rfl rfl rfl rfl ?_
      refine bp_iald (q := 27) 15 rfl rfl k1' (hin' k1' l1') ?_
      refine bp_iast (q := 28) 16 rfl rfl k1 (hin' k1 l1)  ?_
      refine bp_aload_n (q := 29) 17 rfl rfl rfl rfl ?_
      refine bp_getR (x := (P 2)) (q := 32) (ci := 2) (j := 1) 18 rfl rfl fl_Page_15_2 k0 rfl r1 ?_
      refine bp_iload_n (q := 33) 19 rfl rfl rfl rfl ?_
      refine bp_aload_n (q := 34) 20 rfl rfl rfl rfl ?_
      refine bp_getR (x := (P' 2)) (q := 37) (ci := 2) (j := 1) 21 rfl rfl fl_Page_15_2 k0' rfl r1' ?_
      refine bp_iload_n (q := 38) 22 rfl rfl rfl rfl ?_
      refine bp_iald (q := 39) 23 rfl rfl k2' (hin' k2' l2') ?_
      refine bp_iast (q := 40) 24 rfl rfl k2 (hin' k2 l2)  ?_
      refine bp_aload_n (q := 41) 25 rfl rfl rfl rfl ?_
      refine bp_getR (x := (P 3)) (q := 44) (ci := 2) (j := 2) 26 rfl rfl fl_Page_18_2 k0 rfl r2 ?_
      refine bp_iload_n (q := 45) 27 rfl rfl rfl rfl ?_
      refine bp_aload_n (q := 46) 28 rfl rfl rfl rfl ?_
      refine bp_getR (x := (P' 3)) (q := 49) (ci := 2) (j := 2) 29 rfl rfl fl_Page_18_2 k0' rfl r2' ?_
      refine bp_iload_n (q := 50) 30 rfl rfl rfl rfl ?_
      refine bp_iald (q := 51) 31 rfl rfl k3' (hin' k3' l3') ?_
      refine bp_iast (q := 52) 32 rfl rfl k3 (hin' k3 l3)  ?_
      refine bp_iinc (v := nI (i + 1)) (q := 55) 33 rfl rfl rfl (nI_1 i) (by decide) (bp_up2 rfl) ?_
      refine bp_goto (tgt := 10) 34 rfl (by decide) ?_
      exact ih (i + 1) _ (by omega) (by have := I.step hinj hD; rw [hcl]; exact this)
set_option maxRecDepth 100000 in
set_option maxHeartbeats 4000000 in
theorem s_Page_copy {P' : Nat → Nat} {L' : List (Nat × Nat)} {ps' : List (Nat × Nat × Nat)} (hP : Pg h P L ps) (hO : Pg h P' L' ps') (hD : ∀ i j, i < 8 → j < 8 → P i ≠ P' j) (hQ : ∀ h', Pg h' P L' ps' → bp_Fi (pF P) h h' → Q none h' c s) : bp_AM l G H0 (5, 106, false, false) M_Page_copy h c s [.ref (P 0), .ref (P' 0)] Q := by
  refine bp_of (ls := [some (.ref (P 0)), some (.ref (P' 0)), none]) (by decide) dt_Page_copy (Nat.le_of_ble_eq_true rfl) (fun q hq => hq) false ?_
  obtain ⟨k0, r0, r1, r2, r3, r4, sz, ⟨k1, l1⟩, ⟨k2, l2⟩, ⟨k3, l3⟩, hn, hj, hc, hl, lc, ll, hinj⟩ := id hP
  obtain ⟨k0', r0', r1', r2', r3', r4', sz', ⟨k1', l1'⟩, ⟨k2', l2'⟩, ⟨k3', l3'⟩, hn', hj', hc', hl', lc', ll', hinj'⟩ := id hO
  refine bp_aload_n (q := 1) 0 rfl rfl rfl rfl ?_
  refine bp_aload_n (q := 2) 1 rfl rfl rfl rfl ?_
  refine bp_getI (q := 5) (ci := 2) (j := 5) 2 rfl rfl fl_Page_33_2 k0' rfl ?_
  refine bp_putI (q := 8) (ci := 2) (j := 5) 3 rfl rfl fl_Page_33_2 cl2 k0 (fun r hr => by cases hr; rfl) (by decide) rfl rfl ?_
  refine bp_iconst (v := 0) (q := 9) 4 rfl rfl (by decide) ?_
  refine bp_istore_n (q := 10) 5 rfl rfl rfl (by decide) (bp_up2 rfl) ?_
  refine lp_Page_copy hP hO hD hQ 16 0 _ rfl ⟨bp_Fi.sI (Or.inl rfl), ?_, fun j hj => absurd hj (Nat.not_lt_zero j)⟩
  rw [bp_I_sI, if_pos ⟨rfl, rfl⟩, sz']
end PAGE4
