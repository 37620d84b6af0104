/-! the same cell in two heaps; a heap that changed at most where F says -/
def bp_sm (h h' : bp_H) (b : Nat) : Prop := bp_K h' b = bp_K h b ∧ bp_L h' b = bp_L h b ∧ (∀ k, bp_I h' b k = bp_I h b k) ∧ (∀ k, bp_J h' b k = bp_J h b k) ∧ ∀ k, bp_R h' b k = bp_R h b k
def bp_Fr (F : Nat → Prop) (h h' : bp_H) : Prop := ∀ b, bp_K h b ≠ 0 → ¬ F b → bp_sm h h' b
theorem bp_Fr.rf {F : Nat → Prop} {h : bp_H} : bp_Fr F h h := fun _ _ _ => ⟨rfl, rfl, fun _ => rfl, fun _ => rfl, fun _ => rfl⟩
theorem bp_Fr.tr {F : Nat → Prop} {h h1 h2 : bp_H} (a : bp_Fr F h h1) (b : bp_Fr F h1 h2) : bp_Fr F h h2 := by
  intro x hx hf
  obtain ⟨a1, a2, a3, a4, a5⟩ := a x hx hf
  obtain ⟨b1, b2, b3, b4, b5⟩ := b x (by rw [a1]; exact hx) hf
  exact ⟨b1.trans a1, b2.trans a2, fun k => (b3 k).trans (a3 k), fun k => (b4 k).trans (a4 k), fun k => (b5 k).trans (a5 k)⟩
theorem bp_Fr.wk {F F' : Nat → Prop} {h h' : bp_H} (a : bp_Fr F h h') (w : ∀ b, F b → F' b) : bp_Fr F' h h' := fun x hx hf => a x hx (fun z => hf (w x z))
theorem bp_Fr.sI {F : Nat → Prop} {h : bp_H} {a k : Nat} {v : Int32} (hF : F a) : bp_Fr F h (bp_sI h a k v) := by
  intro b _ hf
  have hb : b ≠ a := fun z => hf (z ▸ hF)
  exact ⟨rfl, rfl, fun j => by rw [bp_I_sI, if_neg (fun z => hb z.1)], fun _ => rfl, fun _ => rfl⟩
/-! rows: the object r with the array a holds the numbers xs -/
/-- only ints have changed, and only where F says -/
def bp_Fi (F : Nat → Prop) (h h' : bp_H) : Prop := h'.1 = h.1 ∧ h'.2.1 = h.2.1 ∧ h'.2.2.2 = h.2.2.2 ∧ ∀ b, ¬ F b → ∀ k, bp_I h' b k = bp_I h b k
theorem bp_Fi.K {F : Nat → Prop} {h h' : bp_H} (f : bp_Fi F h h') (b : Nat) : bp_K h' b = bp_K h b := by unfold bp_K; rw [f.1]
theorem bp_Fi.L {F : Nat → Prop} {h h' : bp_H} (f : bp_Fi F h h') (b : Nat) : bp_L h' b = bp_L h b := by unfold bp_L; rw [f.2.1]
theorem bp_Fi.J {F : Nat → Prop} {h h' : bp_H} (f : bp_Fi F h h') (b k : Nat) : bp_J h' b k = bp_J h b k := by unfold bp_J; rw [f.2.2.1]
theorem bp_Fi.R {F : Nat → Prop} {h h' : bp_H} (f : bp_Fi F h h') (b k : Nat) : bp_R h' b k = bp_R h b k := by unfold bp_R; rw [f.2.2.1]
theorem bp_Fi.rf {F : Nat → Prop} {h : bp_H} : bp_Fi F h h := ⟨rfl, rfl, rfl, fun _ _ _ => rfl⟩
theorem bp_Fi.tr {F : Nat → Prop} {h h1 h2 : bp_H} (a : bp_Fi F h h1) (b : bp_Fi F h1 h2) : bp_Fi F h h2 := ⟨b.1.trans a.1, b.2.1.trans a.2.1, b.2.2.1.trans a.2.2.1, fun x hf k => (b.2.2.2 x hf k).trans (a.2.2.2 x hf k)⟩
theorem bp_Fi.wk {F F' : Nat → Prop} {h h' : bp_H} (a : bp_Fi F h h') (w : ∀ b, F b → F' b) : bp_Fi F' h h' := ⟨a.1, a.2.1, a.2.2.1, fun x hf => a.2.2.2 x (fun z => hf (w x z))⟩
theorem bp_Fi.sI {F : Nat → Prop} {h : bp_H} {a k : Nat} {v : Int32} (hF : F a) : bp_Fi F h (bp_sI h a k v) := ⟨rfl, rfl, rfl, fun b hf j => by rw [bp_I_sI]; exact if_neg (fun (z : b = a ∧ j = k) => hf (z.1 ▸ hF))⟩
theorem bp_Fi.fr {F : Nat → Prop} {h h' : bp_H} (f : bp_Fi F h h') : bp_Fr F h h' := fun b _ hf => ⟨f.K b, f.L b, f.2.2.2 b hf, fun k => f.J b k, fun k => f.R b k⟩
def Rw (h : bp_H) (r a : Nat) (xs : List Nat) : Prop := bp_K h r = 7 ∧ bp_R h r 0 = some a ∧ bp_I h r 1 = nI xs.length ∧ bp_K h a = 1 ∧ xs.length ≤ bp_L h a ∧ bp_L h a < 1000000 ∧ ∀ j, j < xs.length → bp_I h a j = nI (xs.getD j 0)
theorem Rw.fr {h h' : bp_H} {F : Nat → Prop} {r a : Nat} {xs : List Nat} (hR : Rw h r a xs) (f : bp_Fr F h h') (h1 : ¬ F r) (h2 : ¬ F a) : Rw h' r a xs := by
  obtain ⟨e1, e2, e3, e4, e5, e6, e7⟩ := hR
  obtain ⟨f1, f2, f3, f4, f5⟩ := f r (by rw [e1]; decide) h1
  obtain ⟨g1, g2, g3, g4, g5⟩ := f a (by rw [e4]; decide) h2
  exact ⟨f1.trans e1, (f5 0).trans e2, (f3 1).trans e3, g1.trans e4, by rw [g2]; exact e5, by rw [g2]; exact e6, fun j hj => (g3 j).trans (e7 j hj)⟩
theorem Rw.ne {h : bp_H} {r a : Nat} {xs : List Nat} (hR : Rw h r a xs) : r ≠ a := fun e => by
  have h1 := hR.1
  rw [e, hR.2.2.2.1] at h1
  exact absurd h1 (by decide)
def rg (xs : List Nat) (i : Int32) : Int32 := if i < 0 then -1 else if nI xs.length ≤ i then -1 else nI (xs.getD i.toNatClampNeg 0)
theorem Rw.len {h : bp_H} {r a : Nat} {xs : List Nat} (hR : Rw h r a xs) : xs.length < 1000000 := Nat.lt_of_le_of_lt hR.2.2.2.2.1 hR.2.2.2.2.2.1
theorem Rw.ix {h : bp_H} {r a : Nat} {xs : List Nat} {i : Int32} (hR : Rw h r a xs) (z : ¬ i < 0) (z2 : ¬ bp_I h r 1 ≤ i) : ∃ j, j < xs.length ∧ i = nI j ∧ i.toNatClampNeg = j ∧ vp_in i (bp_L h a) := by
  rw [hR.2.2.1] at z2
  have hl := hR.len
  obtain ⟨j, h1, h2, -, h4, -⟩ := pk_mu z z2 (by omega)
  refine ⟨j, h1, h2, h4, fun q => ?_⟩
  rcases q with q | q
  · exact z q
  · rw [h4] at q
    have := hR.2.2.2.2.1
    omega
section ROW
variable {l : Launch} {G : bp_G} {H0 : Heap} {h : bp_H} {c s r a : Nat} {xs : List Nat} {Q : Option Value → bp_H → Nat → Nat → Prop}
set_option maxRecDepth 100000 in
set_option maxHeartbeats 4000000 in
theorem s_Row_get {ro : Bool} {i : Int32} (hR : Rw h r a xs) (hQ : Q (some (.int (rg xs i))) h c s) : bp_AM l G H0 (0, 0, ro, ro) M_Row_get h c s [.ref r, .int i] Q := by
  refine bp_of (ls := [some (.ref r), some (.int i)]) (by decide) dt_Row_get (Nat.le_of_ble_eq_true rfl) (fun q hq => hq) ro ?_
  refine bp_iload_n (q := 1) 0 rfl rfl rfl rfl ?_
  refine bp_if_lt (q := 4) (tgt := 21) 1 rfl rfl (by decide) (fun z1 => ?_) (fun z1 => ?_)
  · refine bp_iconst (v := -1) (q := 22) 11 rfl rfl (by decide) ?_
    refine bp_iret 12 rfl rfl rfl ⟨_, rfl, ?_⟩
    rw [rg, if_pos z1] at hQ
    exact hQ
  · refine bp_iload_n (q := 5) 2 rfl rfl rfl rfl ?_
    refine bp_aload_n (q := 6) 3 rfl rfl rfl rfl ?_
    refine bp_getI (q := 9) (ci := 1) (j := 1) 4 rfl rfl fl_Row_15_1 hR.1 rfl ?_
    refine bp_icmp_ge (q := 12) (tgt := 21) 5 rfl rfl (by decide) (fun z9 => ?_) (fun z9 => ?_)
    · refine bp_iconst (v := -1) (q := 22) 11 rfl rfl (by decide) ?_
      refine bp_iret 12 rfl rfl rfl ⟨_, rfl, ?_⟩
      rw [rg, if_neg z1, if_pos (hR.2.2.1 ▸ z9)] at hQ
      exact hQ
    · obtain ⟨j, g1, g2, g3, g4⟩ := hR.ix z1 z9
      refine bp_aload_n (q := 13) 6 rfl rfl rfl rfl ?_
      refine bp_getR (x := a) (q := 16) (ci := 1) (j := 0) 7 rfl rfl fl_Row_9_1 hR.1 rfl hR.2.1 ?_
      refine bp_iload_n (q := 17) 8 rfl rfl rfl rfl ?_
      refine bp_iald (q := 18) 9 rfl rfl hR.2.2.2.1 g4 ?_
      refine bp_goto (tgt := 22) 10 rfl (by decide) ?_
      refine bp_iret 12 rfl rfl rfl ⟨_, rfl, ?_⟩
      rw [rg, if_neg z1, if_neg (hR.2.2.1 ▸ z9), g3, ← hR.2.2.2.2.2.2 j g1] at hQ
      rw [g3]
      exact hQ
set_option maxRecDepth 100000 in
set_option maxHeartbeats 4000000 in
theorem s_Row_size {ro : Bool}  (hR : Rw h r a xs) (hQ : Q (some (.int (nI xs.length))) h c s) : bp_AM l G H0 (0, 0, ro, ro) M_Row_size h c s [.ref r] Q := by
  refine bp_of (ls := [some (.ref r)]) (by decide) dt_Row_size (Nat.le_of_ble_eq_true rfl) (fun q hq => hq) ro ?_
  refine bp_aload_n (q := 1) 0 rfl rfl rfl rfl ?_
  refine bp_getI (q := 4) (ci := 1) (j := 1) 1 rfl rfl fl_Row_15_1 hR.1 rfl ?_
  exact bp_iret 2 rfl rfl rfl ⟨_, rfl, by rw [hR.2.2.1]; exact hQ⟩
set_option maxRecDepth 100000 in
set_option maxHeartbeats 4000000 in
theorem s_Row_empty  (hR : Rw h r a xs) (hQ : ∀ h', Rw h' r a [] → bp_Fi (fun b => b = r) h h' → Q none h' c s) : bp_AM l G H0 (0, 0, false, false) M_Row_empty h c s [.ref r] Q := by
  refine bp_of (ls := [some (.ref r)]) (by decide) dt_Row_empty (Nat.le_of_ble_eq_true rfl) (fun q hq => hq) false ?_
  refine bp_aload_n (q := 1) 0 rfl rfl rfl rfl ?_
  refine bp_iconst (v := 0) (q := 2) 1 rfl rfl (by decide) ?_
  refine bp_putI (q := 5) (ci := 1) (j := 1) 2 rfl rfl fl_Row_15_1 cl1 hR.1 (fun r hr => by cases hr; rfl) (by decide) rfl rfl ?_
  exact bp_vret 3 rfl rfl  ⟨_, rfl, hQ _ ⟨hR.1, hR.2.1, by rw [bp_I_sI, if_pos ⟨rfl, rfl⟩]; rfl, hR.2.2.2.1, Nat.zero_le _, hR.2.2.2.2.2.1, fun j hj => absurd hj (Nat.not_lt_zero j)⟩ (bp_Fi.sI rfl)⟩
theorem Rw.sz {h : bp_H} {r a : Nat} {xs : List Nat} (hR : Rw h r a xs) : (bp_I h r 1).toNatClampNeg = xs.length := by
  rw [hR.2.2.1]
  have := hR.len
  exact nI_clamp (by omega)
theorem Rw.push {h : bp_H} {r a v : Nat} {xs : List Nat} (hR : Rw h r a xs) (hlt : xs.length < bp_L h a) : Rw (bp_sI (bp_sI h a (bp_I h r 1).toNatClampNeg (nI v)) r 1 (bp_I (bp_sI h a (bp_I h r 1).toNatClampNeg (nI v)) r 1 + 1)) r a (xs ++ [v]) := by
  have hne := hR.ne
  rw [hR.sz]
  refine ⟨hR.1, hR.2.1, ?_, hR.2.2.2.1, ?_, hR.2.2.2.2.2.1, fun j hj => ?_⟩
  · rw [bp_I_sI, if_pos ⟨rfl, rfl⟩, bp_I_sI, if_neg (fun z => hne z.1), hR.2.2.1, List.length_append]
    exact nI_1 _
  · rw [List.length_append]
    exact hlt
  · rw [bp_I_sI, if_neg (fun z => hne z.1.symm), bp_I_sI]
    rw [List.length_append] at hj
    by_cases e : j = xs.length
    · subst e
      rw [if_pos ⟨rfl, rfl⟩]
      simp
    · rw [if_neg (fun z => e z.2), hR.2.2.2.2.2.2 j (by simp at hj; omega)]
      rw [List.getD_eq_getElem?_getD, List.getD_eq_getElem?_getD, List.getElem?_append_left (by simp at hj; omega)]
theorem Rw.in {h : bp_H} {r a : Nat} {xs : List Nat} (hR : Rw h r a xs) (hlt : xs.length < bp_L h a) : vp_in (bp_I h r 1) (bp_L h a) := by
  rw [hR.2.2.1]
  have := hR.2.2.2.2.2.1
  exact vp_in_nI hlt (by omega)
set_option maxRecDepth 100000 in
set_option maxHeartbeats 4000000 in
theorem s_Row_put {x : Int32} {v : Nat} (hx : x = nI v) (hR : Rw h r a xs) (hlt : xs.length < bp_L h a) (hQ : ∀ h', Rw h' r a (xs ++ [v]) → bp_Fi (fun b => b = r ∨ b = a) h h' → Q none h' c s) : bp_AM l G H0 (3, 63, false, false) M_Row_put h c s [.ref r, .int x] Q := by
  refine bp_of (ls := [some (.ref r), some (.int x)]) (by decide) dt_Row_put (Nat.le_of_ble_eq_true rfl) (fun q hq => hq) false ?_
  subst hx
  refine bp_aload_n (q := 1) 0 rfl rfl rfl rfl ?_
  refine bp_getI (q := 4) (ci := 1) (j := 1) 1 rfl rfl fl_Row_15_1 hR.1 rfl ?_
  refine bp_aload_n (q := 5) 2 rfl rfl rfl rfl ?_
  refine bp_getR (x := a) (q := 8) (ci := 1) (j := 0) 3 rfl rfl fl_Row_9_1 hR.1 rfl hR.2.1 ?_
  refine bp_alen (q := 9) 4 rfl rfl (Or.inl hR.2.2.2.1) rfl ?_
  refine bp_icmp_ne (q := 12) (tgt := 31) 5 rfl rfl (by decide) (fun z9 => ?_) (fun z9 => ?_)
  · refine bp_aload_n (q := 32) 17 rfl rfl rfl rfl ?_
    refine bp_getR (x := a) (q := 35) (ci := 1) (j := 0) 18 rfl rfl fl_Row_9_1 hR.1 rfl hR.2.1 ?_
    refine bp_aload_n (q := 36) 19 rfl rfl rfl rfl ?_
    refine bp_getI (q := 39) (ci := 1) (j := 1) 20 rfl rfl fl_Row_15_1 hR.1 rfl ?_
    refine bp_iload_n (q := 40) 21 rfl rfl rfl rfl ?_
    refine bp_iast (q := 41) 22 rfl rfl hR.2.2.2.1 (hR.in hlt)  ?_
    refine bp_aload_n (q := 42) 23 rfl rfl rfl rfl ?_
    refine bp_dup (q := 43) 24 rfl rfl rfl ?_
    refine bp_getI (q := 46) (ci := 1) (j := 1) 25 rfl rfl fl_Row_15_1 hR.1 rfl ?_
    refine bp_iconst (v := 1) (q := 47) 26 rfl rfl (by decide) ?_
    refine bp_iadd (q := 48) 27 rfl rfl ?_
    refine bp_putI (q := 51) (ci := 1) (j := 1) 28 rfl rfl fl_Row_15_1 cl1 hR.1 (fun r hr => by cases hr; rfl) (by decide) rfl rfl ?_
    exact bp_vret 29 rfl rfl  ⟨_, rfl, hQ _ (hR.push hlt) ((bp_Fi.sI (Or.inr rfl)).tr (bp_Fi.sI (Or.inl rfl)))⟩
  · exfalso
    rw [hR.2.2.1] at z9
    have e0 : nI xs.length = nI (bp_L h a) := z9
    have := (nI_eq (by have := hR.len; omega) (by have := hR.2.2.2.2.2.1; omega)).mp e0
    omega
theorem Rw.fi {h h' : bp_H} {F : Nat → Prop} {r a : Nat} {xs : List Nat} (hR : Rw h r a xs) (f : bp_Fi F h h') (h1 : ¬ F r) (h2 : ¬ F a) : Rw h' r a xs := hR.fr f.fr h1 h2
theorem nI_lt_iff {a b : Nat} (ha : a < 1000000) (hb : b < 1000000) : nI a < nI b ↔ a < b := nI_ltI (by omega) (by omega)
theorem nI_le_iff {a b : Nat} (ha : a < 1000000) (hb : b < 1000000) : nI a ≤ nI b ↔ a ≤ b := nI_leI (by omega) (by omega)
theorem nI_eq_iff {a b : Nat} (ha : a < 1000000) (hb : b < 1000000) : nI a = nI b ↔ a = b := nI_eq (by omega) (by omega)
set_option maxRecDepth 100000 in
set_option maxHeartbeats 4000000 in
theorem lp_Row_copy {r2 a2 : Nat} {ys : List Nat} (hO : Rw h r2 a2 ys) (hc : ys.length ≤ bp_L h a) (n1 : r2 ≠ r) (n2 : a2 ≠ a) (hQ : ∀ h', Rw h' r a ys → bp_Fi (fun b => b = r ∨ b = a) h h' → Q none h' c s) :
    ∀ (n i : Nat) (h1 : bp_H), n + i = ys.length → Rw h1 r a (ys.take i) → bp_Fi (fun b => b = r ∨ b = a) h h1 → bp_A l G H0 (4, 84, false, false) M_Row_copy h1 c s 7 [some (.ref r), some (.ref r2), some (.int (nI i))] [] (fun o h' c' s' => ∃ v, o = .returned v ∧ Q v h' c' s') := by
  intro n
  induction n with
  | zero =>
    intro i h1 hi hA hF
    have hO1 : Rw h1 r2 a2 ys := hO.fi hF (fun z => z.elim n1 (fun e => by have := hO.1; rw [e, ← hF.K, hA.2.2.2.1] at this; exact absurd this (by decide))) (fun z => z.elim (fun e => by have := hO.2.2.2.1; rw [e, ← hF.K, hA.1] at this; exact absurd this (by decide)) n2)
    have hl := hO.len
    refine bp_iload_n (q := 8) 5 rfl rfl rfl rfl ?_
    refine bp_aload_n (q := 9) 6 rfl rfl rfl rfl ?_
    refine bp_getI (q := 12) (ci := 1) (j := 1) 7 rfl rfl fl_Row_15_1 hO1.1 rfl ?_
    refine bp_icmp_ge (q := 15) (tgt := 31) 8 rfl rfl (by decide) (fun z12 => ?_) (fun z12 => ?_)
    · exact bp_vret 17 rfl rfl  ⟨_, rfl, hQ h1 (by rw [List.take_of_length_le (by omega)] at hA; exact hA) hF⟩
    · exfalso
      rw [hO1.2.2.1] at z12
      exact z12 ((nI_le_iff (by omega) (by omega)).mpr (by omega))
  | succ n ih =>
    intro i h1 hi hA hF
    have hO1 : Rw h1 r2 a2 ys := hO.fi hF (fun z => z.elim n1 (fun e => by have := hO.1; rw [e, ← hF.K, hA.2.2.2.1] at this; exact absurd this (by decide))) (fun z => z.elim (fun e => by have := hO.2.2.2.1; rw [e, ← hF.K, hA.1] at this; exact absurd this (by decide)) n2)
    have hl := hO.len
    have hcl : (nI i).toNatClampNeg = i := nI_clamp (by omega)
    have hin : vp_in (nI i) (bp_L h1 a2) := vp_in_nI (by have := hO1.2.2.2.2.1; omega) (by have := hO1.2.2.2.2.2.1; omega)
    have hv : bp_I h1 a2 (nI i).toNatClampNeg = nI (ys.getD i 0) := by rw [hcl]; exact hO1.2.2.2.2.2.2 i (by omega)
    have hlt : (ys.take i).length < bp_L h1 a := by rw [hF.L, List.length_take]; omega
    have htk : ys.take i ++ [ys.getD i 0] = ys.take (i + 1) := by
      rw [List.take_succ, List.getD_eq_getElem?_getD, List.getElem?_eq_getElem (by omega : i < ys.length)]
      rfl
    refine bp_iload_n (q := 8) 5 rfl rfl rfl rfl ?_
    refine bp_aload_n (q := 9) 6 rfl rfl rfl rfl ?_
    refine bp_getI (q := 12) (ci := 1) (j := 1) 7 rfl rfl fl_Row_15_1 hO1.1 rfl ?_
    refine bp_icmp_ge (q := 15) (tgt := 31) 8 rfl rfl (by decide) (fun z12 => ?_) (fun z12 => ?_)
    · exfalso
      rw [hO1.2.2.1] at z12
      have := (nI_le_iff (by omega) (by omega)).mp z12
      omega
    · refine bp_aload_n (q := 16) 9 rfl rfl rfl rfl ?_
      refine bp_aload_n (q := 17) 10 rfl rfl rfl rfl ?_
      refine bp_getR (x := a2) (q := 20) (ci := 1) (j := 0) 11 rfl rfl fl_Row_9_1 hO1.1 rfl hO1.2.1 ?_
      refine bp_iload_n (q := 21) 12 rfl rfl rfl rfl ?_
      refine bp_iald (q := 22) 13 rfl rfl hO1.2.2.2.1 hin ?_
      refine bp_callV (q := 25) (ci := 1) 14 rfl rfl cw_Row_put lk_Row_35 rfl hA.1 wd485 wd486 rfl rfl (Nat.le_of_ble_eq_true rfl) ⟨Nat.le_of_ble_eq_true rfl, Nat.le_of_ble_eq_true rfl⟩ (s_Row_put (v := ys.getD i 0) hv hA hlt (fun h2 hA2 hF2 => ?_))
      refine bp_iinc (v := nI (i + 1)) (q := 28) 15 rfl rfl rfl (nI_1 i) (by decide) (bp_up2 rfl) ?_
      refine bp_goto (tgt := 7) 16 rfl (by decide) ?_
      exact ih (i + 1) h2 (by omega) (by rw [← htk]; exact hA2) (hF.tr hF2)
set_option maxRecDepth 100000 in
set_option maxHeartbeats 4000000 in
theorem s_Row_copy {r2 a2 : Nat} {ys : List Nat} (hR : Rw h r a xs) (hO : Rw h r2 a2 ys) (hc : ys.length ≤ bp_L h a) (n1 : r2 ≠ r) (n2 : a2 ≠ a) (hQ : ∀ h', Rw h' r a ys → bp_Fi (fun b => b = r ∨ b = a) h h' → Q none h' c s) : bp_AM l G H0 (4, 84, false, false) M_Row_copy h c s [.ref r, .ref r2] Q := by
  refine bp_of (ls := [some (.ref r), some (.ref r2), none]) (by decide) dt_Row_copy (Nat.le_of_ble_eq_true rfl) (fun q hq => hq) false ?_
  refine bp_aload_n (q := 1) 0 rfl rfl rfl rfl ?_
  refine bp_iconst (v := 0) (q := 2) 1 rfl rfl (by decide) ?_
  refine bp_putI (q := 5) (ci := 1) (j := 1) 2 rfl rfl fl_Row_15_1 cl1 hR.1 (fun r hr => by cases hr; rfl) (by decide) rfl rfl ?_
  refine bp_iconst (v := 0) (q := 6) 3 rfl rfl (by decide) ?_
  refine bp_istore_n (q := 7) 4 rfl rfl rfl (by decide) (bp_up2 rfl) ?_
  exact lp_Row_copy hO hc n1 n2 hQ ys.length 0 _ rfl ⟨hR.1, hR.2.1, by rw [bp_I_sI, if_pos ⟨rfl, rfl⟩]; rfl, hR.2.2.2.1, by simp, hR.2.2.2.2.2.1, fun j hj => absurd hj (by simp)⟩ (bp_Fi.sI (Or.inl rfl))
end ROW
