/-! the table takes an entry -/
def sco (nm : List Nat) : Nat → Nat → Option Nat
  | 0, _ => none
  | n + 1, k => if spl nm 0 nm.length (cnT k) then some k else sco nm n (k + 1)
theorem scl_eq (nm : List Nat) : ∀ n k, (sco nm n k = none ∧ scl nm n k = -1) ∨ ∃ j, k ≤ j ∧ j < k + n ∧ sco nm n k = some j ∧ scl nm n k = nI j
  | 0, k => Or.inl ⟨rfl, rfl⟩
  | n + 1, k => by
    unfold sco scl
    by_cases h : spl nm 0 nm.length (cnT k) = true
    · rw [if_pos h, if_pos h]
      exact Or.inr ⟨k, by omega, by omega, rfl, rfl⟩
    · rw [if_neg h, if_neg h]
      rcases scl_eq nm n (k + 1) with e | ⟨j, h1, h2, h3⟩
      · exact Or.inl e
      · exact Or.inr ⟨j, by omega, by omega, h3⟩
/-- the entry that a name makes -/
def enC (tb nm : List Nat) : Option Nat := if tb = [] then some 0 else if nm = [] then some 0 else sco nm 8 0
theorem enC_lt {tb nm : List Nat} {k : Nat} (h : enC tb nm = some k) : k < 8 := by
  unfold enC at h
  split at h
  · cases h; decide
  · split at h
    · cases h; decide
    · rcases scl_eq nm 8 0 with e | ⟨j, h1, h2, h3, -⟩
      · rw [e.1] at h; cases h
      · rw [h3] at h; cases h; omega
theorem nI_m1 {k : Nat} (h : k < 1000000) : ¬ nI k = -1 := fun z => by
  have : (nI k).toInt = -1 := by rw [z]; rfl
  rw [nI_toInt (by omega)] at this
  omega
section CT2
variable {l : Launch} {G : bp_G} {H0 : Heap} {h : bp_H} {c s t ca nr na mx c0 s0 : Nat} {tb nm : List Nat} {Q : Option Value → bp_H → Nat → Nat → Prop}
theorem Ct.push {k : Nat} (hC : Ct mx c0 s0 h t ca nr na tb nm c s) (hlt : tb.length < 8) : Ct mx c0 s0 (bp_sI (bp_sI h ca tb.length (nI k)) t 2 (nI (tb.length + 1))) t ca nr na (tb ++ [k]) nm c s ∧ bp_Fi (fun b => b = t ∨ b = ca) h (bp_sI (bp_sI h ca tb.length (nI k)) t 2 (nI (tb.length + 1))) := by
  have ap := hC.apart
  have f : bp_Fi (fun b => b = t ∨ b = ca) h (bp_sI (bp_sI h ca tb.length (nI k)) t 2 (nI (tb.length + 1))) := (bp_Fi.sI (F := fun b => b = t ∨ b = ca) (Or.inr rfl)).tr (bp_Fi.sI (Or.inl rfl))
  refine ⟨⟨hC.1, hC.2.1, hC.2.2.1, ?_, hC.2.2.2.2.1, hC.2.2.2.2.2.1, by rw [List.length_append]; exact hlt, fun j hj => ?_, hC.2.2.2.2.2.2.2.2.1.fi f (fun z => z.elim ap.2.1 ap.2.2.1) (fun z => z.elim ap.2.2.2.1 ap.2.2.2.2), hC.2.2.2.2.2.2.2.2.2⟩, f⟩
  · rw [bp_I_sI, if_pos ⟨rfl, rfl⟩, List.length_append]; rfl
  · rw [bp_I_sI, if_neg (fun z => ap.1 z.1.symm), bp_I_sI]
    rw [List.length_append] at hj
    by_cases e : j = tb.length
    · subst e
      rw [if_pos ⟨rfl, rfl⟩]
      simp
    · rw [if_neg (fun z => e z.2), hC.2.2.2.2.2.2.2.1 j (by simp at hj; omega)]
      rw [List.getD_eq_getElem?_getD, List.getD_eq_getElem?_getD, List.getElem?_append_left (by simp at hj; omega)]
set_option maxRecDepth 100000 in
set_option maxHeartbeats 4000000 in
theorem tl_CT_enter {x : Int32} (hC : Ct mx c0 s0 h t ca nr na tb nm c s) (hx : (x = -1 ∧ enC tb nm = none) ∨ ∃ k, k < 8 ∧ x = nI k ∧ enC tb nm = some k) (hQ1 : ∀ k, enC tb nm = some k → tb.length < 8 → ∀ h', Ct mx c0 s0 h' t ca nr na (tb ++ [k]) [] c s → bp_Fi (fun b => b = t ∨ b = ca ∨ b = nr) h h' → Q (some (.int 1)) h' c s) (hQ0 : (enC tb nm = none ∨ 8 ≤ tb.length) → Q (some (.int 0)) h c s) : bp_A l G H0 (6, 130, false, false) M_CT_enter h c s 15 [some (.ref t), none] [.int x] (fun o h' c' s' => ∃ v, o = .returned v ∧ Q v h' c' s') := by
  have ap := hC.apart
  refine bp_istore_n (q := 16) 7 rfl rfl rfl (by decide) (bp_up1 rfl) ?_
  refine bp_iload_n (q := 17) 8 rfl rfl rfl rfl ?_
  refine bp_iconst (v := -1) (q := 18) 9 rfl rfl (by decide) ?_
  refine bp_icmp_eq (q := 21) (tgt := 30) 10 rfl rfl (by decide) (fun z18 => ?_) (fun z18 => ?_)
  · refine bp_iconst (v := 0) (q := 31) 15 rfl rfl (by decide) ?_
    refine bp_iret 16 rfl rfl (by first | rfl | assumption) ⟨_, rfl, hQ0 (Or.inl ?_)⟩
    rcases hx with y | ⟨k, hk, y, -⟩
    · exact y.2
    · exact absurd (y.symm.trans z18) (nI_m1 (by omega))
  · refine bp_aload_n (q := 22) 11 rfl rfl rfl rfl ?_
    refine bp_getI (q := 25) (ci := 5) (j := 2) 12 rfl rfl fl_CT_24_5 hC.1 rfl ?_
    refine bp_bipush (v := 8) (q := 27) 13 rfl rfl (by decide) ?_
    refine bp_icmp_lt (q := 30) (tgt := 32) 14 rfl rfl (by decide) (fun z27 => ?_) (fun z27 => ?_)
    · refine bp_aload_n (q := 33) 17 rfl rfl rfl rfl ?_
      have hlt : tb.length < 8 := (nI_lt_iff (b := 8) (by have := hC.2.2.2.2.2.2.1; omega) (by decide)).mp (hC.2.2.2.1 ▸ z27)
      obtain ⟨k, hk, hxk, hek⟩ := hx.resolve_left (fun y => z18 y.1)
      subst hxk
      refine bp_getR (x := ca) (q := 36) (ci := 5) (j := 0) 18 rfl rfl fl_CT_11_5 hC.1 rfl hC.2.1 ?_
      refine bp_aload_n (q := 37) 19 rfl rfl rfl rfl ?_
      refine bp_getI (q := 40) (ci := 5) (j := 2) 20 rfl rfl fl_CT_24_5 hC.1 rfl ?_
      refine bp_iload_n (q := 41) 21 rfl rfl rfl rfl ?_
      refine bp_iast (q := 42) 22 rfl rfl hC.2.2.2.2.1 (by rw [hC.2.2.2.1, hC.2.2.2.2.2.1]; exact vp_in_nI hlt (by decide))  ?_
      rw [hC.2.2.2.1, nI_clamp (by omega)]
      refine bp_aload_n (q := 43) 23 rfl rfl rfl rfl ?_
      refine bp_dup (q := 44) 24 rfl rfl rfl ?_
      refine bp_getI (q := 47) (ci := 5) (j := 2) 25 rfl rfl fl_CT_24_5 hC.1 rfl ?_
      refine bp_iconst (v := 1) (q := 48) 26 rfl rfl (by decide) ?_
      refine bp_iadd (q := 49) 27 rfl rfl ?_
      rw [bp_I_sI, if_neg (fun z => ap.1 z.1), hC.2.2.2.1, nI_1]
      refine bp_putI (q := 52) (ci := 5) (j := 2) 28 rfl rfl fl_CT_24_5 cl5 hC.1 (fun r hr => by cases hr; rfl) (by decide) rfl rfl ?_
      obtain ⟨hC1, f1⟩ := hC.push (k := k) hlt
      refine bp_aload_n (q := 53) 29 rfl rfl rfl rfl ?_
      refine bp_getR (x := nr) (q := 56) (ci := 5) (j := 1) 30 rfl rfl fl_CT_20_5 hC.1 rfl hC1.2.2.1 ?_
      refine bp_callV (q := 59) (ci := 1) 31 rfl rfl cw_Row_empty lk_CT_32 rfl hC1.2.2.2.2.2.2.2.2.1.1.1 wd401 wd402 rfl rfl (Nat.le_of_ble_eq_true rfl) ⟨Nat.le_of_ble_eq_true rfl, Nat.le_of_ble_eq_true rfl⟩ (s_Row_empty hC1.2.2.2.2.2.2.2.2.1.1 (fun h2 hR2 f2 => ?_))
      obtain ⟨hG2, hF2⟩ := hC1.2.2.2.2.2.2.2.2.1.empty hR2 f2
      refine bp_iconst (v := 1) (q := 60) 32 rfl rfl (by decide) ?_
      exact bp_iret 33 rfl rfl (by first | rfl | assumption) ⟨_, rfl, hQ1 k hek hlt _ (hC1.step hG2 hF2) ((f1.wk (F' := fun b => b = t ∨ b = ca ∨ b = nr) (fun b z => z.elim Or.inl (fun y => Or.inr (Or.inl y)))).tr (f2.wk (fun b z => Or.inr (Or.inr z))))⟩
    · refine bp_iconst (v := 0) (q := 31) 15 rfl rfl (by decide) ?_
      refine bp_iret 16 rfl rfl (by first | rfl | assumption) ⟨_, rfl, hQ0 (Or.inr ?_)⟩
      have := mt (nI_lt_iff (a := tb.length) (b := 8) (by have := hC.2.2.2.2.2.2.1; omega) (by decide)).mpr (fun y => z27 (by rw [hC.2.2.2.1]; exact y))
      omega
set_option maxRecDepth 100000 in
set_option maxHeartbeats 4000000 in
theorem s_CT_enter (hC : Ct mx c0 s0 h t ca nr na tb nm c s) (hnm : nm.length < 1000) (hb : ∀ j, j < nm.length → nm.getD j 0 < 1000000) (hQ1 : ∀ k, enC tb nm = some k → tb.length < 8 → ∀ h', Ct mx c0 s0 h' t ca nr na (tb ++ [k]) [] c s → bp_Fi (fun b => b = t ∨ b = ca ∨ b = nr) h h' → Q (some (.int 1)) h' c s) (hQ0 : (enC tb nm = none ∨ 8 ≤ tb.length) → Q (some (.int 0)) h c s) : bp_AM l G H0 (6, 130, false, false) M_CT_enter h c s [.ref t] Q := by
  refine bp_of (ls := [some (.ref t), none]) (by decide) dt_CT_enter (Nat.le_of_ble_eq_true rfl) (fun q hq => hq) false ?_
  have htl := hC.2.2.2.2.2.2.1
  refine bp_aload_n (q := 1) 0 rfl rfl rfl rfl ?_
  refine bp_getI (q := 4) (ci := 5) (j := 2) 1 rfl rfl fl_CT_24_5 hC.1 rfl ?_
  refine bp_if_ne (q := 7) (tgt := 11) 2 rfl rfl (by decide) (fun z4 => ?_) (fun z4 => ?_)
  · refine bp_aload_n (q := 12) 5 rfl rfl rfl rfl ?_
    refine bp_callV (q := 15) (ci := 5) 6 rfl rfl cw_CT_spelledColour lk_CT_38 rfl hC.1 wd510 wd2 rfl rfl (Nat.le_of_ble_eq_true rfl) ⟨Nat.le_of_ble_eq_true rfl, Nat.le_of_ble_eq_true rfl⟩ (s_CT_spelled (ro := false) hC hnm hb ?_)
    have y4 : tb ≠ [] := fun y => z4 (by rw [hC.2.2.2.1, y]; rfl)
    refine tl_CT_enter hC ?_ hQ1 hQ0
    by_cases y : nm = []
    · rw [if_pos y]; exact Or.inr ⟨0, by decide, rfl, by rw [enC, if_neg y4, if_pos y]⟩
    · rw [if_neg y, enC, if_neg y4, if_neg y]
      rcases scl_eq nm 8 0 with e | ⟨j, h1, h2, h3, h4⟩
      · exact Or.inl ⟨e.2, e.1⟩
      · exact Or.inr ⟨j, by omega, h4, h3⟩
  · refine bp_iconst (v := 0) (q := 8) 3 rfl rfl (by decide) ?_
    refine bp_goto (tgt := 15) 4 rfl (by decide) ?_
    have y4 : tb = [] := List.eq_nil_of_length_eq_zero ((nI_eq_iff (b := 0) (by omega) (by decide)).mp (hC.2.2.2.1.symm.trans z4))
    exact tl_CT_enter hC (Or.inr ⟨0, by decide, rfl, if_pos y4⟩) hQ1 hQ0
end CT2
