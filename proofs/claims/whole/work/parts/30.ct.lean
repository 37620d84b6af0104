/-! the table of colours: its object t, its array ca, the row nr of the name (its array na); tb the colours, nm the name -/
def Ct (mx c0 s0 : Nat) (h : bp_H) (t ca nr na : Nat) (tb nm : List Nat) (c s : Nat) : Prop := bp_K h t = 11 ∧ bp_R h t 0 = some ca ∧ bp_R h t 1 = some nr ∧ bp_I h t 2 = nI tb.length ∧ bp_K h ca = 1 ∧ bp_L h ca = 8 ∧ tb.length ≤ 8 ∧ (∀ j, j < tb.length → bp_I h ca j = nI (tb.getD j 0)) ∧ RG mx c0 s0 h nr na nm c s ∧ ca ≠ na
section CT
variable {l : Launch} {G : bp_G} {H0 : Heap} {h : bp_H} {c s t ca nr na mx c0 s0 : Nat} {tb nm : List Nat} {Q : Option Value → bp_H → Nat → Nat → Prop}
set_option maxRecDepth 100000 in
set_option maxHeartbeats 4000000 in
theorem s_CT_has {ro : Bool} {x : Int32} (hC : Ct mx c0 s0 h t ca nr na tb nm c s) (hQ : Q (some (.int (if x < 0 ∨ nI tb.length ≤ x then 0 else 1))) h c s) : bp_AM l G H0 (0, 0, ro, ro) M_CT_has h c s [.ref t, .int x] Q := by
  refine bp_of (ls := [some (.ref t), some (.int x)]) (by decide) dt_CT_has (Nat.le_of_ble_eq_true rfl) (fun q hq => hq) ro ?_
  refine bp_iload_n (q := 1) 0 rfl rfl rfl rfl ?_
  refine bp_if_lt (q := 4) (tgt := 16) 1 rfl rfl (by decide) (fun z1 => ?_) (fun z1 => ?_)
  · refine bp_iconst (v := 0) (q := 17) 8 rfl rfl (by decide) ?_
    refine bp_iret 9 rfl rfl (by first | rfl | assumption) ⟨_, rfl, ?_⟩
    rw [if_pos (Or.inl z1)] at hQ
    exact hQ
  · refine bp_iload_n (q := 5) 2 rfl rfl rfl rfl ?_
    refine bp_aload_n (q := 6) 3 rfl rfl rfl rfl ?_
    refine bp_getI (q := 9) (ci := 5) (j := 2) 4 rfl rfl fl_CT_24_5 hC.1 rfl ?_
    refine bp_icmp_ge (q := 12) (tgt := 16) 5 rfl rfl (by decide) (fun z9 => ?_) (fun z9 => ?_)
    · refine bp_iconst (v := 0) (q := 17) 8 rfl rfl (by decide) ?_
      refine bp_iret 9 rfl rfl (by first | rfl | assumption) ⟨_, rfl, ?_⟩
      rw [hC.2.2.2.1] at z9
      rw [if_pos (Or.inr z9)] at hQ
      exact hQ
    · refine bp_iconst (v := 1) (q := 13) 6 rfl rfl (by decide) ?_
      refine bp_goto (tgt := 17) 7 rfl (by decide) ?_
      refine bp_iret 9 rfl rfl (by first | rfl | assumption) ⟨_, rfl, ?_⟩
      rw [hC.2.2.2.1] at z9
      rw [if_neg (fun z => z.elim z1 z9)] at hQ
      exact hQ
set_option maxRecDepth 100000 in
set_option maxHeartbeats 4000000 in
theorem s_CT_colourOfEntry {ro : Bool} {k : Nat} (hC : Ct mx c0 s0 h t ca nr na tb nm c s) (hk : k < tb.length) (hQ : Q (some (.int (nI (tb.getD k 0)))) h c s) : bp_AM l G H0 (1, 21, ro, ro) M_CT_colourOfEntry h c s [.ref t, .int (nI k)] Q := by
  refine bp_of (ls := [some (.ref t), some (.int (nI k))]) (by decide) dt_CT_colourOfEntry (Nat.le_of_ble_eq_true rfl) (fun q hq => hq) ro ?_
  refine bp_aload_n (q := 1) 0 rfl rfl rfl rfl ?_
  refine bp_iload_n (q := 2) 1 rfl rfl rfl rfl ?_
  refine bp_callV (q := 5) (ci := 5) 2 rfl rfl cw_CT_has lk_CT_28 rfl hC.1 wd656 wd657 rfl rfl (Nat.le_of_ble_eq_true rfl) ⟨Nat.le_of_ble_eq_true rfl, Nat.le_of_ble_eq_true rfl⟩ (s_CT_has (ro := ro) hC ?_)
  refine bp_if_eq (q := 8) (tgt := 17) 3 rfl rfl (by decide) (fun z5 => ?_) (fun z5 => ?_)
  · exact absurd z5 (by rw [if_neg (fun z => z.elim (nI_pos (by have := hC.2.2.2.2.2.2.1; omega)) (nI_ge hk (by have := hC.2.2.2.2.2.2.1; omega)))]; decide)
  · refine bp_aload_n (q := 9) 4 rfl rfl rfl rfl ?_
    refine bp_getR (x := ca) (q := 12) (ci := 5) (j := 0) 5 rfl rfl fl_CT_11_5 hC.1 rfl hC.2.1 ?_
    refine bp_iload_n (q := 13) 6 rfl rfl rfl rfl ?_
    refine bp_iald (q := 14) 7 rfl rfl hC.2.2.2.2.1 (by rw [hC.2.2.2.2.2.1]; exact vp_in_nI (by have := hC.2.2.2.2.2.2.1; omega) (by decide)) ?_
    refine bp_goto (tgt := 18) 8 rfl (by decide) ?_
    refine bp_iret 10 rfl rfl rfl ⟨_, rfl, ?_⟩
    rw [nI_clamp (by have := hC.2.2.2.2.2.2.1; omega), hC.2.2.2.2.2.2.2.1 k hk]
    exact hQ
theorem RG.fi {h h' : bp_H} {F : Nat → Prop} {r a : Nat} {xs : List Nat} (hG : RG mx c0 s0 h r a xs c s) (f : bp_Fi F h h') (h1 : ¬ F r) (h2 : ¬ F a) : RG mx c0 s0 h' r a xs c s := ⟨hG.1.fi f h1 h2, by rw [f.L]; exact hG.2.1, by rw [f.L]; exact hG.2.2.1, by rw [f.L]; exact hG.2.2.2⟩
theorem Ct.apart (hC : Ct mx c0 s0 h t ca nr na tb nm c s) : t ≠ ca ∧ nr ≠ t ∧ nr ≠ ca ∧ na ≠ t ∧ na ≠ ca := by
  obtain ⟨k1, -, -, -, k2, -, -, -, g, n⟩ := hC
  have k3 := g.1.1
  have k4 := g.1.2.2.2.1
  refine ⟨fun z => ?_, fun z => ?_, fun z => ?_, fun z => ?_, Ne.symm n⟩
  · rw [z, k2] at k1; exact absurd k1 (by decide)
  · rw [z, k1] at k3; exact absurd k3 (by decide)
  · rw [z, k2] at k3; exact absurd k3 (by decide)
  · rw [z, k1] at k4; exact absurd k4 (by decide)
set_option maxRecDepth 100000 in
set_option maxHeartbeats 4000000 in
theorem s_CT_reset  (hC : Ct mx c0 s0 h t ca nr na tb nm c s) (hQ : ∀ h', Ct mx c0 s0 h' t ca nr na [0] nm c s → bp_Fi (fun b => b = t ∨ b = ca) h h' → Q none h' c s) : bp_AM l G H0 (0, 0, false, false) M_CT_reset h c s [.ref t] Q := by
  refine bp_of (ls := [some (.ref t)]) (by decide) dt_CT_reset (Nat.le_of_ble_eq_true rfl) (fun q hq => hq) false ?_
  have ap := hC.apart
  refine bp_aload_n (q := 1) 0 rfl rfl rfl rfl ?_
  refine bp_getR (x := ca) (q := 4) (ci := 5) (j := 0) 1 rfl rfl fl_CT_11_5 hC.1 rfl hC.2.1 ?_
  refine bp_iconst (v := 0) (q := 5) 2 rfl rfl (by decide) ?_
  refine bp_iconst (v := 0) (q := 6) 3 rfl rfl (by decide) ?_
  refine bp_iast (q := 7) 4 rfl rfl hC.2.2.2.2.1 (by rw [hC.2.2.2.2.2.1]; exact vp_in_nI (n := 0) (by decide) (by decide))  ?_
  refine bp_aload_n (q := 8) 5 rfl rfl rfl rfl ?_
  refine bp_iconst (v := 1) (q := 9) 6 rfl rfl (by decide) ?_
  refine bp_putI (q := 12) (ci := 5) (j := 2) 7 rfl rfl fl_CT_24_5 cl5 hC.1 (fun r hr => by cases hr; rfl) (by decide) rfl rfl ?_
  refine bp_vret 8 rfl rfl  ⟨_, rfl, ?_⟩
  have f : bp_Fi (fun b => b = t ∨ b = ca) h (bp_sI (bp_sI h ca 0 0) t 2 1) := (bp_Fi.sI (F := fun b => b = t ∨ b = ca) (Or.inr rfl)).tr (bp_Fi.sI (Or.inl rfl))
  refine hQ _ ⟨hC.1, hC.2.1, hC.2.2.1, by rw [bp_I_sI, if_pos ⟨rfl, rfl⟩]; rfl, hC.2.2.2.2.1, hC.2.2.2.2.2.1, by decide, fun j hj => ?_, hC.2.2.2.2.2.2.2.2.1.fi f (fun z => z.elim ap.2.1 ap.2.2.1) (fun z => z.elim ap.2.2.2.1 ap.2.2.2.2), hC.2.2.2.2.2.2.2.2.2⟩ f
  obtain rfl : j = 0 := by simpa using hj
  rw [bp_I_sI, if_neg (fun z => ap.1 z.1.symm), bp_I_sI, if_pos ⟨rfl, rfl⟩]; rfl
theorem Ct.step {h' : bp_H} {na' c' s' : Nat} {nm' : List Nat} (hC : Ct mx c0 s0 h t ca nr na tb nm c s) (hA : RG mx c0 s0 h' nr na' nm' c' s') (hF : gF nr na h h' na') : Ct mx c0 s0 h' t ca nr na' tb nm' c' s' := by
  have ap := hC.apart
  obtain ⟨k1, r0, r1, sz, k2, l2, hn, hj, g, n⟩ := hC
  obtain ⟨a1, a2, a3, a4, a5⟩ := hF.1 t (by rw [k1]; decide) (fun z => z.elim (Ne.symm ap.2.1) (Ne.symm ap.2.2.2.1))
  obtain ⟨b1, b2, b3, b4, b5⟩ := hF.1 ca (by rw [k2]; decide) (fun z => z.elim (Ne.symm ap.2.2.1) n)
  refine ⟨a1.trans k1, (a5 0).trans r0, (a5 1).trans r1, (a3 2).trans sz, b1.trans k2, b2.trans l2, hn, fun j hj' => (b3 j).trans (hj j hj'), hA, fun z => ?_⟩
  rcases hF.2.2 with y | y
  · exact n (z.trans y)
  · rw [← z, k2] at y; exact absurd y (by decide)
theorem RG.empty {h h' : bp_H} {r a : Nat} {xs : List Nat} (hG : RG mx c0 s0 h r a xs c s) (hR : Rw h' r a []) (f : bp_Fi (fun b => b = r) h h') : RG mx c0 s0 h' r a [] c s ∧ gF r a h h' a := ⟨⟨hR, by rw [f.L]; exact hG.2.1, by rw [f.L]; exact hG.2.2.1, by rw [f.L]; exact hG.2.2.2⟩, gF.fi (f.wk (fun b z => Or.inl z))⟩
set_option maxRecDepth 100000 in
set_option maxHeartbeats 4000000 in
theorem s_CT_spell {x : Int32} {v : Nat} (hx : x = nI v) (hC : Ct mx c0 s0 h t ca nr na tb nm c s) (hm : nm.length < mx) (hmx : mx < 100000) (hQ : ∀ h' na' c' s', Ct mx c0 s0 h' t ca nr na' tb (nm ++ [v]) c' s' → gF nr na h h' na' → Q none h' c' s') : bp_AM l G H0 (4, 84, false, false) M_CT_spell h c s [.ref t, .int x] Q := by
  refine bp_of (ls := [some (.ref t), some (.int x)]) (by decide) dt_CT_spell (Nat.le_of_ble_eq_true rfl) (fun q hq => hq) false ?_
  refine bp_aload_n (q := 1) 0 rfl rfl rfl rfl ?_
  refine bp_getR (x := nr) (q := 4) (ci := 5) (j := 1) 1 rfl rfl fl_CT_20_5 hC.1 rfl hC.2.2.1 ?_
  refine bp_iload_n (q := 5) 2 rfl rfl rfl rfl ?_
  refine bp_callV (q := 8) (ci := 1) 3 rfl rfl cw_Row_put lk_CT_35 rfl hC.2.2.2.2.2.2.2.2.1.1.1 wd485 wd486 rfl rfl (Nat.le_of_ble_eq_true rfl) ⟨Nat.le_of_ble_eq_true rfl, Nat.le_of_ble_eq_true rfl⟩ (s_Row_putg hx hC.2.2.2.2.2.2.2.2.1 hm hmx (fun h1 a1 c1 s1 hA1 hF1 => ?_))
  refine bp_vret 4 rfl rfl  ⟨_, rfl, ?_⟩
  exact hQ _ _ _ _ (hC.step hA1 hF1) hF1
set_option maxRecDepth 100000 in
set_option maxHeartbeats 4000000 in
theorem s_CT_start  (hC : Ct mx c0 s0 h t ca nr na tb nm c s) (hQ : ∀ h', Ct mx c0 s0 h' t ca nr na [] [] c s → bp_Fi (fun b => b = t ∨ b = nr) h h' → Q none h' c s) : bp_AM l G H0 (1, 20, false, false) M_CT_start h c s [.ref t] Q := by
  refine bp_of (ls := [some (.ref t)]) (by decide) dt_CT_start (Nat.le_of_ble_eq_true rfl) (fun q hq => hq) false ?_
  have ap := hC.apart
  refine bp_aload_n (q := 1) 0 rfl rfl rfl rfl ?_
  refine bp_iconst (v := 0) (q := 2) 1 rfl rfl (by decide) ?_
  refine bp_putI (q := 5) (ci := 5) (j := 2) 2 rfl rfl fl_CT_24_5 cl5 hC.1 (fun r hr => by cases hr; rfl) (by decide) rfl rfl ?_
  have f1 : bp_Fi (fun b => b = t) h (bp_sI h t 2 0) := bp_Fi.sI rfl
  have hC1 : Ct mx c0 s0 (bp_sI h t 2 0) t ca nr na [] nm c s := ⟨hC.1, hC.2.1, hC.2.2.1, by rw [bp_I_sI, if_pos ⟨rfl, rfl⟩]; rfl, hC.2.2.2.2.1, hC.2.2.2.2.2.1, by decide, fun j hj => absurd hj (Nat.not_lt_zero j), hC.2.2.2.2.2.2.2.2.1.fi f1 ap.2.1 ap.2.2.2.1, hC.2.2.2.2.2.2.2.2.2⟩
  refine bp_aload_n (q := 6) 3 rfl rfl rfl rfl ?_
  refine bp_getR (x := nr) (q := 9) (ci := 5) (j := 1) 4 rfl rfl fl_CT_20_5 hC.1 rfl hC.2.2.1 ?_
  refine bp_callV (q := 12) (ci := 1) 5 rfl rfl cw_Row_empty lk_CT_32 rfl hC.2.2.2.2.2.2.2.2.1.1.1 wd401 wd402 rfl rfl (Nat.le_of_ble_eq_true rfl) ⟨Nat.le_of_ble_eq_true rfl, Nat.le_of_ble_eq_true rfl⟩ (s_Row_empty hC1.2.2.2.2.2.2.2.2.1.1 (fun h2 hR2 f2 => ?_))
  obtain ⟨hG2, hF2⟩ := hC1.2.2.2.2.2.2.2.2.1.empty hR2 f2
  refine bp_vret 6 rfl rfl  ⟨_, rfl, ?_⟩
  exact hQ _ (hC1.step hG2 hF2) ((f1.wk (F' := fun b => b = t ∨ b = nr) (fun b z => Or.inl z)).tr (f2.wk (fun b z => Or.inr z)))
set_option maxRecDepth 100000 in
set_option maxHeartbeats 4000000 in
theorem s_CT_end  (hC : Ct mx c0 s0 h t ca nr na tb nm c s) (hnm : nm.length < 1000) (hQ : ∀ h', Ct mx c0 s0 h' t ca nr na (if tb = [] then [0] else tb) nm c s → bp_Fi (fun b => b = t ∨ b = ca) h h' → Q (some (.int (bI (decide (nm = []))))) h' c s) : bp_AM l G H0 (1, 20, false, false) M_CT_end h c s [.ref t] Q := by
  refine bp_of (ls := [some (.ref t)]) (by decide) dt_CT_end (Nat.le_of_ble_eq_true rfl) (fun q hq => hq) false ?_
  have htl := hC.2.2.2.2.2.2.1
  refine bp_aload_n (q := 1) 0 rfl rfl rfl rfl ?_
  refine bp_getI (q := 4) (ci := 5) (j := 2) 1 rfl rfl fl_CT_24_5 hC.1 rfl ?_
  refine bp_if_ne (q := 7) (tgt := 11) 2 rfl rfl (by decide) (fun z4 => ?_) (fun z4 => ?_)
  · refine bp_aload_n (q := 12) 5 rfl rfl rfl rfl ?_
    refine bp_getR (x := nr) (q := 15) (ci := 5) (j := 1) 6 rfl rfl fl_CT_20_5 hC.1 rfl hC.2.2.1 ?_
    refine bp_callV (q := 18) (ci := 1) 7 rfl rfl cw_Row_size lk_CT_45 rfl hC.2.2.2.2.2.2.2.2.1.1.1 wd455 wd456 rfl rfl (Nat.le_of_ble_eq_true rfl) ⟨Nat.le_of_ble_eq_true rfl, Nat.le_of_ble_eq_true rfl⟩ (s_Row_size (ro := false) hC.2.2.2.2.2.2.2.2.1.1 ?_)
    refine bp_if_ne (q := 21) (tgt := 25) 8 rfl rfl (by decide) (fun z18 => ?_) (fun z18 => ?_)
    · refine bp_iconst (v := 0) (q := 26) 11 rfl rfl (by decide) ?_
      refine bp_iret 12 rfl rfl (by first | rfl | assumption) ⟨_, rfl, ?_⟩
      have y4 : tb ≠ [] := fun y => z4 (by rw [hC.2.2.2.1, y]; rfl)
      have y18 : nm ≠ [] := fun y => z18 (by rw [y]; rfl)
      have q := hQ h (by rw [if_neg y4]; exact hC) bp_Fi.rf
      rw [decide_eq_false y18] at q
      exact q
    · refine bp_iconst (v := 1) (q := 22) 9 rfl rfl (by decide) ?_
      refine bp_goto (tgt := 26) 10 rfl (by decide) ?_
      refine bp_iret 12 rfl rfl (by first | rfl | assumption) ⟨_, rfl, ?_⟩
      have y4 : tb ≠ [] := fun y => z4 (by rw [hC.2.2.2.1, y]; rfl)
      have y18 : nm = [] := List.eq_nil_of_length_eq_zero ((nI_eq_iff (b := 0) (by omega) (by decide)).mp z18)
      have q := hQ h (by rw [if_neg y4]; exact hC) bp_Fi.rf
      rw [decide_eq_true y18] at q
      exact q
  · refine bp_aload_n (q := 8) 3 rfl rfl rfl rfl ?_
    refine bp_callV (q := 11) (ci := 5) 4 rfl rfl cw_CT_reset lk_CT_42 rfl hC.1 wd434 wd435 rfl rfl (Nat.le_of_ble_eq_true rfl) ⟨Nat.le_of_ble_eq_true rfl, Nat.le_of_ble_eq_true rfl⟩ (s_CT_reset hC (fun h1 hC1 f1 => ?_))
    refine bp_aload_n (q := 12) 5 rfl rfl rfl rfl ?_
    refine bp_getR (x := nr) (q := 15) (ci := 5) (j := 1) 6 rfl rfl fl_CT_20_5 hC1.1 rfl hC1.2.2.1 ?_
    refine bp_callV (q := 18) (ci := 1) 7 rfl rfl cw_Row_size lk_CT_45 rfl hC1.2.2.2.2.2.2.2.2.1.1.1 wd455 wd456 rfl rfl (Nat.le_of_ble_eq_true rfl) ⟨Nat.le_of_ble_eq_true rfl, Nat.le_of_ble_eq_true rfl⟩ (s_Row_size (ro := false) hC1.2.2.2.2.2.2.2.2.1.1 ?_)
    refine bp_if_ne (q := 21) (tgt := 25) 8 rfl rfl (by decide) (fun z18 => ?_) (fun z18 => ?_)
    · refine bp_iconst (v := 0) (q := 26) 11 rfl rfl (by decide) ?_
      refine bp_iret 12 rfl rfl (by first | rfl | assumption) ⟨_, rfl, ?_⟩
      have y4 : tb = [] := List.eq_nil_of_length_eq_zero ((nI_eq_iff (b := 0) (by omega) (by decide)).mp (hC.2.2.2.1.symm.trans z4))
      have y18 : nm ≠ [] := fun y => z18 (by rw [y]; rfl)
      have q := hQ h1 (by rw [if_pos y4]; exact hC1) f1
      rw [decide_eq_false y18] at q
      exact q
    · refine bp_iconst (v := 1) (q := 22) 9 rfl rfl (by decide) ?_
      refine bp_goto (tgt := 26) 10 rfl (by decide) ?_
      refine bp_iret 12 rfl rfl (by first | rfl | assumption) ⟨_, rfl, ?_⟩
      have y4 : tb = [] := List.eq_nil_of_length_eq_zero ((nI_eq_iff (b := 0) (by omega) (by decide)).mp (hC.2.2.2.1.symm.trans z4))
      have y18 : nm = [] := List.eq_nil_of_length_eq_zero ((nI_eq_iff (b := 0) (by omega) (by decide)).mp z18)
      have q := hQ h1 (by rw [if_pos y4]; exact hC1) f1
      rw [decide_eq_true y18] at q
      exact q
def scl (nm : List Nat) : Nat → Nat → Int32
  | 0, _ => -1
  | n + 1, k => if spl nm 0 nm.length (cnT k) then nI k else scl nm n (k + 1)
set_option maxRecDepth 100000 in
set_option maxHeartbeats 4000000 in
theorem lp_CT_spelled {ro : Bool} (hC : Ct mx c0 s0 h t ca nr na tb nm c s) (hnm : nm.length < 1000) (hb : ∀ j, j < nm.length → nm.getD j 0 < 1000000) :
    ∀ (n k : Nat), n + k = 8 → Q (some (.int (scl nm n k))) h c s → bp_A l G H0 (5, 109, ro, ro) M_CT_spelledColour h c s 14 [some (.ref t), some (.int (nI k))] [] (fun o h' c' s' => ∃ v, o = .returned v ∧ Q v h' c' s') := by
  intro n
  induction n with
  | zero =>
    intro k hn hQ
    refine bp_iload_n (q := 15) 8 rfl rfl rfl rfl ?_
    refine bp_bipush (v := 7) (q := 17) 9 rfl rfl (by decide) ?_
    refine bp_icmp_gt (q := 20) (tgt := 50) 10 rfl rfl (by decide) (fun z17 => ?_) (fun z17 => ?_)
    · refine bp_iconst (v := -1) (q := 51) 25 rfl rfl (by decide) ?_
      exact bp_iret 26 rfl rfl rfl ⟨_, rfl, hQ⟩
    · exact absurd (nI_lt (a := 7) (by omega) (by omega)) z17
  | succ n ih =>
    intro k hn hQ
    obtain ⟨tk, hSt, eT, hTl⟩ := cn_S (k := k) (by omega)
    refine bp_iload_n (q := 15) 8 rfl rfl rfl rfl ?_
    refine bp_bipush (v := 7) (q := 17) 9 rfl rfl (by decide) ?_
    refine bp_icmp_gt (q := 20) (tgt := 50) 10 rfl rfl (by decide) (fun z17 => ?_) (fun z17 => ?_)
    · exact absurd z17 (nI_nlt (a := 7) (by omega) (by omega))
    · refine bp_aload_n (q := 21) 11 rfl rfl rfl rfl ?_
      refine bp_getR (x := nr) (q := 24) (ci := 5) (j := 1) 12 rfl rfl fl_CT_20_5 hC.1 rfl hC.2.2.1 ?_
      refine bp_iconst (v := 0) (q := 25) 13 rfl rfl (by decide) ?_
      refine bp_aload_n (q := 26) 14 rfl rfl rfl rfl ?_
      refine bp_getR (x := nr) (q := 29) (ci := 5) (j := 1) 15 rfl rfl fl_CT_20_5 hC.1 rfl hC.2.2.1 ?_
      refine bp_callV (q := 32) (ci := 1) 16 rfl rfl cw_Row_size lk_CT_45 rfl hC.2.2.2.2.2.2.2.2.1.1.1 wd455 wd456 rfl rfl (Nat.le_of_ble_eq_true rfl) ⟨Nat.le_of_ble_eq_true rfl, Nat.le_of_ble_eq_true rfl⟩ (s_Row_size (ro := ro) hC.2.2.2.2.2.2.2.2.1.1 ?_)
      refine bp_iload_n (q := 33) 17 rfl rfl rfl rfl ?_
      refine bp_callS (q := 36) 18 rfl rfl cw_X_colourName lk_CT_47 wd514 rfl rfl (Nat.le_of_ble_eq_true rfl) ⟨Nat.le_of_ble_eq_true rfl, Nat.le_of_ble_eq_true rfl⟩ (s_X_colourName (ro := ro) (k := k) (by omega) ?_)
      refine bp_callV (q := 39) (ci := 1) 19 rfl rfl cw_Row_spells lk_CT_51 rfl hC.2.2.2.2.2.2.2.2.1.1.1 wd525 wd526 rfl rfl (Nat.le_of_ble_eq_true rfl) ⟨Nat.le_of_ble_eq_true rfl, Nat.le_of_ble_eq_true rfl⟩ (s_Row_spells (ro := ro) (u := 0) (v := nm.length) hSt hC.2.2.2.2.2.2.2.2.1.1 hb (by decide) (by omega) ?_)
      refine bp_if_eq (q := 42) (tgt := 44) 20 rfl rfl (by decide) (fun z39 => ?_) (fun z39 => ?_)
      · refine bp_iinc (v := nI (k + 1)) (q := 47) 23 rfl rfl rfl (nI_1 k) (by decide) (bp_up1 rfl) ?_
        refine bp_goto (tgt := 14) 24 rfl (by decide) ?_
        have y := bI0.mp z39
        rw [eT] at y
        rw [scl, y] at hQ
        exact ih (k + 1) (by omega) (by simpa using hQ)
      · refine bp_iload_n (q := 43) 21 rfl rfl rfl rfl ?_
        refine bp_iret 22 rfl rfl rfl ⟨_, rfl, ?_⟩
        have y := bI1 z39
        rw [eT] at y
        rw [scl, y, if_pos rfl] at hQ
        exact hQ
set_option maxRecDepth 100000 in
set_option maxHeartbeats 4000000 in
theorem s_CT_spelled {ro : Bool}  (hC : Ct mx c0 s0 h t ca nr na tb nm c s) (hnm : nm.length < 1000) (hb : ∀ j, j < nm.length → nm.getD j 0 < 1000000) (hQ : Q (some (.int (if nm = [] then 0 else scl nm 8 0))) h c s) : bp_AM l G H0 (5, 109, ro, ro) M_CT_spelledColour h c s [.ref t] Q := by
  refine bp_of (ls := [some (.ref t), none]) (by decide) dt_CT_spelledColour (Nat.le_of_ble_eq_true rfl) (fun q hq => hq) ro ?_
  refine bp_aload_n (q := 1) 0 rfl rfl rfl rfl ?_
  refine bp_getR (x := nr) (q := 4) (ci := 5) (j := 1) 1 rfl rfl fl_CT_20_5 hC.1 rfl hC.2.2.1 ?_
  refine bp_callV (q := 7) (ci := 1) 2 rfl rfl cw_Row_size lk_CT_45 rfl hC.2.2.2.2.2.2.2.2.1.1.1 wd455 wd456 rfl rfl (Nat.le_of_ble_eq_true rfl) ⟨Nat.le_of_ble_eq_true rfl, Nat.le_of_ble_eq_true rfl⟩ (s_Row_size (ro := ro) hC.2.2.2.2.2.2.2.2.1.1 ?_)
  refine bp_if_ne (q := 10) (tgt := 12) 3 rfl rfl (by decide) (fun z7 => ?_) (fun z7 => ?_)
  · refine bp_iconst (v := 0) (q := 13) 6 rfl rfl (by decide) ?_
    refine bp_istore_n (q := 14) 7 rfl rfl rfl (by decide) (bp_up1 rfl) ?_
    rw [if_neg (fun y => z7 (by rw [y]; rfl))] at hQ
    exact lp_CT_spelled hC hnm hb 8 0 rfl hQ
  · refine bp_iconst (v := 0) (q := 11) 4 rfl rfl (by decide) ?_
    refine bp_iret 5 rfl rfl rfl ⟨_, rfl, ?_⟩
    have y : nm = [] := List.eq_nil_of_length_eq_zero ((nI_eq_iff (b := 0) (by omega) (by decide)).mp z7)
    rw [if_pos y] at hQ
    exact hQ
end CT
