/-! the start of a braced page; a frame that lets the entries change too -/
def gE (r a e : Nat) (h h' : bp_H) (a' : Nat) : Prop := bp_Fr (fun b => b = r ∨ b = a ∨ b = e) h h' ∧ (∀ b, bp_K h b ≠ 0 → bp_K h' b = bp_K h b) ∧ (a' = a ∨ bp_K h a' = 0)
theorem gE.of {r a a' e : Nat} {h h' : bp_H} (f : gF r a h h' a') : gE r a e h h' a' := ⟨f.1.wk (fun b z => z.elim Or.inl (fun y => Or.inr (Or.inl y))), f.2⟩
theorem gE.fi {r a e : Nat} {h h' : bp_H} (f : bp_Fi (fun b => b = e) h h') : gE r a e h h' a := ⟨(f.wk (F' := fun b => b = r ∨ b = a ∨ b = e) (fun b z => Or.inr (Or.inr z))).fr, fun b _ => f.K b, Or.inl rfl⟩
theorem gE.tr {r a a1 a2 e : Nat} {h h1 h2 : bp_H} (f : gE r a e h h1 a1) (g : gE r a1 e h1 h2 a2) : gE r a e h h2 a2 := by
  refine ⟨fun b hb hf => ?_, fun b hb => (g.2.1 b (by rw [f.2.1 b hb]; exact hb)).trans (f.2.1 b hb), ?_⟩
  · obtain ⟨e1, e2, e3, e4, e5⟩ := f.1 b hb hf
    obtain ⟨g1, g2, g3, g4, g5⟩ := g.1 b (by rw [e1]; exact hb) (fun z => by
      rcases z with z | z | z
      · exact hf (Or.inl z)
      · rcases f.2.2 with y | y
        · exact hf (Or.inr (Or.inl (z.trans y)))
        · exact absurd (z ▸ y) hb
      · exact hf (Or.inr (Or.inr z)))
    exact ⟨g1.trans e1, g2.trans e2, fun k => (g3 k).trans (e3 k), fun k => (g4 k).trans (e4 k), fun k => (g5 k).trans (e5 k)⟩
  · have key : ∀ b, bp_K h1 b = 0 → bp_K h b = 0 := fun b hb => by
      by_cases hz : bp_K h b = 0
      · exact hz
      · rw [f.2.1 b hz] at hb; exact hb
    rcases g.2.2 with rfl | z
    · exact f.2.2
    · exact Or.inr (key _ z)
theorem enO_lt (lk : List Nat) : ∀ j, j < 8 → enO lk j < 8 := fun j hj => by
  have := cu_le lk j
  unfold enO
  (repeat' split) <;> omega
def bwH (lk : List Nat) : List Nat := [123] ++ (if cu lk 7 = 0 then [] else bwT (enO lk))
section BW4
variable {l : Launch} {G : bp_G} {H0 : Heap} {h : bp_H} {c s bw r a e mx c0 s0 : Nat} {en : Nat → Nat} {P : Nat → Nat} {L : List (Nat × Nat)} {ps : List (Nat × Nat × Nat)} {xs : List Nat} {Q : Option Value → bp_H → Nat → Nat → Prop}
theorem BwP.num {h' : bp_H} (hT : BwP mx c0 s0 h bw r a e en P L ps xs c s) (hN : NC h h' bw e P L ps) (en' : Nat → Nat) (hI : ∀ j, j < 8 → bp_I h' e j = nI (en' j)) : BwP mx c0 s0 h' bw r a e en' P L ps xs c s := by
  obtain ⟨⟨e1, e2, ⟨e3, e3a, e3b, e3c⟩, e4, e5, e6, e7, e8⟩, p1, p2, p3⟩ := hT
  have f := hN.1
  have hre : r ≠ e := fun z => by have := e3.1; rw [z, e5] at this; exact absurd this (by decide)
  have hbe : bw ≠ e := fun z => by rw [z, e5] at e1; exact absurd e1 (by decide)
  exact ⟨⟨(f.K _).trans e1, (f.R _ _).trans e2, ⟨e3.fi f hre (Ne.symm e7), by rw [f.L]; exact e3a, by rw [f.L]; exact e3b, by rw [f.L]; exact e3c⟩, (f.R _ _).trans e4, (f.K _).trans e5, (f.L _).trans e6, e7, hI⟩, (f.R _ _).trans p1, hN.2.2.2.2.2.2.1, p3⟩
set_option maxRecDepth 100000 in
set_option maxHeartbeats 4000000 in
theorem s_BW_startPage (hok : okP L ps) (hpe : ∀ i, i < 8 → P i ≠ e) (hT0 : BwP mx c0 s0 h bw r a e en P L ps xs c s) (hm : xs.length + 160 ≤ mx) (hmx : mx < 100000) (hQ : ∀ h' a' c' s', BwP mx c0 s0 h' bw r a' e (enO (lkL L)) P L ps (xs ++ bwH (lkL L)) c' s' → gE r a e h h' a' → Q none h' c' s') : bp_AM l G H0 (6, 128, false, false) M_BW_startPage h c s [.ref bw] Q := by
  refine bp_of (ls := [some (.ref bw)]) (by decide) dt_BW_startPage (Nat.le_of_ble_eq_true rfl) (fun q hq => hq) false ?_
  refine bp_aload_n (q := 1) 0 rfl rfl rfl rfl ?_
  refine bp_getR (x := r) (q := 4) (ci := 7) (j := 2) 1 rfl rfl fl_BW_15_7 hT0.1.1 rfl hT0.1.2.1 ?_
  refine bp_bipush (v := 123) (q := 6) 2 rfl rfl (by decide) ?_
  refine bp_callV (q := 9) (ci := 1) 3 rfl rfl cw_Row_put lk_BW_19 rfl hT0.1.2.2.1.1.1 wd485 wd486 rfl rfl (Nat.le_of_ble_eq_true rfl) ⟨Nat.le_of_ble_eq_true rfl, Nat.le_of_ble_eq_true rfl⟩ (s_Row_putg (v := 123) rfl hT0.1.2.2.1 (by omega) hmx (fun h1 a1 c1 s1 hA1 hF1 => ?_))
  have hT1 := hT0.step (hT0.1.step hA1 hF1) hF1
  have hN1 : NC h1 h1 bw e P L ps := ⟨bp_Fi.rf, hT1.1.1, hT1.1.2.2.2.1, hT1.2.1, hT1.1.2.2.2.2.1, hT1.1.2.2.2.2.2.1, hT1.2.2.1, hpe⟩
  refine bp_aload_n (q := 10) 4 rfl rfl rfl rfl ?_
  refine bp_callV (q := 13) (ci := 7) 5 rfl rfl cw_BW_numberColours lk_BW_25 rfl hT1.1.1 wd897 wd35 rfl rfl (Nat.le_of_ble_eq_true rfl) ⟨Nat.le_of_ble_eq_true rfl, Nat.le_of_ble_eq_true rfl⟩ (s_BW_numberColours hok hN1 (fun h2 hN2 hI2 => ?_))
  have hT2 := hT1.num hN2 _ hI2
  refine bp_if_le (q := 16) (tgt := 20) 6 rfl rfl (by decide) (fun z13 => ?_) (fun z13 => ?_)
  · exact bp_vret 9 rfl rfl  ⟨_, rfl, hQ _ _ _ _ (by rw [bwH, if_pos (show cu (lkL L) 7 = 0 by have := cu_le (lkL L) 7; have z := (nI_le_iff (b := 0) (by omega) (by decide)).mp z13; omega), List.append_nil]; exact hT2) ((gE.of hF1).tr (gE.fi hN2.1))⟩
  · refine bp_aload_n (q := 17) 7 rfl rfl rfl rfl ?_
    refine bp_callV (q := 20) (ci := 7) 8 rfl rfl cw_BW_writeTable lk_BW_29 rfl hT2.1.1 wd912 wd36 rfl rfl (Nat.le_of_ble_eq_true rfl) ⟨Nat.le_of_ble_eq_true rfl, Nat.le_of_ble_eq_true rfl⟩ (s_BW_writeTable hT2.1 (enO_lt (lkL L)) (by simp only [List.length_append, List.length_cons, List.length_nil]; omega) hmx (fun h3 a3 c3 s3 hX3 hF3 => ?_))
    have hT3 := hT2.step hX3 hF3
    exact bp_vret 9 rfl rfl  ⟨_, rfl, hQ _ _ _ _ (by rw [bwH, if_neg (show ¬ cu (lkL L) 7 = 0 from fun z => z13 (by rw [z]; decide)), ← List.append_assoc]; exact hT3) (((gE.of hF1).tr (gE.fi hN2.1)).tr (gE.of hF3))⟩
end BW4
