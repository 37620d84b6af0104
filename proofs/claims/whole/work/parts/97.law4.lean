/-! the law's loop and its start -/
section LAW4
variable {KP : bp_H × (Nat → Prop)} {P : Nat → Prop} {Z : Nat → Nat} {C S : Nat} {h : bp_H} {aO na : Nat} {T xs : List Nat} {L : List (Nat × Nat)} {ps : List (Nat × Nat × Nat)} {me : Int32} {c s : Nat}
theorem XI.give {k j : Nat} (H : XI KP Z (C + k) (S + j) h aO na T xs L ps me (c + k) (s + j)) : XI KP Z C S h aO na T xs L ps me c s := by
  refine ⟨H.1, H.2.1, H.2.2.1, H.2.2.2.1, H.2.2.2.2.1, H.2.2.2.2.2.1, H.2.2.2.2.2.2.1, H.2.2.2.2.2.2.2.1, H.2.2.2.2.2.2.2.2.1, H.2.2.2.2.2.2.2.2.2.1, H.2.2.2.2.2.2.2.2.2.2.1, ?_, H.2.2.2.2.2.2.2.2.2.2.2.2⟩
  have rm := H.2.2.2.2.2.2.2.2.2.2.2.1
  unfold xRm at *
  omega
theorem XI.re (H : XI KP Z C S h aO na T xs L ps me c s) (hP : ∀ b, P b → bp_K h b ≠ 0 ∧ (∀ i, i < 44 → i ≠ 39 → i ≠ 16 → b ≠ Z i) ∧ b ≠ aO ∧ b ≠ na) : XI (h, P) Z C S h aO na T xs L ps me c s :=
  ⟨H.1, H.2.1, H.2.2.1, H.2.2.2.1, H.2.2.2.2.1, H.2.2.2.2.2.1, H.2.2.2.2.2.2.1, H.2.2.2.2.2.2.2.1, H.2.2.2.2.2.2.2.2.1, H.2.2.2.2.2.2.2.2.2.1, H.2.2.2.2.2.2.2.2.2.2.1, H.2.2.2.2.2.2.2.2.2.2.2.1, fun b hb => ⟨(hP b hb).1, (hP b hb).2.1, (hP b hb).2.2.1, (hP b hb).2.2.2, bp_sm.rf⟩⟩
end LAW4
theorem and15 (x : Int32) : x &&& 15 = 0 ∨ x &&& 15 = 1 ∨ x &&& 15 = 2 ∨ x &&& 15 = 3 ∨ x &&& 15 = 4 ∨ x &&& 15 = 5 ∨ x &&& 15 = 6 ∨ x &&& 15 = 7 ∨ x &&& 15 = 8 ∨ x &&& 15 = 9 ∨ x &&& 15 = 10 ∨ x &&& 15 = 11 ∨ x &&& 15 = 12 ∨ x &&& 15 = 13 ∨ x &&& 15 = 14 ∨ x &&& 15 = 15 := by
  have h : (x &&& 15).toBitVec.toNat < 16 := by
    show (x.toBitVec &&& (15 : Int32).toBitVec).toNat < 16
    rw [BitVec.toNat_and]
    exact Nat.lt_of_le_of_lt Nat.and_le_right (by decide)
  have e : ∀ k : Int32, (x &&& 15).toBitVec.toNat = k.toBitVec.toNat → x &&& 15 = k := fun k hk => Int32.toBitVec_inj.mp (BitVec.eq_of_toNat_eq hk)
  generalize (x &&& 15).toBitVec.toNat = n at h e
  have c : n = 0 ∨ n = 1 ∨ n = 2 ∨ n = 3 ∨ n = 4 ∨ n = 5 ∨ n = 6 ∨ n = 7 ∨ n = 8 ∨ n = 9 ∨ n = 10 ∨ n = 11 ∨ n = 12 ∨ n = 13 ∨ n = 14 ∨ n = 15 := by omega
  rcases c with c | c | c | c | c | c | c | c | c | c | c | c | c | c | c | c
  · exact Or.inl (e 0 (c.trans rfl))
  · exact Or.inr (Or.inl (e 1 (c.trans rfl)))
  · exact Or.inr (Or.inr (Or.inl (e 2 (c.trans rfl))))
  · exact Or.inr (Or.inr (Or.inr (Or.inl (e 3 (c.trans rfl)))))
  · exact Or.inr (Or.inr (Or.inr (Or.inr (Or.inl (e 4 (c.trans rfl))))))
  · exact Or.inr (Or.inr (Or.inr (Or.inr (Or.inr (Or.inl (e 5 (c.trans rfl)))))))
  · exact Or.inr (Or.inr (Or.inr (Or.inr (Or.inr (Or.inr (Or.inl (e 6 (c.trans rfl))))))))
  · exact Or.inr (Or.inr (Or.inr (Or.inr (Or.inr (Or.inr (Or.inr (Or.inl (e 7 (c.trans rfl)))))))))
  · exact Or.inr (Or.inr (Or.inr (Or.inr (Or.inr (Or.inr (Or.inr (Or.inr (Or.inl (e 8 (c.trans rfl))))))))))
  · exact Or.inr (Or.inr (Or.inr (Or.inr (Or.inr (Or.inr (Or.inr (Or.inr (Or.inr (Or.inl (e 9 (c.trans rfl)))))))))))
  · exact Or.inr (Or.inr (Or.inr (Or.inr (Or.inr (Or.inr (Or.inr (Or.inr (Or.inr (Or.inr (Or.inl (e 10 (c.trans rfl))))))))))))
  · exact Or.inr (Or.inr (Or.inr (Or.inr (Or.inr (Or.inr (Or.inr (Or.inr (Or.inr (Or.inr (Or.inr (Or.inl (e 11 (c.trans rfl)))))))))))))
  · exact Or.inr (Or.inr (Or.inr (Or.inr (Or.inr (Or.inr (Or.inr (Or.inr (Or.inr (Or.inr (Or.inr (Or.inr (Or.inl (e 12 (c.trans rfl))))))))))))))
  · exact Or.inr (Or.inr (Or.inr (Or.inr (Or.inr (Or.inr (Or.inr (Or.inr (Or.inr (Or.inr (Or.inr (Or.inr (Or.inr (Or.inl (e 13 (c.trans rfl)))))))))))))))
  · exact Or.inr (Or.inr (Or.inr (Or.inr (Or.inr (Or.inr (Or.inr (Or.inr (Or.inr (Or.inr (Or.inr (Or.inr (Or.inr (Or.inr (Or.inl (e 14 (c.trans rfl))))))))))))))))
  · exact Or.inr (Or.inr (Or.inr (Or.inr (Or.inr (Or.inr (Or.inr (Or.inr (Or.inr (Or.inr (Or.inr (Or.inr (Or.inr (Or.inr (Or.inr (e 15 (c.trans rfl))))))))))))))))

section LAW5
variable {l : Launch} {G : bp_G} {H0 : Heap} {M Z : Nat → Nat} {o C S : Nat} {h : bp_H} {aO na : Nat} {T xs : List Nat} {L : List (Nat × Nat)} {ps : List (Nat × Nat × Nat)} {me : Int32} {c s : Nat} {Q : Outcome → bp_H → Nat → Nat → Prop} {sc n ix : Nat} {f : Nat → Int32} {lo5 lo6 : Option Value}
theorem sub5 {n : Nat} (h : n < 1000000) : (nI n - 5).toInt = (n : Int) - 5 := by
  rw [Int32.toInt_sub, nI_toInt (by omega), show (5 : Int32).toInt = 5 from rfl]
  exact Int.bmod_eq_of_le (by omega) (by omega)
theorem le5 {n i : Nat} (hn : n < 1000000) (hi : i < 1000000) : nI n - 5 < nI i ↔ n < i + 5 := by
  rw [Int32.lt_iff_toInt_lt, sub5 hn, nI_toInt (by omega)]
  omega
set_option maxRecDepth 100000 in
set_option maxHeartbeats 4000000 in
theorem lp_law (htl : l.stackTraces = false) (hsc : bp_Sc G H0 sc n f) (hnb : n < 900000) (hQ : ∀ h c s, Q (.returned (some (.int 1))) h c s) : ∀ (m : Nat) (ix : Nat) (h : bp_H) (aO na : Nat) (T xs : List Nat) (L : List (Nat × Nat)) (ps : List (Nat × Nat × Nat)) (me : Int32) (c s : Nat) (lo5 lo6 : Option Value), n < ix + 5 * m + 5 → ix ≤ n → LST M Z o m (6 * m) h aO na T xs L ps me c s → bp_A l G H0 (14, 520, false, false) M_Law_law h c s 23 [some (.ref sc), some (.ref (Z 43)), some (.ref (M 0)), some (.ref o), some (.int (nI ix)), lo5, lo6] [] Q := by
  have hnb : n < 1000000 := by omega
  intro m
  induction m with
  | zero =>
    intro ix h aO na T xs L ps me c s lo5 lo6 hx hi hS
    have hx : n < ix + 5 := by omega
    refine bp_iload (q := 25) 13 rfl rfl rfl ?_
    refine bp_aload_n (q := 26) 14 rfl rfl rfl rfl ?_
    refine bp_slen hsc (q := 27) 15 rfl rfl rfl ?_
    refine bp_iconst (v := 5) (q := 28) 16 rfl rfl (by decide) ?_
    refine bp_isub (q := 29) 17 rfl rfl ?_
    refine bp_icmp_gt (q := 32) (tgt := 755) 18 rfl rfl (by decide) (fun z29 => ?_) (fun z29 => ?_)
    · refine bp_iconst (v := 1) (q := 756) 435 rfl rfl (by decide) ?_
      exact bp_iret 436 rfl rfl (by first | rfl | assumption) (hQ _ _ _)
    · exact absurd ((le5 hnb (by omega)).mpr hx) z29
  | succ m ih =>
    intro ix h aO na T xs L ps me c s lo5 lo6 hx hi hS
    by_cases h5 : n < ix + 5
    · have hx := h5
      refine bp_iload (q := 25) 13 rfl rfl rfl ?_
      refine bp_aload_n (q := 26) 14 rfl rfl rfl rfl ?_
      refine bp_slen hsc (q := 27) 15 rfl rfl rfl ?_
      refine bp_iconst (v := 5) (q := 28) 16 rfl rfl (by decide) ?_
      refine bp_isub (q := 29) 17 rfl rfl ?_
      refine bp_icmp_gt (q := 32) (tgt := 755) 18 rfl rfl (by decide) (fun z29 => ?_) (fun z29 => ?_)
      · refine bp_iconst (v := 1) (q := 756) 435 rfl rfl (by decide) ?_
        exact bp_iret 436 rfl rfl (by first | rfl | assumption) (hQ _ _ _)
      · exact absurd ((le5 hnb (by omega)).mpr hx) z29
    have h5 := Nat.not_lt.mp h5
    have hNX : ∀ (h : bp_H) (aO na : Nat) (T xs : List Nat) (L : List (Nat × Nat)) (ps : List (Nat × Nat × Nat)) (me : Int32) (c s : Nat) (lo5 lo6 : Option Value), LST M Z o m (6 * m) h aO na T xs L ps me c s → bp_A l G H0 (14, 520, false, false) M_Law_law h c s 749 [some (.ref sc), some (.ref (Z 43)), some (.ref (M 0)), some (.ref o), some (.int (nI ix)), lo5, lo6] [] Q := by
      intro h aO na T xs L ps me c s lo5 lo6 hS2
      refine bp_iinc (v := nI (ix + 5)) (q := 752) 433 rfl rfl rfl (nI_add ix 5) (by decide) (bp_up4 rfl) ?_
      refine bp_goto (tgt := 23) 434 rfl (by decide) ?_
      exact ih _ _ _ _ _ _ _ _ _ _ _ _ _ (by omega) (by omega) hS2
    have hS : LST M Z o (m + 1) (6 * m + 6) h aO na T xs L ps me c s := hS.less (Nat.le_refl _) (by omega)
    refine bp_iload (q := 25) 13 rfl rfl rfl ?_
    refine bp_aload_n (q := 26) 14 rfl rfl rfl rfl ?_
    refine bp_slen hsc (q := 27) 15 rfl rfl rfl ?_
    refine bp_iconst (v := 5) (q := 28) 16 rfl rfl (by decide) ?_
    refine bp_isub (q := 29) 17 rfl rfl ?_
    refine bp_icmp_gt (q := 32) (tgt := 755) 18 rfl rfl (by decide) (fun z29 => ?_) (fun z29 => ?_)
    · exact absurd ((le5 hnb (by omega)).mp z29) (by omega)
    · refine bp_aload_n (q := 33) 19 rfl rfl rfl rfl ?_
      refine bp_iload (q := 35) 20 rfl rfl rfl ?_
      refine bp_sld hsc (q := 36) 21 rfl rfl (vp_in_nI (n := ix) (by omega) (by omega)) ?_
      rw [nI_clamp (by omega)]
      refine bp_bipush (v := 15) (q := 38) 22 rfl rfl (by decide) ?_
      refine bp_iand (q := 39) 23 rfl rfl ?_
      have hv := and15 (f ix)
      generalize f ix &&& 15 = v at hv ⊢
      have hS1 := hS
      rcases hv with e_ | e_ | e_ | e_ | e_ | e_ | e_ | e_ | e_ | e_ | e_ | e_ | e_ | e_ | e_ | e_
      · subst e_
        refine bp_tsIn (tgt := 116) 24 rfl (by decide) (by decide) rfl (by decide) ?_
        obtain ⟨c0, s0, rfl, rfl⟩ := hS.room
        exact cs_feed htl hsc h5 hnb hS hNX
      · subst e_
        refine bp_tsIn (tgt := 204) 24 rfl (by decide) (by decide) rfl (by decide) ?_
        exact cs_clear htl hsc h5 hnb hS hNX
      · subst e_
        refine bp_tsIn (tgt := 215) 24 rfl (by decide) (by decide) rfl (by decide) ?_
        obtain ⟨c0, s0, rfl, rfl⟩ := hS.room
        exact cs_take htl hsc h5 hnb hS hNX
      · subst e_
        refine bp_tsIn (tgt := 259) 24 rfl (by decide) (by decide) rfl (by decide) ?_
        exact cs_readBraced htl hsc h5 hnb hS hNX
      · subst e_
        refine bp_tsIn (tgt := 272) 24 rfl (by decide) (by decide) rfl (by decide) ?_
        exact cs_readTagged htl hsc h5 hnb hS hNX
      · subst e_
        refine bp_tsIn (tgt := 285) 24 rfl (by decide) (by decide) rfl (by decide) ?_
        exact cs_at htl hsc h5 hnb hS hNX
      · subst e_
        refine bp_tsIn (tgt := 298) 24 rfl (by decide) (by decide) rfl (by decide) ?_
        exact cs_writeBraced htl hsc h5 hnb hS hNX
      · subst e_
        refine bp_tsIn (tgt := 311) 24 rfl (by decide) (by decide) rfl (by decide) ?_
        exact cs_writeTagged htl hsc h5 hnb hS hNX
      · subst e_
        refine bp_tsIn (tgt := 324) 24 rfl (by decide) (by decide) rfl (by decide) ?_
        exact cs_out htl hsc h5 hnb hS hNX
      · subst e_
        refine bp_tsIn (tgt := 349) 24 rfl (by decide) (by decide) rfl (by decide) ?_
        obtain ⟨c0, s0, rfl, rfl⟩ := hS.room
        exact cs_begin htl hsc h5 hnb hS hNX
      · subst e_
        refine bp_tsIn (tgt := 417) 24 rfl (by decide) (by decide) rfl (by decide) ?_
        obtain ⟨c0, s0, rfl, rfl⟩ := hS.room
        exact cs_add htl hsc h5 hnb hS hNX
      · subst e_
        refine bp_tsIn (tgt := 509) 24 rfl (by decide) (by decide) rfl (by decide) ?_
        exact cs_wipe htl hsc h5 hnb hS hNX
      · subst e_
        refine bp_tsIn (tgt := 520) 24 rfl (by decide) (by decide) rfl (by decide) ?_
        exact cs_paragraphs htl hsc h5 hnb hS hNX
      · subst e_
        refine bp_tsIn (tgt := 533) 24 rfl (by decide) (by decide) rfl (by decide) ?_
        obtain ⟨c0, s0, rfl, rfl⟩ := hS.room
        exact cs_paragraph htl hsc h5 hnb hS hNX
      · subst e_
        refine bp_tsIn (tgt := 601) 24 rfl (by decide) (by decide) rfl (by decide) ?_
        obtain ⟨c0, s0, rfl, rfl⟩ := hS.room
        exact cs_run htl hsc h5 hnb hS hNX
      · subst e_
        refine bp_tsIn (tgt := 681) 24 rfl (by decide) (by decide) rfl (by decide) ?_
        obtain ⟨c0, s0, rfl, rfl⟩ := hS.room
        exact cs_letter htl hsc h5 hnb hS hNX
set_option maxRecDepth 100000 in
set_option maxHeartbeats 4000000 in
theorem law_start {m : Nat} (htl : l.stackTraces = false) (hsc : bp_Sc G H0 sc n f) (hnb : n < 900000) (hm : n < 5 * m + 5) (hc : m + 40000 ≤ c) (hs : 6 * m + 110000 ≤ s) (hQ : ∀ h c s, Q (.returned (some (.int 1))) h c s) : bp_A l G H0 (14, 520, false, false) M_Law_law h c s 0 [some (.ref sc), none, none, none, none, none, none] [] Q := by
  obtain ⟨c0, rfl⟩ : ∃ c0, c = c0 + 14 + 43 + 1 := ⟨c - 58, by omega⟩
  obtain ⟨s0, rfl⟩ : ∃ s0, s = s0 + 21171 + 2349 + 9 := ⟨s - 23529, by omega⟩
  refine bp_newo (c := c0 + 14 + 43) (s := s0 + 21171 + 2349) (n := 9) (q := 3) 0 rfl rfl nw_Law_8 cl0 (fun x nx => ?_)
  refine bp_dup (q := 4) 1 rfl rfl rfl ?_
  refine bp_callI (q := 7) 2 rfl rfl cw_X_init lk_Law_43 rfl rfl wd118 rfl rfl (Nat.le_of_ble_eq_true rfl) ⟨Nat.le_of_ble_eq_true rfl, Nat.le_of_ble_eq_true rfl⟩ (s_X_init (c := c0 + 14) (s := s0 + 21171) (C := m + 14) (S := 6 * m + 21171) oF_new (by omega) (by omega) (fun h1 Z eZ hX g1 => ?_))
  refine bp_astore_n (q := 8) 3 rfl rfl rfl (by decide) (bp_up1 rfl) ?_
  refine bp_newo (c := c0 + 13) (s := s0 + 21137) (n := 34) (q := 11) 4 rfl rfl nw_Law_44 cl9 (fun y ny => ?_)
  refine bp_dup (q := 12) 5 rfl rfl rfl ?_
  refine bp_callI (q := 15) 6 rfl rfl cw_Mo_init lk_Law_46 rfl rfl wd1308 rfl rfl (Nat.le_of_ble_eq_true rfl) ⟨Nat.le_of_ble_eq_true rfl, Nat.le_of_ble_eq_true rfl⟩ (s_Mo_init (c := c0 + 1) (s := s0 + 1) oF_new (fun h2 M eM hB g2 hMf => ?_))
  refine bp_astore_n (q := 16) 7 rfl rfl rfl (by decide) (bp_up2 rfl) ?_
  refine bp_iconst (v := 1) (q := 17) 8 rfl rfl (by decide) ?_
  refine bp_newa (c := c0) (s := s0) (kd := 2) (N := 1) (q := 19) 9 rfl rfl wd1752 rfl (Or.inr (Or.inl ⟨rfl, rfl⟩)) (by decide) rfl (by decide) (fun o no => ?_)
  refine bp_astore_n (q := 20) 10 rfl rfl rfl (by decide) (bp_up3 rfl) ?_
  refine bp_iconst (v := 0) (q := 21) 11 rfl rfl (by decide) ?_
  refine bp_istore (q := 23) 12 rfl rfl (by decide) (bp_up4 rfl) ?_
  have hkM : ∀ j, mC j = true → bp_K h2 (M j) ≠ 0 := fun j hj => by
    by_cases e : j = 0
    · subst e; rw [hB.kb]; decide
    · have q := mC_cs hj
      have hjI : mI j = true := by
        unfold mC at hj
        rw [Bool.or_eq_true, decide_eq_true_eq] at hj
        exact hj.resolve_left e
      rw [(hB.2.1.2.1 j hjI).2.1]
      unfold mKd
      split
      · decide
      · split <;> decide
  have k1 : ∀ b, bp_K h1 b ≠ 0 → bp_sm h1 h2 b := fun b hb => by
    have hby : b ≠ y := fun e => hb (by rw [e]; exact ny)
    have q := bp_sm.new (h := h1) (a := y) (b := b) (kd := 15) (n := 0) hby
    exact q.tr (g2.1 b (by rw [q.1]; exact hb) hby)
  have k2 : ∀ b, bp_K h2 b ≠ 0 → bp_sm h2 (bp_new h2 o 2 1) b := fun b hb => bp_sm.new (fun e => hb (by rw [e]; exact no))
  have k3 : ∀ b, bp_K h1 b ≠ 0 → bp_sm h1 (bp_new h2 o 2 1) b := fun b hb => (k1 b hb).tr (k2 b (by rw [(k1 b hb).1]; exact hb))
  have hM1 : ∀ j, mC j = true → bp_K h1 (M j) = 0 := fun j hj => by
    by_cases e : j = 0
    · subst e; rw [eM]; exact ny
    · have z := hMf j hj e
      by_cases e2 : bp_K h1 (M j) = 0
      · exact e2
      · rw [(bp_sm.new (h := h1) (a := y) (b := M j) (kd := 15) (n := 0) (fun e => e2 (by rw [e]; exact ny))).1] at z
        exact z
  have ho1 : bp_K h1 o = 0 := by
    by_cases e2 : bp_K h1 o = 0
    · exact e2
    · have := (k1 o e2).1
      rw [no] at this
      exact this.symm
  have hXa := hX.mv (F := fun _ => False) (h' := bp_new h2 o 2 1) (fun b hb _ => k3 b hb) (fun b hb => (k3 b hb).1) (fun _ z => z.elim)
  have hXb := XI.give (k := 14) (j := 21171) hXa
  have hno : ¬ mF M o := fun ⟨j, hj, e⟩ => hkM j hj (by rw [← e]; exact no)
  have hXc := hXb.re (P := lP M o) (fun b hb => by
    have hz : bp_K h1 b = 0 := by
      rcases hb with ⟨j, hj, e⟩ | e
      · rw [e]; exact hM1 j hj
      · rw [e]; exact ho1
    refine ⟨?_, fun i hi i1 i2 e => hX.kz i hi i1 i2 (by rw [← e]; exact hz), fun e => hX.kO (by rw [← e]; exact hz), fun e => hX.kN (by rw [← e]; exact hz)⟩
    rcases hb with ⟨j, hj, e⟩ | e
    · rw [e, (k2 _ (hkM j hj)).1]; exact hkM j hj
    · rw [e, bp_K_new, if_pos rfl]; decide)
  have hm2 := (MoS.of hB).re (h' := bp_new h2 o 2 1) (fun j hj => k2 _ (hkM j hj))
  have hS : LST M Z o m (6 * m) (bp_new h2 o 2 1) (Z 39) (Z 16) [] [] [] [] (-1) c0 s0 := ⟨hXc, ⟨_, hm2⟩, ⟨by rw [bp_K_new, if_pos rfl], by rw [bp_L_new, if_pos rfl], hno⟩, okC_of (by decide) (fun x hx => nomatch hx), (fun x hx => nomatch hx), okP_nil, rfl⟩
  have w := lp_law htl hsc hnb hQ m 0 (bp_new h2 o 2 1) (Z 39) (Z 16) [] [] [] [] (-1) c0 s0 none none (by omega) (Nat.zero_le _) hS
  rw [eZ, eM] at w
  exact w
end LAW5
