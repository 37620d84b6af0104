/-! the reference's letter, take, feed -/
theorem b8_e64 : ∀ n, n < 256 → (nI n).toInt64.toBitVec = BitVec.ofNat 64 n := by decide +kernel
theorem b8_e32 : ∀ n, n < 256 → (nI n).toBitVec = BitVec.ofNat 32 n := by decide +kernel
theorem b8_n (z : Int64) : ∃ n, n < 256 ∧ z &&& 255 = (nI n).toInt64 ∧ z.toInt32 &&& 255 = nI n := by
  refine ⟨z.toBitVec.toNat % 256, Nat.mod_lt _ (by decide), ?_, ?_⟩
  · apply Int64.toBitVec_inj.mp
    rw [b8_e64 _ (Nat.mod_lt _ (by decide))]
    show z.toBitVec &&& 255#64 = _
    apply BitVec.eq_of_toNat_eq
    rw [BitVec.toNat_and]
    show z.toBitVec.toNat &&& 255 = (BitVec.ofNat 64 (z.toBitVec.toNat % 256)).toNat
    rw [BitVec.toNat_ofNat, show (255 : Nat) = 2 ^ 8 - 1 from rfl, Nat.and_two_pow_sub_one_eq_mod]
    omega
  · apply Int32.toBitVec_inj.mp
    rw [b8_e32 _ (Nat.mod_lt _ (by decide))]
    show z.toBitVec.signExtend 32 &&& 255#32 = _
    rw [BitVec.signExtend_eq_setWidth_of_le _ (by decide)]
    apply BitVec.eq_of_toNat_eq
    rw [BitVec.toNat_and, BitVec.toNat_setWidth]
    show z.toBitVec.toNat % 2 ^ 32 &&& 255 = (BitVec.ofNat 32 (z.toBitVec.toNat % 256)).toNat
    rw [BitVec.toNat_ofNat, show (255 : Nat) = 2 ^ 8 - 1 from rfl, Nat.and_two_pow_sub_one_eq_mod]
    omega
theorem b8_c : ∀ n, n < 256 → (lg_cmp (nI n).toInt64 0 = 0 ↔ n = 0) ∧ (lg_cmp (nI n).toInt64 10 = 0 ↔ n = 10) ∧ (lg_cmp (nI n).toInt64 32 < 0 ↔ n < 32) ∧ (0 < lg_cmp (nI n).toInt64 126 ↔ 126 < n) ∧ ((nI n).toInt64.toInt32.toUInt32 % 65536).toInt32 = nI n ∧ (nI n = 0 ↔ n = 0) ∧ (isCh (nI n) = true ↔ n = 10 ∨ (32 ≤ n ∧ n ≤ 126)) := by decide +kernel
def fdG (x : Int64) : Nat → Nat → Bool
  | 0, _ => true
  | n + 1, k => if by8 x (nI k) = 0 then true else isCh (by8 x (nI k)) && fdG x n (k + 1)
theorem fdG_t (x : Int64) : ∀ m k, fdG x m k = true → ∀ j, k ≤ j → j < fdC x m k → isCh (by8 x (nI j)) = true
  | 0, k, _, j, h1, h2 => absurd h2 (by rw [fdC]; omega)
  | m + 1, k, h, j, h1, h2 => by
    rw [fdG] at h
    rw [fdC] at h2
    by_cases z : by8 x (nI k) = 0
    · rw [if_pos z] at h2; omega
    · rw [if_neg z] at h h2
      rw [Bool.and_eq_true] at h
      by_cases e : j = k
      · rw [e]; exact h.1
      · exact fdG_t x m (k + 1) h.2 j (by omega) h2
theorem fdG_f (x : Int64) : ∀ m k, fdG x m k = false → ∃ j, k ≤ j ∧ j < fdC x m k ∧ isCh (by8 x (nI j)) = false
  | 0, k, h => by cases h
  | m + 1, k, h => by
    rw [fdG] at h
    rw [fdC]
    by_cases z : by8 x (nI k) = 0
    · rw [if_pos z] at h; cases h
    · rw [if_neg z] at h ⊢
      have := fdC_le x m (k + 1)
      by_cases e : isCh (by8 x (nI k)) = true
      · rw [e, Bool.true_and] at h
        obtain ⟨j, h1, h2, h3⟩ := fdG_f x m (k + 1) h
        exact ⟨j, by omega, h2, h3⟩
      · exact ⟨k, Nat.le_refl _, by omega, by simpa using e⟩
section MO12
variable {l : Launch} {G : bp_G} {H0 : Heap} {M : Nat → Nat} {h0 h : bp_H} {tw : Int32} {i : Nat} {fa : Int32} {fm : Int32} {tl : Int32} {lk : Nat} {al : Nat} {ind : Nat} {sk : Nat} {dp : Nat} {lv : Nat} {fr : Bool} {en : Nat} {nf : Nat} {nn : Nat} {dg : Nat} {nu : Int32} {kd : Nat} {pn : Int32} {pe : Nat} {T : List Nat} {xs : List Nat} {L : List (Nat × Nat)} {ps : List (Nat × Nat × Nat)} {L1 : List (Nat × Nat)} {p1 : List (Nat × Nat × Nat)} {nt : List (Nat → Nat)} {tb : List Nat} {fd : List Nat} {c s : Nat} {Q : Option Value → bp_H → Nat → Nat → Prop}
theorem MoX.push2 {v : Nat} {x : Int32} (hB : MoX M h0 h tw i fa fm tl lk al ind sk dp lv fr en nf nn dg nu kd pn pe T xs L ps L1 p1 nt tb fd) (hx : x = nI (T.length + 1)) (hl : T.length < 400) (hv : bp_I h (M 2) T.length = nI v) : MoX M h0 (bp_sI h (M 0) 1 x) tw i fa fm tl lk al ind sk dp lv fr en nf nn dg nu kd pn pe (T ++ [v]) xs L ps L1 p1 nt tb fd :=
  hB.set1 (by rw [hx, List.length_append]; rfl) (by rw [List.length_append]; exact hl) (fun j hj => by
    by_cases q : j < T.length
    · rw [n_sn q]; exact hB.2.2.2.1.2 j q
    · have q2 : j = T.length := by rw [List.length_append] at hj; simp at hj; omega
      rw [q2, n_sn']; exact hv)
theorem MoX.w2a {k v : Nat} {x : Int32} (hB : MoX M h0 h tw i fa fm tl lk al ind sk dp lv fr en nf nn dg nu kd pn pe T xs L ps L1 p1 nt tb fd) (hx : x = nI v) : ∃ T', T'.length = T.length ∧ MoX M h0 (bp_sI h (M 2) k x) tw i fa fm tl lk al ind sk dp lv fr en nf nn dg nu kd pn pe T' xs L ps L1 p1 nt tb fd := by
  have f : bp_Fi (fun y => y = M 2) h (bp_sI h (M 2) k x) := bp_Fi.sI rfl
  obtain ⟨b1, b2, b3, b4, b5, b6, b7, b8, b9, b10⟩ := hB
  have e : ∀ i, mC i = true → i ≠ 2 → ∀ j, bp_I (bp_sI h (M 2) k x) (M i) j = bp_I h (M i) j := fun i hi hn j => f.2.2.2 _ (b2.ne i 2 hi rfl hn) j
  have hl : (T.set k v).length = T.length := List.length_set ..
  refine ⟨T.set k v, hl, b1.tr (f.wk (fun x hx => ⟨2, rfl, hx⟩)), b2.fi f, ?_, ⟨by rw [hl]; exact b4.1, fun j hj => ?_⟩, b5.sm (e 4 rfl (by decide)), b6.sm (fun i h1 h2 => e i (mC_p i h1 h2) (by omega)), b7.sm (fun i h1 h2 => e i (mC_p i h1 h2) (by omega)), b8.sm (e 21 rfl (by decide)), b9.sm (e 25 rfl (by decide)), b10.sm (e 26 rfl (by decide))⟩
  · have q := b3.sm (e 0 rfl (by decide))
    unfold moI at q ⊢
    rw [hl]
    exact q
  · rw [hl] at hj
    rw [List.getD_eq_getElem?_getD, List.getElem?_set, bp_I_sI]
    by_cases z : k = j
    · rw [if_pos ⟨rfl, z.symm⟩, if_pos z, if_pos (by omega)]; exact hx
    · rw [if_neg (fun y => z y.2.symm), if_neg z, ← List.getD_eq_getElem?_getD]; exact b4.2 j hj
set_option maxRecDepth 100000 in
set_option maxHeartbeats 4000000 in
theorem lp_Mo_letter {ro : Bool} {p : Nat} {y : Int32} {Q : Outcome → bp_H → Nat → Nat → Prop} (hB0 : MoX M h0 h tw i fa fm tl lk al ind sk dp lv fr en nf nn dg nu kd pn pe T xs L ps L1 p1 nt tb fd) (okp : okP L ps) (hp : p < ps.length) (hn : pst ps p < p_e ps p) (hQ : bp_A l G H0 (1, 23, ro, ro) M_Mo_letter h c s 63 [some (.ref (M 0)), some (.int (nI p)), some (.int y), some (.int (nI (pst ps p)))] [] Q) : ∀ (m k : Nat), m + k = pst ps p → bp_A l G H0 (1, 23, ro, ro) M_Mo_letter h c s 47 [some (.ref (M 0)), some (.int (nI p)), some (.int y), some (.int (nI k))] [] Q := by
  have hL4 := okp.1
  have h16 := okp.2.1
  have hpe := (okp.2.2.1 p hp).2.2.1
  intro m
  induction m with
  | zero =>
    intro k hm
    refine bp_aload_n (q := 48) 27 rfl rfl rfl rfl ?_
    refine bp_getR (x := M 9) (q := 51) (ci := 9) (j := 9) 28 rfl rfl fl_Mo_30_9 hB0.kb rfl hB0.r9 ?_
    refine bp_iload_n (q := 52) 29 rfl rfl rfl rfl ?_
    refine bp_iald (q := 53) 30 rfl rfl hB0.k9 (vp_inL hB0.l9 (by omega) (by decide)) ?_
    rw [nI_clamp (by omega), hB0.q0 (by omega)]
    refine bp_iload_n (q := 54) 31 rfl rfl rfl rfl ?_
    refine bp_icmp_eq (q := 57) (tgt := 63) 32 rfl rfl (by decide) (fun z54 => ?_) (fun z54 => ?_)
    · rw [show k = pst ps p from by omega]
      exact hQ
    · exact absurd (by rw [(pIx_eq okp hp).mpr ⟨by omega, by omega⟩]) z54
  | succ m ih =>
    intro k hm
    refine bp_aload_n (q := 48) 27 rfl rfl rfl rfl ?_
    refine bp_getR (x := M 9) (q := 51) (ci := 9) (j := 9) 28 rfl rfl fl_Mo_30_9 hB0.kb rfl hB0.r9 ?_
    refine bp_iload_n (q := 52) 29 rfl rfl rfl rfl ?_
    refine bp_iald (q := 53) 30 rfl rfl hB0.k9 (vp_inL hB0.l9 (by omega) (by decide)) ?_
    rw [nI_clamp (by omega), hB0.q0 (by omega)]
    refine bp_iload_n (q := 54) 31 rfl rfl rfl rfl ?_
    refine bp_icmp_eq (q := 57) (tgt := 63) 32 rfl rfl (by decide) (fun z54 => ?_) (fun z54 => ?_)
    · exact absurd ((pIx_eq okp hp).mp ((nI_eq_iff (by have := pIx_le ps k; omega) (by omega)).mp z54)).1 (by omega)
    · refine bp_iinc (v := nI (k + 1)) (q := 60) 33 rfl rfl rfl (nI_1 k) (by decide) (bp_up3 rfl) ?_
      refine bp_goto (tgt := 47) 34 rfl (by decide) ?_
      exact ih (k + 1) (by omega)
set_option maxRecDepth 100000 in
set_option maxHeartbeats 4000000 in
theorem s_Mo_letter {x y : Int32} (hB0 : MoX M h0 h tw i fa fm tl lk al ind sk dp lv fr en nf nn dg nu kd pn pe T xs L ps L1 p1 nt tb fd) (okp : okP L ps) (hQ1 : x < 0 ∨ nI ps.length ≤ x → ∀ h', MoX M h0 h' 1 i fa fm tl lk al ind sk dp lv fr en nf nn dg nu kd pn pe T xs L ps L1 p1 nt tb fd → Q (some (.int 0)) h' c s) (hQ2 : ∀ p, x = nI p → p < ps.length → y < 0 ∨ nI (p_e ps p - pst ps p) ≤ y → ∀ h', MoX M h0 h' 1 i fa fm tl lk al ind sk dp lv fr en nf nn dg nu kd pn pe T xs L ps L1 p1 nt tb fd → Q (some (.int 0)) h' c s) (hQ3 : ∀ p a, x = nI p → y = nI a → p < ps.length → a < p_e ps p - pst ps p → ∀ h', MoX M h0 h' 0 i fa fm tl lk al ind sk dp lv fr en nf nn dg nu kd pn pe T xs L ps L1 p1 nt tb fd → Q (some (.int (nI ((cdL L).getD (pst ps p + a) 0)))) h' c s) : bp_AM l G H0 (1, 23, false, false) M_Mo_letter h c s [.ref (M 0), .int x, .int y] Q := by
  refine bp_of (ls := [some (.ref (M 0)), some (.int x), some (.int y), none]) (by decide) dt_Mo_letter (Nat.le_of_ble_eq_true rfl) (fun q hq => hq) false ?_
  have h16 := okp.2.1
  have hL4 := okp.1
  refine bp_aload_n (q := 1) 0 rfl rfl rfl rfl ?_
  refine bp_iload_n (q := 2) 1 rfl rfl rfl rfl ?_
  refine bp_if_lt (q := 5) (tgt := 28) 2 rfl rfl (by decide) (fun z2 => ?_) (fun z2 => ?_)
  · refine bp_iconst (v := 1) (q := 29) 16 rfl rfl (by decide) ?_
    refine bp_goto (tgt := 33) 17 rfl (by decide) ?_
    refine bp_putI (q := 36) (ci := 9) (j := 0) 19 rfl rfl fl_Mo_52_9 cl9 hB0.kb (fun r hr => by cases hr; rfl) (by decide) rfl rfl ?_
    refine bp_nx (X := fun h1 => MoX M h0 h1 1 i fa fm tl lk al ind sk dp lv fr en nf nn dg nu kd pn pe T xs L ps L1 p1 nt tb fd) (hB0.s0 rfl) (fun h1 hB1 => ?_)
    refine bp_aload_n (q := 37) 20 rfl rfl rfl rfl ?_
    refine bp_getI (q := 40) (ci := 9) (j := 0) 21 rfl rfl fl_Mo_52_9 hB1.kb rfl ?_
    rw [hB1.i0]
    refine bp_if_eq (q := 43) (tgt := 45) 22 rfl rfl (by decide) (fun z => absurd z (by decide)) (fun z40 => ?_)
    refine bp_iconst (v := 0) (q := 44) 23 rfl rfl (by decide) ?_
    exact bp_iret 24 rfl rfl rfl ⟨_, rfl, hQ1 (Or.inl z2) _ hB1⟩
  · refine bp_iload_n (q := 6) 3 rfl rfl rfl rfl ?_
    refine bp_aload_n (q := 7) 4 rfl rfl rfl rfl ?_
    refine bp_getR (x := M 6) (q := 10) (ci := 9) (j := 6) 5 rfl rfl fl_Mo_21_9 hB0.kb rfl hB0.r6 ?_
    refine bp_iconst (v := 0) (q := 11) 6 rfl rfl (by decide) ?_
    refine bp_iald (q := 12) 7 rfl rfl hB0.k6 (vp_inL (n := 0) hB0.l6 (by decide) (by decide)) ?_
    rw [show bp_I _ (M 6) ((0 : Int32).toNatClampNeg) = nI ps.length from hB0.2.2.2.2.2.1.2.2.2.1]
    refine bp_icmp_ge (q := 15) (tgt := 28) 8 rfl rfl (by decide) (fun z12 => ?_) (fun z12 => ?_)
    · refine bp_iconst (v := 1) (q := 29) 16 rfl rfl (by decide) ?_
      refine bp_goto (tgt := 33) 17 rfl (by decide) ?_
      refine bp_putI (q := 36) (ci := 9) (j := 0) 19 rfl rfl fl_Mo_52_9 cl9 hB0.kb (fun r hr => by cases hr; rfl) (by decide) rfl rfl ?_
      refine bp_nx (X := fun h1 => MoX M h0 h1 1 i fa fm tl lk al ind sk dp lv fr en nf nn dg nu kd pn pe T xs L ps L1 p1 nt tb fd) (hB0.s0 rfl) (fun h1 hB1 => ?_)
      refine bp_aload_n (q := 37) 20 rfl rfl rfl rfl ?_
      refine bp_getI (q := 40) (ci := 9) (j := 0) 21 rfl rfl fl_Mo_52_9 hB1.kb rfl ?_
      rw [hB1.i0]
      refine bp_if_eq (q := 43) (tgt := 45) 22 rfl rfl (by decide) (fun z => absurd z (by decide)) (fun z40 => ?_)
      refine bp_iconst (v := 0) (q := 44) 23 rfl rfl (by decide) ?_
      exact bp_iret 24 rfl rfl rfl ⟨_, rfl, hQ1 (Or.inr z12) _ hB1⟩
    · refine bp_iload_n (q := 16) 9 rfl rfl rfl rfl ?_
      refine bp_if_lt (q := 19) (tgt := 28) 10 rfl rfl (by decide) (fun z16 => ?_) (fun z16 => ?_)
      · refine bp_iconst (v := 1) (q := 29) 16 rfl rfl (by decide) ?_
        refine bp_goto (tgt := 33) 17 rfl (by decide) ?_
        refine bp_putI (q := 36) (ci := 9) (j := 0) 19 rfl rfl fl_Mo_52_9 cl9 hB0.kb (fun r hr => by cases hr; rfl) (by decide) rfl rfl ?_
        refine bp_nx (X := fun h1 => MoX M h0 h1 1 i fa fm tl lk al ind sk dp lv fr en nf nn dg nu kd pn pe T xs L ps L1 p1 nt tb fd) (hB0.s0 rfl) (fun h1 hB1 => ?_)
        refine bp_aload_n (q := 37) 20 rfl rfl rfl rfl ?_
        refine bp_getI (q := 40) (ci := 9) (j := 0) 21 rfl rfl fl_Mo_52_9 hB1.kb rfl ?_
        rw [hB1.i0]
        refine bp_if_eq (q := 43) (tgt := 45) 22 rfl rfl (by decide) (fun z => absurd z (by decide)) (fun z40 => ?_)
        refine bp_iconst (v := 0) (q := 44) 23 rfl rfl (by decide) ?_
        refine bp_iret 24 rfl rfl rfl ⟨_, rfl, ?_⟩
        obtain ⟨p, hp, rfl⟩ : ∃ p, p < ps.length ∧ x = nI p := by obtain ⟨j, h1, h2⟩ := nI_of z2; subst h2; exact ⟨j, (nI_ltI h1 (by omega)).mp (Int32.not_le.mp z12), rfl⟩
        have hpe := (okp.2.2.1 p hp).2.2.1
        exact hQ2 p rfl hp (Or.inl z16) _ hB1
      · refine bp_iload_n (q := 20) 11 rfl rfl rfl rfl ?_
        obtain ⟨p, hp, rfl⟩ : ∃ p, p < ps.length ∧ x = nI p := by obtain ⟨j, h1, h2⟩ := nI_of z2; subst h2; exact ⟨j, (nI_ltI h1 (by omega)).mp (Int32.not_le.mp z12), rfl⟩
        have hpe := (okp.2.2.1 p hp).2.2.1
        refine bp_aload_n (q := 21) 12 rfl rfl rfl rfl ?_
        refine bp_iload_n (q := 22) 13 rfl rfl rfl rfl ?_
        refine bp_callV (q := 25) (ci := 9) 14 rfl rfl cw_Mo_lettersOf lk_Mo_414 rfl hB0.kb wd1737 wd86 rfl rfl (Nat.le_of_ble_eq_true rfl) ⟨Nat.le_of_ble_eq_true rfl, Nat.le_of_ble_eq_true rfl⟩ (s_Mo_lettersOf (ro := false) hB0 okp (by omega) ?_)
        rw [mlc_n okp hp L.length 0 rfl, Nat.max_eq_right (Nat.zero_le _)]
        refine bp_icmp_lt (q := 28) (tgt := 32) 15 rfl rfl (by decide) (fun z25 => ?_) (fun z25 => ?_)
        · refine bp_iconst (v := 0) (q := 33) 18 rfl rfl (by decide) ?_
          refine bp_putI (q := 36) (ci := 9) (j := 0) 19 rfl rfl fl_Mo_52_9 cl9 hB0.kb (fun r hr => by cases hr; rfl) (by decide) rfl rfl ?_
          refine bp_nx (X := fun h1 => MoX M h0 h1 0 i fa fm tl lk al ind sk dp lv fr en nf nn dg nu kd pn pe T xs L ps L1 p1 nt tb fd) (hB0.s0 rfl) (fun h1 hB1 => ?_)
          refine bp_aload_n (q := 37) 20 rfl rfl rfl rfl ?_
          refine bp_getI (q := 40) (ci := 9) (j := 0) 21 rfl rfl fl_Mo_52_9 hB1.kb rfl ?_
          rw [hB1.i0]
          refine bp_if_eq (q := 43) (tgt := 45) 22 rfl rfl (by decide) (fun z40 => ?_) (fun z => absurd z (by decide))
          refine bp_iconst (v := 0) (q := 46) 25 rfl rfl (by decide) ?_
          refine bp_istore_n (q := 47) 26 rfl rfl rfl (by decide) (bp_up3 rfl) ?_
          obtain ⟨i_, hi_, rfl⟩ := nI_of z16
          have hi2 := (nI_ltI hi_ (by omega)).mp z25
          refine lp_Mo_letter hB1 okp hp (by omega) ?_ (pst ps p) 0 (Nat.add_zero _)
          refine bp_aload_n (q := 64) 35 rfl rfl rfl rfl ?_
          refine bp_getR (x := M 7) (q := 67) (ci := 9) (j := 7) 36 rfl rfl fl_Mo_24_9 hB1.kb rfl hB1.r7 ?_
          refine bp_iload_n (q := 68) 37 rfl rfl rfl rfl ?_
          refine bp_iload_n (q := 69) 38 rfl rfl rfl rfl ?_
          refine bp_iadd (q := 70) 39 rfl rfl ?_
          rw [nI_add]
          refine bp_iald (q := 71) 40 rfl rfl hB1.k7 (vp_inL hB1.l7 (by omega) (by decide)) ?_
          rw [nI_clamp (by omega), hB1.c0 (by omega)]
          exact bp_iret 41 rfl rfl rfl ⟨_, rfl, hQ3 p i_ rfl rfl hp hi2 _ hB1⟩
        · refine bp_iconst (v := 1) (q := 29) 16 rfl rfl (by decide) ?_
          refine bp_goto (tgt := 33) 17 rfl (by decide) ?_
          refine bp_putI (q := 36) (ci := 9) (j := 0) 19 rfl rfl fl_Mo_52_9 cl9 hB0.kb (fun r hr => by cases hr; rfl) (by decide) rfl rfl ?_
          refine bp_nx (X := fun h1 => MoX M h0 h1 1 i fa fm tl lk al ind sk dp lv fr en nf nn dg nu kd pn pe T xs L ps L1 p1 nt tb fd) (hB0.s0 rfl) (fun h1 hB1 => ?_)
          refine bp_aload_n (q := 37) 20 rfl rfl rfl rfl ?_
          refine bp_getI (q := 40) (ci := 9) (j := 0) 21 rfl rfl fl_Mo_52_9 hB1.kb rfl ?_
          rw [hB1.i0]
          refine bp_if_eq (q := 43) (tgt := 45) 22 rfl rfl (by decide) (fun z => absurd z (by decide)) (fun z40 => ?_)
          refine bp_iconst (v := 0) (q := 44) 23 rfl rfl (by decide) ?_
          exact bp_iret 24 rfl rfl rfl ⟨_, rfl, hQ2 p rfl hp (Or.inr (Int32.not_lt.mp z25)) _ hB1⟩
set_option maxRecDepth 100000 in
set_option maxHeartbeats 4000000 in
theorem lp_Mo_take (hx : ∀ j, j < xs.length → xs.getD j 0 < 128) (hl : xs.length ≤ 400) (hQ : ∀ h', MoX M h0 h' 0 i fa fm tl lk al ind sk dp lv fr en nf nn dg nu kd pn pe xs xs L ps L1 p1 nt tb fd → Q (some (.int (nI xs.length))) h' c s) : ∀ (m k : Nat) (h : bp_H) (T1 : List Nat), m + k = xs.length → (∀ j, j < k → bp_I h (M 2) j = nI (xs.getD j 0)) → MoX M h0 h 0 i fa fm tl lk al ind sk dp lv fr en nf nn dg nu kd pn pe T1 xs L ps L1 p1 nt tb fd → bp_A l G H0 (0, 0, false, false) M_Mo_take h c s 30 [some (.ref (M 0)), some (.int (nI k))] [] (fun o h' c' s' => ∃ v, o = .returned v ∧ Q v h' c' s') := by
  intro m
  induction m with
  | zero =>
    intro k h T1 hm hV hB0
    refine bp_iload_n (q := 31) 16 rfl rfl rfl rfl ?_
    refine bp_aload_n (q := 32) 17 rfl rfl rfl rfl ?_
    refine bp_getI (q := 35) (ci := 9) (j := 3) 18 rfl rfl fl_Mo_66_9 hB0.kb rfl ?_
    rw [hB0.i3]
    refine bp_icmp_ge (q := 38) (tgt := 57) 19 rfl rfl (by decide) (fun z35 => ?_) (fun z35 => ?_)
    · refine bp_aload_n (q := 58) 31 rfl rfl rfl rfl ?_
      refine bp_aload_n (q := 59) 32 rfl rfl rfl rfl ?_
      refine bp_getI (q := 62) (ci := 9) (j := 3) 33 rfl rfl fl_Mo_66_9 hB0.kb rfl ?_
      rw [hB0.i3]
      refine bp_putI (q := 65) (ci := 9) (j := 1) 34 rfl rfl fl_Mo_63_9 cl9 hB0.kb (fun r hr => by cases hr; rfl) (by decide) rfl rfl ?_
      refine bp_nx (X := fun h1 => MoX M h0 h1 0 i fa fm tl lk al ind sk dp lv fr en nf nn dg nu kd pn pe xs xs L ps L1 p1 nt tb fd) (hB0.set1 (ys := xs) rfl hl (fun j hj => hV j (by omega))) (fun h1 hB1 => ?_)
      refine bp_aload_n (q := 66) 35 rfl rfl rfl rfl ?_
      refine bp_getI (q := 69) (ci := 9) (j := 1) 36 rfl rfl fl_Mo_63_9 hB1.kb rfl ?_
      rw [hB1.i1]
      exact bp_iret 37 rfl rfl rfl ⟨_, rfl, hQ _ hB1⟩
    · exact absurd (nI_le (by omega) (by omega)) z35
  | succ m ih =>
    intro k h T1 hm hV hB0
    have hk : k < xs.length := by omega
    refine bp_iload_n (q := 31) 16 rfl rfl rfl rfl ?_
    refine bp_aload_n (q := 32) 17 rfl rfl rfl rfl ?_
    refine bp_getI (q := 35) (ci := 9) (j := 3) 18 rfl rfl fl_Mo_66_9 hB0.kb rfl ?_
    rw [hB0.i3]
    refine bp_icmp_ge (q := 38) (tgt := 57) 19 rfl rfl (by decide) (fun z35 => ?_) (fun z35 => ?_)
    · exact absurd z35 (nI_ge hk (by omega))
    · refine bp_aload_n (q := 39) 20 rfl rfl rfl rfl ?_
      refine bp_getR (x := M 2) (q := 42) (ci := 9) (j := 2) 21 rfl rfl fl_Mo_7_9 hB0.kb rfl hB0.r2 ?_
      refine bp_iload_n (q := 43) 22 rfl rfl rfl rfl ?_
      refine bp_aload_n (q := 44) 23 rfl rfl rfl rfl ?_
      refine bp_getR (x := M 4) (q := 47) (ci := 9) (j := 4) 24 rfl rfl fl_Mo_13_9 hB0.kb rfl hB0.r4 ?_
      refine bp_iload_n (q := 48) 25 rfl rfl rfl rfl ?_
      refine bp_bald (q := 49) 26 rfl rfl hB0.k4 (vp_inL hB0.l4 (by have := hB0.2.2.2.2.1.1; omega) (by decide)) ?_
      rw [nI_clamp (by omega), hB0.2.2.2.2.1.2 k hk]
      refine bp_i2c (q := 50) 27 rfl rfl ?_
      rw [ch_id _ (by have := hx k hk; omega)]
      refine bp_cast (q := 51) 28 rfl rfl hB0.k2 (vp_inL hB0.l2 (by omega) (by decide)) (ch_nar (by have := hx k hk; omega)) ?_
      rw [nI_clamp (by omega)]
      obtain ⟨T2, hT2, hB2⟩ := hB0.w2a (k := k) (v := xs.getD k 0) rfl
      have hV2 : ∀ j, j < k + 1 → bp_I (bp_sI h (M 2) k (nI (xs.getD k 0))) (M 2) j = nI (xs.getD j 0) := fun j hj => by
        rw [bp_I_sI]
        by_cases e : j = k
        · rw [if_pos ⟨rfl, e⟩, e]
        · rw [if_neg (fun y => e y.2)]; exact hV j (by omega)
      refine bp_iinc (v := nI (k + 1)) (q := 54) 29 rfl rfl rfl (nI_1 k) (by decide) (bp_up1 rfl) ?_
      refine bp_goto (tgt := 30) 30 rfl (by decide) ?_
      exact ih (k + 1) _ T2 (by omega) hV2 hB2
set_option maxRecDepth 100000 in
set_option maxHeartbeats 4000000 in
theorem s_Mo_take  (hB0 : MoX M h0 h tw i fa fm tl lk al ind sk dp lv fr en nf nn dg nu kd pn pe T xs L ps L1 p1 nt tb fd) (hx : ∀ j, j < xs.length → xs.getD j 0 < 128) (hQ1 : 400 < xs.length → ∀ h', MoX M h0 h' 1 i fa fm tl lk al ind sk dp lv fr en nf nn dg nu kd pn pe T xs L ps L1 p1 nt tb fd → Q (some (.int 0)) h' c s) (hQ2 : xs.length ≤ 400 → ∀ h', MoX M h0 h' 0 i fa fm tl lk al ind sk dp lv fr en nf nn dg nu kd pn pe xs xs L ps L1 p1 nt tb fd → Q (some (.int (nI xs.length))) h' c s) : bp_AM l G H0 (0, 0, false, false) M_Mo_take h c s [.ref (M 0)] Q := by
  refine bp_of (ls := [some (.ref (M 0)), none]) (by decide) dt_Mo_take (Nat.le_of_ble_eq_true rfl) (fun q hq => hq) false ?_
  refine bp_aload_n (q := 1) 0 rfl rfl rfl rfl ?_
  refine bp_aload_n (q := 2) 1 rfl rfl rfl rfl ?_
  refine bp_getI (q := 5) (ci := 9) (j := 3) 2 rfl rfl fl_Mo_66_9 hB0.kb rfl ?_
  rw [hB0.i3]
  refine bp_sipush (v := 400) (q := 8) 3 rfl rfl (by decide) ?_
  refine bp_icmp_le (q := 11) (tgt := 15) 4 rfl rfl (by decide) (fun z8 => ?_) (fun z8 => ?_)
  · refine bp_iconst (v := 0) (q := 16) 7 rfl rfl (by decide) ?_
    refine bp_putI (q := 19) (ci := 9) (j := 0) 8 rfl rfl fl_Mo_52_9 cl9 hB0.kb (fun r hr => by cases hr; rfl) (by decide) rfl rfl ?_
    refine bp_nx (X := fun h1 => MoX M h0 h1 0 i fa fm tl lk al ind sk dp lv fr en nf nn dg nu kd pn pe T xs L ps L1 p1 nt tb fd) (hB0.s0 rfl) (fun h1 hB1 => ?_)
    refine bp_aload_n (q := 20) 9 rfl rfl rfl rfl ?_
    refine bp_getI (q := 23) (ci := 9) (j := 0) 10 rfl rfl fl_Mo_52_9 hB1.kb rfl ?_
    rw [hB1.i0]
    refine bp_if_eq (q := 26) (tgt := 28) 11 rfl rfl (by decide) (fun z23 => ?_) (fun z => absurd z (by decide))
    refine bp_iconst (v := 0) (q := 29) 14 rfl rfl (by decide) ?_
    refine bp_istore_n (q := 30) 15 rfl rfl rfl (by decide) (bp_up1 rfl) ?_
    exact lp_Mo_take hx ((nI_leI (a := xs.length) (b := 400) (by have := hB0.2.2.2.2.1.1; omega) (by decide)).mp z8) (hQ2 ((nI_leI (a := xs.length) (b := 400) (by have := hB0.2.2.2.2.1.1; omega) (by decide)).mp z8)) xs.length 0 _ T rfl (fun j hj => absurd hj (Nat.not_lt_zero j)) hB1
  · refine bp_iconst (v := 1) (q := 12) 5 rfl rfl (by decide) ?_
    refine bp_goto (tgt := 16) 6 rfl (by decide) ?_
    refine bp_putI (q := 19) (ci := 9) (j := 0) 8 rfl rfl fl_Mo_52_9 cl9 hB0.kb (fun r hr => by cases hr; rfl) (by decide) rfl rfl ?_
    refine bp_nx (X := fun h1 => MoX M h0 h1 1 i fa fm tl lk al ind sk dp lv fr en nf nn dg nu kd pn pe T xs L ps L1 p1 nt tb fd) (hB0.s0 rfl) (fun h1 hB1 => ?_)
    refine bp_aload_n (q := 20) 9 rfl rfl rfl rfl ?_
    refine bp_getI (q := 23) (ci := 9) (j := 0) 10 rfl rfl fl_Mo_52_9 hB1.kb rfl ?_
    rw [hB1.i0]
    refine bp_if_eq (q := 26) (tgt := 28) 11 rfl rfl (by decide) (fun z => absurd z (by decide)) (fun z23 => ?_)
    refine bp_iconst (v := 0) (q := 27) 12 rfl rfl (by decide) ?_
    exact bp_iret 13 rfl rfl rfl ⟨_, rfl, hQ1 (Nat.not_le.mp (fun e => z8 ((nI_leI (a := xs.length) (b := 400) (by have := hB0.2.2.2.2.1.1; omega) (by decide)).mpr e))) _ hB1⟩
set_option maxRecDepth 100000 in
set_option maxHeartbeats 4000000 in
theorem lp_Mo_feed0 {ro g : Bool} {x v : Int64} {k : Nat} {Q : Outcome → bp_H → Nat → Nat → Prop} (hB0 : MoX M h0 h tw i fa fm tl lk al ind sk dp lv fr en nf nn dg nu kd pn pe T xs L ps L1 p1 nt tb fd) (hk : k < 1000) (hQ : ∀ (k' : Int32) (v' : Int64), bp_A l G H0 (0, 0, ro, ro) M_Mo_feed h c s 101 [some (.ref (M 0)), some (.long x), none, some (.int (nI k)), some (.int (bI g)), some (.int k'), some (.long v'), none] [] Q) : bp_A l G H0 (0, 0, ro, ro) M_Mo_feed h c s 8 [some (.ref (M 0)), some (.long x), none, some (.int (nI k)), some (.int (bI g)), some (.int (nI (k + 1))), some (.long v), none] [] Q := by
  refine bp_iload (q := 10) 6 rfl rfl rfl ?_
  refine bp_bipush (v := 8) (q := 12) 7 rfl rfl (by decide) ?_
  refine bp_icmp_ge (q := 15) (tgt := 101) 8 rfl rfl (by decide) (fun z12 => ?_) (fun z12 => ?_)
  · exact hQ _ _
  · refine bp_iload_n (q := 16) 9 rfl rfl rfl rfl ?_
    refine bp_iload (q := 18) 10 rfl rfl rfl ?_
    refine bp_icmp_ne (q := 21) (tgt := 101) 11 rfl rfl (by decide) (fun z18 => ?_) (fun z18 => ?_)
    · exact hQ _ _
    · exact absurd z18 (fun e => by have := (nI_eq_iff (by omega) (by omega)).mp e; omega)
set_option maxRecDepth 100000 in
set_option maxHeartbeats 4000000 in
theorem lp_Mo_feed1 {ro : Bool} {x : Int64} {Q : Outcome → bp_H → Nat → Nat → Prop} (hB0 : MoX M h0 h tw i fa fm tl lk al ind sk dp lv fr en nf nn dg nu kd pn pe T xs L ps L1 p1 nt tb fd) : ∀ (m k : Nat) (g : Bool) (v : Int64), m + k = 8 → (∀ (k' : Int32) (v' : Int64), bp_A l G H0 (0, 0, ro, ro) M_Mo_feed h c s 101 [some (.ref (M 0)), some (.long x), none, some (.int (nI (fdC x m k))), some (.int (bI (g && fdG x m k))), some (.int k'), some (.long v'), none] [] Q) → bp_A l G H0 (0, 0, ro, ro) M_Mo_feed h c s 8 [some (.ref (M 0)), some (.long x), none, some (.int (nI k)), some (.int (bI g)), some (.int (nI k)), some (.long v), none] [] Q := by
  intro m
  induction m with
  | zero =>
    intro k g v hm hQ
    refine bp_iload (q := 10) 6 rfl rfl rfl ?_
    refine bp_bipush (v := 8) (q := 12) 7 rfl rfl (by decide) ?_
    refine bp_icmp_ge (q := 15) (tgt := 101) 8 rfl rfl (by decide) (fun z12 => ?_) (fun z12 => ?_)
    · rw [fdC, fdG, Bool.and_true] at hQ
      exact hQ _ _
    · exact absurd (nI_le (b := k) (a := 8) (by omega) (by omega)) z12
  | succ m ih =>
    intro k g v hm hQ
    refine bp_iload (q := 10) 6 rfl rfl rfl ?_
    refine bp_bipush (v := 8) (q := 12) 7 rfl rfl (by decide) ?_
    refine bp_icmp_ge (q := 15) (tgt := 101) 8 rfl rfl (by decide) (fun z12 => ?_) (fun z12 => ?_)
    · exact absurd z12 (nI_ge (a := k) (b := 8) (by omega) (by decide))
    · refine bp_iload_n (q := 16) 9 rfl rfl rfl rfl ?_
      refine bp_iload (q := 18) 10 rfl rfl rfl ?_
      refine bp_icmp_ne (q := 21) (tgt := 101) 11 rfl rfl (by decide) (fun z18 => ?_) (fun z18 => ?_)
      · exact absurd rfl z18
      · refine bp_lload_n (q := 22) 12 rfl rfl rfl rfl ?_
        refine bp_bipush (v := 8) (q := 24) 13 rfl rfl (by decide) ?_
        refine bp_iload (q := 26) 14 rfl rfl rfl ?_
        refine bp_imul (q := 27) 15 rfl rfl ?_
        refine bp_lushr (q := 28) 16 rfl rfl ?_
        refine bp_ldc2 (q := 31) 17 rfl rfl wd1423 ?_
        refine bp_land (q := 32) 18 rfl rfl ?_
        obtain ⟨b, hb, e1, e2⟩ := b8_n (lsh x k)
        rw [show (x.toUInt64 >>> ((8 * nI k).toInt64.toUInt64 &&& Int64.toUInt64 63)).toInt64 &&& 255 = (nI b).toInt64 from e1]
        have ey : by8 x (nI k) = nI b := e2
        have cc := b8_c b hb
        refine bp_lstore (q := 34) 19 rfl rfl (by decide) (bp_uq6 rfl) ?_
        refine bp_iload (q := 36) 20 rfl rfl rfl ?_
        refine bp_if_eq (q := 39) (tgt := 77) 21 rfl rfl (by decide) (fun z36 => ?_) (fun z36 => ?_)
        · refine bp_iconst (v := 0) (q := 78) 40 rfl rfl (by decide) ?_
          refine bp_istore (q := 80) 41 rfl rfl (by decide) (bp_up4 rfl) ?_
          refine bp_lload (q := 82) 42 rfl rfl rfl ?_
          refine bp_lconst (v := 0) (q := 83) 43 rfl rfl (by decide) ?_
          refine bp_lcmp (q := 84) 44 rfl rfl ?_
          refine bp_if_ne (q := 87) (tgt := 91) 45 rfl rfl (by decide) (fun z84 => ?_) (fun z84 => ?_)
          · refine bp_iload_n (q := 92) 48 rfl rfl rfl rfl ?_
            refine bp_iconst (v := 1) (q := 93) 49 rfl rfl (by decide) ?_
            refine bp_iadd (q := 94) 50 rfl rfl ?_
            refine bp_istore_n (q := 95) 51 rfl rfl rfl (by decide) (bp_up3 rfl) ?_
            refine bp_iinc (v := nI (k + 1)) (q := 98) 52 rfl rfl rfl (nI_1 k) (by decide) (bp_up5 rfl) ?_
            refine bp_goto (tgt := 8) 53 rfl (by decide) ?_
            have y0 : ¬ b = 0 := fun e => z84 (cc.1.mpr e)
            have yn : ¬ by8 x (nI k) = 0 := fun e => y0 (cc.2.2.2.2.2.1.mp (by rw [← ey]; exact e))
            rw [fdC, if_neg yn, fdG, if_neg yn] at hQ
            rw [nI_1]
            have yg : g = false := bI0.mp z36
            subst yg
            exact ih (k + 1) false _ (by omega) hQ
          · refine bp_iload_n (q := 88) 46 rfl rfl rfl rfl ?_
            refine bp_goto (tgt := 94) 47 rfl (by decide) ?_
            refine bp_istore_n (q := 95) 51 rfl rfl rfl (by decide) (bp_up3 rfl) ?_
            refine bp_iinc (v := nI (k + 1)) (q := 98) 52 rfl rfl rfl (nI_1 k) (by decide) (bp_up5 rfl) ?_
            refine bp_goto (tgt := 8) 53 rfl (by decide) ?_
            have y0 : b = 0 := cc.1.mp z84
            have yg : g = false := bI0.mp z36
            subst yg
            rw [fdC, if_pos (by rw [ey, y0]; rfl), fdG, if_pos (by rw [ey, y0]; rfl)] at hQ
            exact lp_Mo_feed0 (g := false) hB0 (by omega) hQ
        · refine bp_lload (q := 41) 22 rfl rfl rfl ?_
          refine bp_lconst (v := 0) (q := 42) 23 rfl rfl (by decide) ?_
          refine bp_lcmp (q := 43) 24 rfl rfl ?_
          refine bp_if_eq (q := 46) (tgt := 73) 25 rfl rfl (by decide) (fun z43 => ?_) (fun z43 => ?_)
          · refine bp_iconst (v := 1) (q := 74) 38 rfl rfl (by decide) ?_
            refine bp_goto (tgt := 78) 39 rfl (by decide) ?_
            refine bp_istore (q := 80) 41 rfl rfl (by decide) (bp_up4 rfl) ?_
            refine bp_lload (q := 82) 42 rfl rfl rfl ?_
            refine bp_lconst (v := 0) (q := 83) 43 rfl rfl (by decide) ?_
            refine bp_lcmp (q := 84) 44 rfl rfl ?_
            refine bp_if_ne (q := 87) (tgt := 91) 45 rfl rfl (by decide) (fun z84 => ?_) (fun z84 => ?_)
            · refine bp_iload_n (q := 92) 48 rfl rfl rfl rfl ?_
              refine bp_iconst (v := 1) (q := 93) 49 rfl rfl (by decide) ?_
              refine bp_iadd (q := 94) 50 rfl rfl ?_
              refine bp_istore_n (q := 95) 51 rfl rfl rfl (by decide) (bp_up3 rfl) ?_
              refine bp_iinc (v := nI (k + 1)) (q := 98) 52 rfl rfl rfl (nI_1 k) (by decide) (bp_up5 rfl) ?_
              refine bp_goto (tgt := 8) 53 rfl (by decide) ?_
              have y0 : ¬ b = 0 := fun e => z84 (cc.1.mpr e)
              have yn : ¬ by8 x (nI k) = 0 := fun e => y0 (cc.2.2.2.2.2.1.mp (by rw [← ey]; exact e))
              rw [fdC, if_neg yn, fdG, if_neg yn] at hQ
              rw [nI_1]
              exact absurd (cc.1.mp z43) y0
            · refine bp_iload_n (q := 88) 46 rfl rfl rfl rfl ?_
              refine bp_goto (tgt := 94) 47 rfl (by decide) ?_
              refine bp_istore_n (q := 95) 51 rfl rfl rfl (by decide) (bp_up3 rfl) ?_
              refine bp_iinc (v := nI (k + 1)) (q := 98) 52 rfl rfl rfl (nI_1 k) (by decide) (bp_up5 rfl) ?_
              refine bp_goto (tgt := 8) 53 rfl (by decide) ?_
              have y0 : b = 0 := cc.1.mp z84
              have yg : g = true := bI1 z36
              subst yg
              rw [fdC, if_pos (by rw [ey, y0]; rfl), fdG, if_pos (by rw [ey, y0]; rfl)] at hQ
              exact lp_Mo_feed0 (g := true) hB0 (by omega) hQ
          · refine bp_lload (q := 48) 26 rfl rfl rfl ?_
            refine bp_ldc2 (q := 51) 27 rfl rfl wd1424 ?_
            refine bp_lcmp (q := 52) 28 rfl rfl ?_
            refine bp_if_eq (q := 55) (tgt := 73) 29 rfl rfl (by decide) (fun z52 => ?_) (fun z52 => ?_)
            · refine bp_iconst (v := 1) (q := 74) 38 rfl rfl (by decide) ?_
              refine bp_goto (tgt := 78) 39 rfl (by decide) ?_
              refine bp_istore (q := 80) 41 rfl rfl (by decide) (bp_up4 rfl) ?_
              refine bp_lload (q := 82) 42 rfl rfl rfl ?_
              refine bp_lconst (v := 0) (q := 83) 43 rfl rfl (by decide) ?_
              refine bp_lcmp (q := 84) 44 rfl rfl ?_
              refine bp_if_ne (q := 87) (tgt := 91) 45 rfl rfl (by decide) (fun z84 => ?_) (fun z84 => ?_)
              · refine bp_iload_n (q := 92) 48 rfl rfl rfl rfl ?_
                refine bp_iconst (v := 1) (q := 93) 49 rfl rfl (by decide) ?_
                refine bp_iadd (q := 94) 50 rfl rfl ?_
                refine bp_istore_n (q := 95) 51 rfl rfl rfl (by decide) (bp_up3 rfl) ?_
                refine bp_iinc (v := nI (k + 1)) (q := 98) 52 rfl rfl rfl (nI_1 k) (by decide) (bp_up5 rfl) ?_
                refine bp_goto (tgt := 8) 53 rfl (by decide) ?_
                have y0 : ¬ b = 0 := fun e => z84 (cc.1.mpr e)
                have yn : ¬ by8 x (nI k) = 0 := fun e => y0 (cc.2.2.2.2.2.1.mp (by rw [← ey]; exact e))
                rw [fdC, if_neg yn, fdG, if_neg yn] at hQ
                rw [nI_1]
                have yg : g = true := bI1 z36
                subst yg
                have yc : isCh (by8 x (nI k)) = true := by rw [ey]; exact cc.2.2.2.2.2.2.mpr (Or.inl (cc.2.1.mp z52))
                rw [yc] at hQ
                exact ih (k + 1) true _ (by omega) hQ
              · refine bp_iload_n (q := 88) 46 rfl rfl rfl rfl ?_
                refine bp_goto (tgt := 94) 47 rfl (by decide) ?_
                refine bp_istore_n (q := 95) 51 rfl rfl rfl (by decide) (bp_up3 rfl) ?_
                refine bp_iinc (v := nI (k + 1)) (q := 98) 52 rfl rfl rfl (nI_1 k) (by decide) (bp_up5 rfl) ?_
                refine bp_goto (tgt := 8) 53 rfl (by decide) ?_
                have y0 : b = 0 := cc.1.mp z84
                exact absurd (cc.1.mpr y0) z43
            · refine bp_lload (q := 57) 30 rfl rfl rfl ?_
              refine bp_ldc2 (q := 60) 31 rfl rfl wd1425 ?_
              refine bp_lcmp (q := 61) 32 rfl rfl ?_
              refine bp_if_lt (q := 64) (tgt := 77) 33 rfl rfl (by decide) (fun z61 => ?_) (fun z61 => ?_)
              · refine bp_iconst (v := 0) (q := 78) 40 rfl rfl (by decide) ?_
                refine bp_istore (q := 80) 41 rfl rfl (by decide) (bp_up4 rfl) ?_
                refine bp_lload (q := 82) 42 rfl rfl rfl ?_
                refine bp_lconst (v := 0) (q := 83) 43 rfl rfl (by decide) ?_
                refine bp_lcmp (q := 84) 44 rfl rfl ?_
                refine bp_if_ne (q := 87) (tgt := 91) 45 rfl rfl (by decide) (fun z84 => ?_) (fun z84 => ?_)
                · refine bp_iload_n (q := 92) 48 rfl rfl rfl rfl ?_
                  refine bp_iconst (v := 1) (q := 93) 49 rfl rfl (by decide) ?_
                  refine bp_iadd (q := 94) 50 rfl rfl ?_
                  refine bp_istore_n (q := 95) 51 rfl rfl rfl (by decide) (bp_up3 rfl) ?_
                  refine bp_iinc (v := nI (k + 1)) (q := 98) 52 rfl rfl rfl (nI_1 k) (by decide) (bp_up5 rfl) ?_
                  refine bp_goto (tgt := 8) 53 rfl (by decide) ?_
                  have y0 : ¬ b = 0 := fun e => z84 (cc.1.mpr e)
                  have yn : ¬ by8 x (nI k) = 0 := fun e => y0 (cc.2.2.2.2.2.1.mp (by rw [← ey]; exact e))
                  rw [fdC, if_neg yn, fdG, if_neg yn] at hQ
                  rw [nI_1]
                  have yg : g = true := bI1 z36
                  subst yg
                  have yc : isCh (by8 x (nI k)) = false := by
                    have a := cc.2.2.1.mp z61
                    have b_ : ¬ b = 10 := fun e => z52 (cc.2.1.mpr e)
                    rw [ey]
                    exact Bool.eq_false_iff.mpr (fun e => by have := cc.2.2.2.2.2.2.mp e; omega)
                  rw [yc] at hQ
                  exact ih (k + 1) false _ (by omega) hQ
                · refine bp_iload_n (q := 88) 46 rfl rfl rfl rfl ?_
                  refine bp_goto (tgt := 94) 47 rfl (by decide) ?_
                  refine bp_istore_n (q := 95) 51 rfl rfl rfl (by decide) (bp_up3 rfl) ?_
                  refine bp_iinc (v := nI (k + 1)) (q := 98) 52 rfl rfl rfl (nI_1 k) (by decide) (bp_up5 rfl) ?_
                  refine bp_goto (tgt := 8) 53 rfl (by decide) ?_
                  have y0 : b = 0 := cc.1.mp z84
                  exact absurd (cc.1.mpr y0) z43
              · refine bp_lload (q := 66) 34 rfl rfl rfl ?_
                refine bp_ldc2 (q := 69) 35 rfl rfl wd1426 ?_
                refine bp_lcmp (q := 70) 36 rfl rfl ?_
                refine bp_if_gt (q := 73) (tgt := 77) 37 rfl rfl (by decide) (fun z70 => ?_) (fun z70 => ?_)
                · refine bp_iconst (v := 0) (q := 78) 40 rfl rfl (by decide) ?_
                  refine bp_istore (q := 80) 41 rfl rfl (by decide) (bp_up4 rfl) ?_
                  refine bp_lload (q := 82) 42 rfl rfl rfl ?_
                  refine bp_lconst (v := 0) (q := 83) 43 rfl rfl (by decide) ?_
                  refine bp_lcmp (q := 84) 44 rfl rfl ?_
                  refine bp_if_ne (q := 87) (tgt := 91) 45 rfl rfl (by decide) (fun z84 => ?_) (fun z84 => ?_)
                  · refine bp_iload_n (q := 92) 48 rfl rfl rfl rfl ?_
                    refine bp_iconst (v := 1) (q := 93) 49 rfl rfl (by decide) ?_
                    refine bp_iadd (q := 94) 50 rfl rfl ?_
                    refine bp_istore_n (q := 95) 51 rfl rfl rfl (by decide) (bp_up3 rfl) ?_
                    refine bp_iinc (v := nI (k + 1)) (q := 98) 52 rfl rfl rfl (nI_1 k) (by decide) (bp_up5 rfl) ?_
                    refine bp_goto (tgt := 8) 53 rfl (by decide) ?_
                    have y0 : ¬ b = 0 := fun e => z84 (cc.1.mpr e)
                    have yn : ¬ by8 x (nI k) = 0 := fun e => y0 (cc.2.2.2.2.2.1.mp (by rw [← ey]; exact e))
                    rw [fdC, if_neg yn, fdG, if_neg yn] at hQ
                    rw [nI_1]
                    have yg : g = true := bI1 z36
                    subst yg
                    have yc : isCh (by8 x (nI k)) = false := by
                      have a := cc.2.2.2.1.mp z70
                      rw [ey]
                      exact Bool.eq_false_iff.mpr (fun e => by have := cc.2.2.2.2.2.2.mp e; omega)
                    rw [yc] at hQ
                    exact ih (k + 1) false _ (by omega) hQ
                  · refine bp_iload_n (q := 88) 46 rfl rfl rfl rfl ?_
                    refine bp_goto (tgt := 94) 47 rfl (by decide) ?_
                    refine bp_istore_n (q := 95) 51 rfl rfl rfl (by decide) (bp_up3 rfl) ?_
                    refine bp_iinc (v := nI (k + 1)) (q := 98) 52 rfl rfl rfl (nI_1 k) (by decide) (bp_up5 rfl) ?_
                    refine bp_goto (tgt := 8) 53 rfl (by decide) ?_
                    have y0 : b = 0 := cc.1.mp z84
                    exact absurd (cc.1.mpr y0) z43
                · refine bp_iconst (v := 1) (q := 74) 38 rfl rfl (by decide) ?_
                  refine bp_goto (tgt := 78) 39 rfl (by decide) ?_
                  refine bp_istore (q := 80) 41 rfl rfl (by decide) (bp_up4 rfl) ?_
                  refine bp_lload (q := 82) 42 rfl rfl rfl ?_
                  refine bp_lconst (v := 0) (q := 83) 43 rfl rfl (by decide) ?_
                  refine bp_lcmp (q := 84) 44 rfl rfl ?_
                  refine bp_if_ne (q := 87) (tgt := 91) 45 rfl rfl (by decide) (fun z84 => ?_) (fun z84 => ?_)
                  · refine bp_iload_n (q := 92) 48 rfl rfl rfl rfl ?_
                    refine bp_iconst (v := 1) (q := 93) 49 rfl rfl (by decide) ?_
                    refine bp_iadd (q := 94) 50 rfl rfl ?_
                    refine bp_istore_n (q := 95) 51 rfl rfl rfl (by decide) (bp_up3 rfl) ?_
                    refine bp_iinc (v := nI (k + 1)) (q := 98) 52 rfl rfl rfl (nI_1 k) (by decide) (bp_up5 rfl) ?_
                    refine bp_goto (tgt := 8) 53 rfl (by decide) ?_
                    have y0 : ¬ b = 0 := fun e => z84 (cc.1.mpr e)
                    have yn : ¬ by8 x (nI k) = 0 := fun e => y0 (cc.2.2.2.2.2.1.mp (by rw [← ey]; exact e))
                    rw [fdC, if_neg yn, fdG, if_neg yn] at hQ
                    rw [nI_1]
                    have yg : g = true := bI1 z36
                    subst yg
                    have yc : isCh (by8 x (nI k)) = true := by
                      have a := mt cc.2.2.1.mpr z61
                      have b_ := mt cc.2.2.2.1.mpr (by first | exact z70 | exact Int32.not_lt.mpr z70)
                      rw [ey]
                      exact cc.2.2.2.2.2.2.mpr (by omega)
                    rw [yc] at hQ
                    exact ih (k + 1) true _ (by omega) hQ
                  · refine bp_iload_n (q := 88) 46 rfl rfl rfl rfl ?_
                    refine bp_goto (tgt := 94) 47 rfl (by decide) ?_
                    refine bp_istore_n (q := 95) 51 rfl rfl rfl (by decide) (bp_up3 rfl) ?_
                    refine bp_iinc (v := nI (k + 1)) (q := 98) 52 rfl rfl rfl (nI_1 k) (by decide) (bp_up5 rfl) ?_
                    refine bp_goto (tgt := 8) 53 rfl (by decide) ?_
                    have y0 : b = 0 := cc.1.mp z84
                    exact absurd (cc.1.mpr y0) z43
set_option maxRecDepth 100000 in
set_option maxHeartbeats 4000000 in
theorem lp_Mo_feedS {ro g : Bool} {x : Int64} {k : Nat} {Q : Outcome → bp_H → Nat → Nat → Prop} (hB0 : MoX M h0 h tw i fa fm tl lk al ind sk dp lv fr en nf nn dg nu kd pn pe T xs L ps L1 p1 nt tb fd) (hk : k = 0) (hQ : ∀ (k' : Int32) (v' : Int64), bp_A l G H0 (0, 0, ro, ro) M_Mo_feed h c s 101 [some (.ref (M 0)), some (.long x), none, some (.int (nI (fdC x (7 + 1) k))), some (.int (bI (g && fdG x (7 + 1) k))), some (.int k'), some (.long v'), none] [] Q) : bp_A l G H0 (0, 0, ro, ro) M_Mo_feed h c s 8 [some (.ref (M 0)), some (.long x), none, some (.int (nI k)), some (.int (bI g)), some (.int (nI k)), none, none] [] Q := by
  refine bp_iload (q := 10) 6 rfl rfl rfl ?_
  refine bp_bipush (v := 8) (q := 12) 7 rfl rfl (by decide) ?_
  refine bp_icmp_ge (q := 15) (tgt := 101) 8 rfl rfl (by decide) (fun z12 => ?_) (fun z12 => ?_)
  · exact absurd z12 (nI_ge (a := k) (b := 8) (by omega) (by decide))
  · refine bp_iload_n (q := 16) 9 rfl rfl rfl rfl ?_
    refine bp_iload (q := 18) 10 rfl rfl rfl ?_
    refine bp_icmp_ne (q := 21) (tgt := 101) 11 rfl rfl (by decide) (fun z18 => ?_) (fun z18 => ?_)
    · exact absurd rfl z18
    · refine bp_lload_n (q := 22) 12 rfl rfl rfl rfl ?_
      refine bp_bipush (v := 8) (q := 24) 13 rfl rfl (by decide) ?_
      refine bp_iload (q := 26) 14 rfl rfl rfl ?_
      refine bp_imul (q := 27) 15 rfl rfl ?_
      refine bp_lushr (q := 28) 16 rfl rfl ?_
      refine bp_ldc2 (q := 31) 17 rfl rfl wd1423 ?_
      refine bp_land (q := 32) 18 rfl rfl ?_
      obtain ⟨b, hb, e1, e2⟩ := b8_n (lsh x k)
      rw [show (x.toUInt64 >>> ((8 * nI k).toInt64.toUInt64 &&& Int64.toUInt64 63)).toInt64 &&& 255 = (nI b).toInt64 from e1]
      have ey : by8 x (nI k) = nI b := e2
      have cc := b8_c b hb
      refine bp_lstore (q := 34) 19 rfl rfl (by decide) (bp_uq6 rfl) ?_
      refine bp_iload (q := 36) 20 rfl rfl rfl ?_
      refine bp_if_eq (q := 39) (tgt := 77) 21 rfl rfl (by decide) (fun z36 => ?_) (fun z36 => ?_)
      · refine bp_iconst (v := 0) (q := 78) 40 rfl rfl (by decide) ?_
        refine bp_istore (q := 80) 41 rfl rfl (by decide) (bp_up4 rfl) ?_
        refine bp_lload (q := 82) 42 rfl rfl rfl ?_
        refine bp_lconst (v := 0) (q := 83) 43 rfl rfl (by decide) ?_
        refine bp_lcmp (q := 84) 44 rfl rfl ?_
        refine bp_if_ne (q := 87) (tgt := 91) 45 rfl rfl (by decide) (fun z84 => ?_) (fun z84 => ?_)
        · refine bp_iload_n (q := 92) 48 rfl rfl rfl rfl ?_
          refine bp_iconst (v := 1) (q := 93) 49 rfl rfl (by decide) ?_
          refine bp_iadd (q := 94) 50 rfl rfl ?_
          refine bp_istore_n (q := 95) 51 rfl rfl rfl (by decide) (bp_up3 rfl) ?_
          refine bp_iinc (v := nI (k + 1)) (q := 98) 52 rfl rfl rfl (nI_1 k) (by decide) (bp_up5 rfl) ?_
          refine bp_goto (tgt := 8) 53 rfl (by decide) ?_
          have y0 : ¬ b = 0 := fun e => z84 (cc.1.mpr e)
          have yn : ¬ by8 x (nI k) = 0 := fun e => y0 (cc.2.2.2.2.2.1.mp (by rw [← ey]; exact e))
          rw [fdC, if_neg yn, fdG, if_neg yn] at hQ
          rw [nI_1]
          have yg : g = false := bI0.mp z36
          subst yg
          exact lp_Mo_feed1 hB0 7 (k + 1) false _ (by omega) hQ
        · refine bp_iload_n (q := 88) 46 rfl rfl rfl rfl ?_
          refine bp_goto (tgt := 94) 47 rfl (by decide) ?_
          refine bp_istore_n (q := 95) 51 rfl rfl rfl (by decide) (bp_up3 rfl) ?_
          refine bp_iinc (v := nI (k + 1)) (q := 98) 52 rfl rfl rfl (nI_1 k) (by decide) (bp_up5 rfl) ?_
          refine bp_goto (tgt := 8) 53 rfl (by decide) ?_
          have y0 : b = 0 := cc.1.mp z84
          have yg : g = false := bI0.mp z36
          subst yg
          rw [fdC, if_pos (by rw [ey, y0]; rfl), fdG, if_pos (by rw [ey, y0]; rfl)] at hQ
          exact lp_Mo_feed0 (g := false) hB0 (by omega) hQ
      · refine bp_lload (q := 41) 22 rfl rfl rfl ?_
        refine bp_lconst (v := 0) (q := 42) 23 rfl rfl (by decide) ?_
        refine bp_lcmp (q := 43) 24 rfl rfl ?_
        refine bp_if_eq (q := 46) (tgt := 73) 25 rfl rfl (by decide) (fun z43 => ?_) (fun z43 => ?_)
        · refine bp_iconst (v := 1) (q := 74) 38 rfl rfl (by decide) ?_
          refine bp_goto (tgt := 78) 39 rfl (by decide) ?_
          refine bp_istore (q := 80) 41 rfl rfl (by decide) (bp_up4 rfl) ?_
          refine bp_lload (q := 82) 42 rfl rfl rfl ?_
          refine bp_lconst (v := 0) (q := 83) 43 rfl rfl (by decide) ?_
          refine bp_lcmp (q := 84) 44 rfl rfl ?_
          refine bp_if_ne (q := 87) (tgt := 91) 45 rfl rfl (by decide) (fun z84 => ?_) (fun z84 => ?_)
          · refine bp_iload_n (q := 92) 48 rfl rfl rfl rfl ?_
            refine bp_iconst (v := 1) (q := 93) 49 rfl rfl (by decide) ?_
            refine bp_iadd (q := 94) 50 rfl rfl ?_
            refine bp_istore_n (q := 95) 51 rfl rfl rfl (by decide) (bp_up3 rfl) ?_
            refine bp_iinc (v := nI (k + 1)) (q := 98) 52 rfl rfl rfl (nI_1 k) (by decide) (bp_up5 rfl) ?_
            refine bp_goto (tgt := 8) 53 rfl (by decide) ?_
            have y0 : ¬ b = 0 := fun e => z84 (cc.1.mpr e)
            have yn : ¬ by8 x (nI k) = 0 := fun e => y0 (cc.2.2.2.2.2.1.mp (by rw [← ey]; exact e))
            rw [fdC, if_neg yn, fdG, if_neg yn] at hQ
            rw [nI_1]
            exact absurd (cc.1.mp z43) y0
          · refine bp_iload_n (q := 88) 46 rfl rfl rfl rfl ?_
            refine bp_goto (tgt := 94) 47 rfl (by decide) ?_
            refine bp_istore_n (q := 95) 51 rfl rfl rfl (by decide) (bp_up3 rfl) ?_
            refine bp_iinc (v := nI (k + 1)) (q := 98) 52 rfl rfl rfl (nI_1 k) (by decide) (bp_up5 rfl) ?_
            refine bp_goto (tgt := 8) 53 rfl (by decide) ?_
            have y0 : b = 0 := cc.1.mp z84
            have yg : g = true := bI1 z36
            subst yg
            rw [fdC, if_pos (by rw [ey, y0]; rfl), fdG, if_pos (by rw [ey, y0]; rfl)] at hQ
            exact lp_Mo_feed0 (g := true) hB0 (by omega) hQ
        · refine bp_lload (q := 48) 26 rfl rfl rfl ?_
          refine bp_ldc2 (q := 51) 27 rfl rfl wd1424 ?_
          refine bp_lcmp (q := 52) 28 rfl rfl ?_
          refine bp_if_eq (q := 55) (tgt := 73) 29 rfl rfl (by decide) (fun z52 => ?_) (fun z52 => ?_)
          · refine bp_iconst (v := 1) (q := 74) 38 rfl rfl (by decide) ?_
            refine bp_goto (tgt := 78) 39 rfl (by decide) ?_
            refine bp_istore (q := 80) 41 rfl rfl (by decide) (bp_up4 rfl) ?_
            refine bp_lload (q := 82) 42 rfl rfl rfl ?_
            refine bp_lconst (v := 0) (q := 83) 43 rfl rfl (by decide) ?_
            refine bp_lcmp (q := 84) 44 rfl rfl ?_
            refine bp_if_ne (q := 87) (tgt := 91) 45 rfl rfl (by decide) (fun z84 => ?_) (fun z84 => ?_)
            · refine bp_iload_n (q := 92) 48 rfl rfl rfl rfl ?_
              refine bp_iconst (v := 1) (q := 93) 49 rfl rfl (by decide) ?_
              refine bp_iadd (q := 94) 50 rfl rfl ?_
              refine bp_istore_n (q := 95) 51 rfl rfl rfl (by decide) (bp_up3 rfl) ?_
              refine bp_iinc (v := nI (k + 1)) (q := 98) 52 rfl rfl rfl (nI_1 k) (by decide) (bp_up5 rfl) ?_
              refine bp_goto (tgt := 8) 53 rfl (by decide) ?_
              have y0 : ¬ b = 0 := fun e => z84 (cc.1.mpr e)
              have yn : ¬ by8 x (nI k) = 0 := fun e => y0 (cc.2.2.2.2.2.1.mp (by rw [← ey]; exact e))
              rw [fdC, if_neg yn, fdG, if_neg yn] at hQ
              rw [nI_1]
              have yg : g = true := bI1 z36
              subst yg
              have yc : isCh (by8 x (nI k)) = true := by rw [ey]; exact cc.2.2.2.2.2.2.mpr (Or.inl (cc.2.1.mp z52))
              rw [yc] at hQ
              exact lp_Mo_feed1 hB0 7 (k + 1) true _ (by omega) hQ
            · refine bp_iload_n (q := 88) 46 rfl rfl rfl rfl ?_
              refine bp_goto (tgt := 94) 47 rfl (by decide) ?_
              refine bp_istore_n (q := 95) 51 rfl rfl rfl (by decide) (bp_up3 rfl) ?_
              refine bp_iinc (v := nI (k + 1)) (q := 98) 52 rfl rfl rfl (nI_1 k) (by decide) (bp_up5 rfl) ?_
              refine bp_goto (tgt := 8) 53 rfl (by decide) ?_
              have y0 : b = 0 := cc.1.mp z84
              exact absurd (cc.1.mpr y0) z43
          · refine bp_lload (q := 57) 30 rfl rfl rfl ?_
            refine bp_ldc2 (q := 60) 31 rfl rfl wd1425 ?_
            refine bp_lcmp (q := 61) 32 rfl rfl ?_
            refine bp_if_lt (q := 64) (tgt := 77) 33 rfl rfl (by decide) (fun z61 => ?_) (fun z61 => ?_)
            · refine bp_iconst (v := 0) (q := 78) 40 rfl rfl (by decide) ?_
              refine bp_istore (q := 80) 41 rfl rfl (by decide) (bp_up4 rfl) ?_
              refine bp_lload (q := 82) 42 rfl rfl rfl ?_
              refine bp_lconst (v := 0) (q := 83) 43 rfl rfl (by decide) ?_
              refine bp_lcmp (q := 84) 44 rfl rfl ?_
              refine bp_if_ne (q := 87) (tgt := 91) 45 rfl rfl (by decide) (fun z84 => ?_) (fun z84 => ?_)
              · refine bp_iload_n (q := 92) 48 rfl rfl rfl rfl ?_
                refine bp_iconst (v := 1) (q := 93) 49 rfl rfl (by decide) ?_
                refine bp_iadd (q := 94) 50 rfl rfl ?_
                refine bp_istore_n (q := 95) 51 rfl rfl rfl (by decide) (bp_up3 rfl) ?_
                refine bp_iinc (v := nI (k + 1)) (q := 98) 52 rfl rfl rfl (nI_1 k) (by decide) (bp_up5 rfl) ?_
                refine bp_goto (tgt := 8) 53 rfl (by decide) ?_
                have y0 : ¬ b = 0 := fun e => z84 (cc.1.mpr e)
                have yn : ¬ by8 x (nI k) = 0 := fun e => y0 (cc.2.2.2.2.2.1.mp (by rw [← ey]; exact e))
                rw [fdC, if_neg yn, fdG, if_neg yn] at hQ
                rw [nI_1]
                have yg : g = true := bI1 z36
                subst yg
                have yc : isCh (by8 x (nI k)) = false := by
                  have a := cc.2.2.1.mp z61
                  have b_ : ¬ b = 10 := fun e => z52 (cc.2.1.mpr e)
                  rw [ey]
                  exact Bool.eq_false_iff.mpr (fun e => by have := cc.2.2.2.2.2.2.mp e; omega)
                rw [yc] at hQ
                exact lp_Mo_feed1 hB0 7 (k + 1) false _ (by omega) hQ
              · refine bp_iload_n (q := 88) 46 rfl rfl rfl rfl ?_
                refine bp_goto (tgt := 94) 47 rfl (by decide) ?_
                refine bp_istore_n (q := 95) 51 rfl rfl rfl (by decide) (bp_up3 rfl) ?_
                refine bp_iinc (v := nI (k + 1)) (q := 98) 52 rfl rfl rfl (nI_1 k) (by decide) (bp_up5 rfl) ?_
                refine bp_goto (tgt := 8) 53 rfl (by decide) ?_
                have y0 : b = 0 := cc.1.mp z84
                exact absurd (cc.1.mpr y0) z43
            · refine bp_lload (q := 66) 34 rfl rfl rfl ?_
              refine bp_ldc2 (q := 69) 35 rfl rfl wd1426 ?_
              refine bp_lcmp (q := 70) 36 rfl rfl ?_
              refine bp_if_gt (q := 73) (tgt := 77) 37 rfl rfl (by decide) (fun z70 => ?_) (fun z70 => ?_)
              · refine bp_iconst (v := 0) (q := 78) 40 rfl rfl (by decide) ?_
                refine bp_istore (q := 80) 41 rfl rfl (by decide) (bp_up4 rfl) ?_
                refine bp_lload (q := 82) 42 rfl rfl rfl ?_
                refine bp_lconst (v := 0) (q := 83) 43 rfl rfl (by decide) ?_
                refine bp_lcmp (q := 84) 44 rfl rfl ?_
                refine bp_if_ne (q := 87) (tgt := 91) 45 rfl rfl (by decide) (fun z84 => ?_) (fun z84 => ?_)
                · refine bp_iload_n (q := 92) 48 rfl rfl rfl rfl ?_
                  refine bp_iconst (v := 1) (q := 93) 49 rfl rfl (by decide) ?_
                  refine bp_iadd (q := 94) 50 rfl rfl ?_
                  refine bp_istore_n (q := 95) 51 rfl rfl rfl (by decide) (bp_up3 rfl) ?_
                  refine bp_iinc (v := nI (k + 1)) (q := 98) 52 rfl rfl rfl (nI_1 k) (by decide) (bp_up5 rfl) ?_
                  refine bp_goto (tgt := 8) 53 rfl (by decide) ?_
                  have y0 : ¬ b = 0 := fun e => z84 (cc.1.mpr e)
                  have yn : ¬ by8 x (nI k) = 0 := fun e => y0 (cc.2.2.2.2.2.1.mp (by rw [← ey]; exact e))
                  rw [fdC, if_neg yn, fdG, if_neg yn] at hQ
                  rw [nI_1]
                  have yg : g = true := bI1 z36
                  subst yg
                  have yc : isCh (by8 x (nI k)) = false := by
                    have a := cc.2.2.2.1.mp z70
                    rw [ey]
                    exact Bool.eq_false_iff.mpr (fun e => by have := cc.2.2.2.2.2.2.mp e; omega)
                  rw [yc] at hQ
                  exact lp_Mo_feed1 hB0 7 (k + 1) false _ (by omega) hQ
                · refine bp_iload_n (q := 88) 46 rfl rfl rfl rfl ?_
                  refine bp_goto (tgt := 94) 47 rfl (by decide) ?_
                  refine bp_istore_n (q := 95) 51 rfl rfl rfl (by decide) (bp_up3 rfl) ?_
                  refine bp_iinc (v := nI (k + 1)) (q := 98) 52 rfl rfl rfl (nI_1 k) (by decide) (bp_up5 rfl) ?_
                  refine bp_goto (tgt := 8) 53 rfl (by decide) ?_
                  have y0 : b = 0 := cc.1.mp z84
                  exact absurd (cc.1.mpr y0) z43
              · refine bp_iconst (v := 1) (q := 74) 38 rfl rfl (by decide) ?_
                refine bp_goto (tgt := 78) 39 rfl (by decide) ?_
                refine bp_istore (q := 80) 41 rfl rfl (by decide) (bp_up4 rfl) ?_
                refine bp_lload (q := 82) 42 rfl rfl rfl ?_
                refine bp_lconst (v := 0) (q := 83) 43 rfl rfl (by decide) ?_
                refine bp_lcmp (q := 84) 44 rfl rfl ?_
                refine bp_if_ne (q := 87) (tgt := 91) 45 rfl rfl (by decide) (fun z84 => ?_) (fun z84 => ?_)
                · refine bp_iload_n (q := 92) 48 rfl rfl rfl rfl ?_
                  refine bp_iconst (v := 1) (q := 93) 49 rfl rfl (by decide) ?_
                  refine bp_iadd (q := 94) 50 rfl rfl ?_
                  refine bp_istore_n (q := 95) 51 rfl rfl rfl (by decide) (bp_up3 rfl) ?_
                  refine bp_iinc (v := nI (k + 1)) (q := 98) 52 rfl rfl rfl (nI_1 k) (by decide) (bp_up5 rfl) ?_
                  refine bp_goto (tgt := 8) 53 rfl (by decide) ?_
                  have y0 : ¬ b = 0 := fun e => z84 (cc.1.mpr e)
                  have yn : ¬ by8 x (nI k) = 0 := fun e => y0 (cc.2.2.2.2.2.1.mp (by rw [← ey]; exact e))
                  rw [fdC, if_neg yn, fdG, if_neg yn] at hQ
                  rw [nI_1]
                  have yg : g = true := bI1 z36
                  subst yg
                  have yc : isCh (by8 x (nI k)) = true := by
                    have a := mt cc.2.2.1.mpr z61
                    have b_ := mt cc.2.2.2.1.mpr (by first | exact z70 | exact Int32.not_lt.mpr z70)
                    rw [ey]
                    exact cc.2.2.2.2.2.2.mpr (by omega)
                  rw [yc] at hQ
                  exact lp_Mo_feed1 hB0 7 (k + 1) true _ (by omega) hQ
                · refine bp_iload_n (q := 88) 46 rfl rfl rfl rfl ?_
                  refine bp_goto (tgt := 94) 47 rfl (by decide) ?_
                  refine bp_istore_n (q := 95) 51 rfl rfl rfl (by decide) (bp_up3 rfl) ?_
                  refine bp_iinc (v := nI (k + 1)) (q := 98) 52 rfl rfl rfl (nI_1 k) (by decide) (bp_up5 rfl) ?_
                  refine bp_goto (tgt := 8) 53 rfl (by decide) ?_
                  have y0 : b = 0 := cc.1.mp z84
                  exact absurd (cc.1.mpr y0) z43
set_option maxRecDepth 100000 in
set_option maxHeartbeats 4000000 in
theorem lp_Mo_feed2 {x v6 : Int64} {g4 : Int32} {n : Nat} (hn : n ≤ 8) (hl : T.length + n ≤ 400) (hQ : ∀ h', MoX M h0 h' 0 i fa fm tl lk al ind sk dp lv fr en nf nn dg nu kd pn pe (T ++ fdB x n) xs L ps L1 p1 nt tb fd → Q (some (.int (nI n))) h' c s) : ∀ (m k : Nat) (h : bp_H), m + k = n → MoX M h0 h 0 i fa fm tl lk al ind sk dp lv fr en nf nn dg nu kd pn pe (T ++ fdB x k) xs L ps L1 p1 nt tb fd → bp_A l G H0 (0, 0, false, false) M_Mo_feed h c s 143 [some (.ref (M 0)), some (.long x), none, some (.int (nI n)), some (.int g4), some (.int (nI k)), some (.long v6), none] [] (fun o h' c' s' => ∃ v, o = .returned v ∧ Q v h' c' s') := by
  intro m
  induction m with
  | zero =>
    intro k h hm hB0
    refine bp_iload (q := 145) 76 rfl rfl rfl ?_
    refine bp_iload_n (q := 146) 77 rfl rfl rfl rfl ?_
    refine bp_icmp_ge (q := 149) (tgt := 187) 78 rfl rfl (by decide) (fun z146 => ?_) (fun z146 => ?_)
    · refine bp_iload_n (q := 188) 101 rfl rfl rfl rfl ?_
      exact bp_iret 102 rfl rfl rfl ⟨_, rfl, hQ _ (by rw [show k = n from by omega] at hB0; exact hB0)⟩
    · exact absurd (nI_le (b := k) (a := n) (by omega) (by omega)) z146
  | succ m ih =>
    intro k h hm hB0
    have hlk : (T ++ fdB x k).length < 400 := by rw [List.length_append, fdB_len]; omega
    refine bp_iload (q := 145) 76 rfl rfl rfl ?_
    refine bp_iload_n (q := 146) 77 rfl rfl rfl rfl ?_
    refine bp_icmp_ge (q := 149) (tgt := 187) 78 rfl rfl (by decide) (fun z146 => ?_) (fun z146 => ?_)
    · exact absurd z146 (nI_ge (a := k) (b := n) (by omega) (by omega))
    · refine bp_aload_n (q := 150) 79 rfl rfl rfl rfl ?_
      refine bp_getR (x := M 2) (q := 153) (ci := 9) (j := 2) 80 rfl rfl fl_Mo_7_9 hB0.kb rfl hB0.r2 ?_
      refine bp_aload_n (q := 154) 81 rfl rfl rfl rfl ?_
      refine bp_getI (q := 157) (ci := 9) (j := 1) 82 rfl rfl fl_Mo_63_9 hB0.kb rfl ?_
      rw [hB0.i1]
      refine bp_lload_n (q := 158) 83 rfl rfl rfl rfl ?_
      refine bp_bipush (v := 8) (q := 160) 84 rfl rfl (by decide) ?_
      refine bp_iload (q := 162) 85 rfl rfl rfl ?_
      refine bp_imul (q := 163) 86 rfl rfl ?_
      refine bp_lushr (q := 164) 87 rfl rfl ?_
      refine bp_ldc2 (q := 167) 88 rfl rfl wd1423 ?_
      refine bp_land (q := 168) 89 rfl rfl ?_
      obtain ⟨b, hb, e1, e2⟩ := b8_n (lsh x k)
      rw [show (x.toUInt64 >>> ((8 * nI k).toInt64.toUInt64 &&& Int64.toUInt64 63)).toInt64 &&& 255 = (nI b).toInt64 from e1]
      have ey : by8 x (nI k) = nI b := e2
      have cc := b8_c b hb
      refine bp_l2i (q := 169) 90 rfl rfl ?_
      refine bp_i2c (q := 170) 91 rfl rfl ?_
      rw [cc.2.2.2.2.1]
      refine bp_cast (q := 171) 92 rfl rfl hB0.k2 (vp_inL hB0.l2 hlk (by decide)) (ch_nar (by omega)) ?_
      rw [nI_clamp (by omega)]
      refine bp_nx (X := fun h1 => MoX M h0 h1 0 i fa fm tl lk al ind sk dp lv fr en nf nn dg nu kd pn pe (T ++ fdB x k) xs L ps L1 p1 nt tb fd ∧ bp_I h1 (M 2) (T ++ fdB x k).length = nI b) ⟨hB0.w2 (Nat.le_refl _), by rw [bp_I_sI, if_pos ⟨rfl, rfl⟩]⟩ (fun h1 ⟨hB1, hV⟩ => ?_)
      refine bp_aload_n (q := 172) 93 rfl rfl rfl rfl ?_
      refine bp_dup (q := 173) 94 rfl rfl rfl ?_
      refine bp_getI (q := 176) (ci := 9) (j := 1) 95 rfl rfl fl_Mo_63_9 hB1.kb rfl ?_
      rw [hB1.i1]
      refine bp_iconst (v := 1) (q := 177) 96 rfl rfl (by decide) ?_
      refine bp_iadd (q := 178) 97 rfl rfl ?_
      refine bp_putI (q := 181) (ci := 9) (j := 1) 98 rfl rfl fl_Mo_63_9 cl9 hB1.kb (fun r hr => by cases hr; rfl) (by decide) rfl rfl ?_
      refine bp_nx (X := fun h2 => MoX M h0 h2 0 i fa fm tl lk al ind sk dp lv fr en nf nn dg nu kd pn pe (((T ++ fdB x k) ++ [b])) xs L ps L1 p1 nt tb fd) (hB1.push2 (nI_1 _) hlk hV) (fun h2 hB2 => ?_)
      refine bp_iinc (v := nI (k + 1)) (q := 184) 99 rfl rfl rfl (nI_1 k) (by decide) (bp_up5 rfl) ?_
      refine bp_goto (tgt := 143) 100 rfl (by decide) ?_
      rw [List.append_assoc, show [b] = [(by8 x (nI k)).toNatClampNeg] from by rw [ey, nI_clamp (by omega)], ← fdB_sn] at hB2
      exact ih (k + 1) _ (by omega) hB2
set_option maxRecDepth 100000 in
set_option maxHeartbeats 4000000 in
theorem s_Mo_feed {x : Int64} (hB0 : MoX M h0 h tw i fa fm tl lk al ind sk dp lv fr en nf nn dg nu kd pn pe T xs L ps L1 p1 nt tb fd) (hQ1 : fdG x 8 0 = false → ∀ h', MoX M h0 h' 1 i fa fm tl lk al ind sk dp lv fr en nf nn dg nu kd pn pe T xs L ps L1 p1 nt tb fd → Q (some (.int 0)) h' c s) (hQ2 : fdG x 8 0 = true → 400 < T.length + fdC x 8 0 → ∀ h', MoX M h0 h' 2 i fa fm tl lk al ind sk dp lv fr en nf nn dg nu kd pn pe T xs L ps L1 p1 nt tb fd → Q (some (.int 0)) h' c s) (hQ3 : fdG x 8 0 = true → T.length + fdC x 8 0 ≤ 400 → ∀ h', MoX M h0 h' 0 i fa fm tl lk al ind sk dp lv fr en nf nn dg nu kd pn pe ((T ++ fdB x (fdC x 8 0))) xs L ps L1 p1 nt tb fd → Q (some (.int (nI (fdC x 8 0)))) h' c s) : bp_AM l G H0 (0, 0, false, false) M_Mo_feed h c s [.ref (M 0), .long x] Q := by
  refine bp_of (ls := [some (.ref (M 0)), some (.long x), none, none, none, none, none, none]) (by decide) dt_Mo_feed (Nat.le_of_ble_eq_true rfl) (fun q hq => hq) false ?_
  have hfc := fdC_le x 8 0
  have hT4 := hB0.2.2.2.1.1
  refine bp_iconst (v := 0) (q := 1) 0 rfl rfl (by decide) ?_
  refine bp_istore_n (q := 2) 1 rfl rfl rfl (by decide) (bp_up3 rfl) ?_
  refine bp_iconst (v := 1) (q := 3) 2 rfl rfl (by decide) ?_
  refine bp_istore (q := 5) 3 rfl rfl (by decide) (bp_up4 rfl) ?_
  refine bp_iconst (v := 0) (q := 6) 4 rfl rfl (by decide) ?_
  refine bp_istore (q := 8) 5 rfl rfl (by decide) (bp_up5 rfl) ?_
  refine lp_Mo_feedS (ro := false) (k := 0) (g := true) hB0 rfl (fun k' v' => ?_)
  rw [Bool.true_and, show 7 + 1 = 8 from rfl]
  refine bp_aload_n (q := 102) 54 rfl rfl rfl rfl ?_
  refine bp_iload (q := 104) 55 rfl rfl rfl ?_
  refine bp_if_ne (q := 107) (tgt := 111) 56 rfl rfl (by decide) (fun z104 => ?_) (fun z104 => ?_)
  · refine bp_aload_n (q := 112) 59 rfl rfl rfl rfl ?_
    refine bp_getI (q := 115) (ci := 9) (j := 1) 60 rfl rfl fl_Mo_63_9 hB0.kb rfl ?_
    rw [hB0.i1]
    refine bp_iload_n (q := 116) 61 rfl rfl rfl rfl ?_
    refine bp_iadd (q := 117) 62 rfl rfl ?_
    rw [nI_add]
    refine bp_sipush (v := 400) (q := 120) 63 rfl rfl (by decide) ?_
    refine bp_icmp_le (q := 123) (tgt := 127) 64 rfl rfl (by decide) (fun z120 => ?_) (fun z120 => ?_)
    · refine bp_iconst (v := 0) (q := 128) 67 rfl rfl (by decide) ?_
      refine bp_putI (q := 131) (ci := 9) (j := 0) 68 rfl rfl fl_Mo_52_9 cl9 hB0.kb (fun r hr => by cases hr; rfl) (by decide) rfl rfl ?_
      refine bp_nx (X := fun h1 => MoX M h0 h1 0 i fa fm tl lk al ind sk dp lv fr en nf nn dg nu kd pn pe T xs L ps L1 p1 nt tb fd) (hB0.s0 rfl) (fun h1 hB1 => ?_)
      refine bp_aload_n (q := 132) 69 rfl rfl rfl rfl ?_
      refine bp_getI (q := 135) (ci := 9) (j := 0) 70 rfl rfl fl_Mo_52_9 hB1.kb rfl ?_
      rw [hB1.i0]
      refine bp_if_eq (q := 138) (tgt := 140) 71 rfl rfl (by decide) (fun z135 => ?_) (fun z => absurd z (by decide))
      refine bp_iconst (v := 0) (q := 141) 74 rfl rfl (by decide) ?_
      refine bp_istore (q := 143) 75 rfl rfl (by decide) (bp_up5 rfl) ?_
      exact lp_Mo_feed2 (by omega) (by have := (nI_leI (b := 400) (by omega) (by decide)).mp z120; omega) (hQ3 (bI1 z104) (by have := (nI_leI (b := 400) (by omega) (by decide)).mp z120; omega)) (fdC x 8 0) 0 _ (Nat.add_zero _) (by rw [show fdB x 0 = [] from rfl, List.append_nil]; exact hB1)
    · refine bp_iconst (v := 2) (q := 124) 65 rfl rfl (by decide) ?_
      refine bp_goto (tgt := 128) 66 rfl (by decide) ?_
      refine bp_putI (q := 131) (ci := 9) (j := 0) 68 rfl rfl fl_Mo_52_9 cl9 hB0.kb (fun r hr => by cases hr; rfl) (by decide) rfl rfl ?_
      refine bp_nx (X := fun h1 => MoX M h0 h1 2 i fa fm tl lk al ind sk dp lv fr en nf nn dg nu kd pn pe T xs L ps L1 p1 nt tb fd) (hB0.s0 rfl) (fun h1 hB1 => ?_)
      refine bp_aload_n (q := 132) 69 rfl rfl rfl rfl ?_
      refine bp_getI (q := 135) (ci := 9) (j := 0) 70 rfl rfl fl_Mo_52_9 hB1.kb rfl ?_
      rw [hB1.i0]
      refine bp_if_eq (q := 138) (tgt := 140) 71 rfl rfl (by decide) (fun z => absurd z (by decide)) (fun z135 => ?_)
      refine bp_iconst (v := 0) (q := 139) 72 rfl rfl (by decide) ?_
      exact bp_iret 73 rfl rfl rfl ⟨_, rfl, hQ2 (bI1 z104) (Nat.not_le.mp (fun e => z120 ((nI_leI (b := 400) (by omega) (by decide)).mpr e))) _ hB1⟩
  · refine bp_iconst (v := 1) (q := 108) 57 rfl rfl (by decide) ?_
    refine bp_goto (tgt := 128) 58 rfl (by decide) ?_
    refine bp_putI (q := 131) (ci := 9) (j := 0) 68 rfl rfl fl_Mo_52_9 cl9 hB0.kb (fun r hr => by cases hr; rfl) (by decide) rfl rfl ?_
    refine bp_nx (X := fun h1 => MoX M h0 h1 1 i fa fm tl lk al ind sk dp lv fr en nf nn dg nu kd pn pe T xs L ps L1 p1 nt tb fd) (hB0.s0 rfl) (fun h1 hB1 => ?_)
    refine bp_aload_n (q := 132) 69 rfl rfl rfl rfl ?_
    refine bp_getI (q := 135) (ci := 9) (j := 0) 70 rfl rfl fl_Mo_52_9 hB1.kb rfl ?_
    rw [hB1.i0]
    refine bp_if_eq (q := 138) (tgt := 140) 71 rfl rfl (by decide) (fun z => absurd z (by decide)) (fun z135 => ?_)
    refine bp_iconst (v := 0) (q := 139) 72 rfl rfl (by decide) ?_
    exact bp_iret 73 rfl rfl rfl ⟨_, rfl, hQ1 (bI0.mp (by first | exact z104 | exact Classical.not_not.mp z104)) _ hB1⟩
end MO12
