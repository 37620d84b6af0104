/-! the reference's add, run, letter -/
theorem cm_70 : ∀ a, a < 91 → ∀ b, b < 91 → nI (91 * a + b) &&& 7 = nI ((91 * a + b) % 8) := by decide +kernel
theorem cm_7 (n : Nat) (h : n < 8192) : nI n &&& 7 = nI (n % 8) := by
  have q := cm_70 (n / 91) (by omega) (n % 91) (Nat.mod_lt _ (by decide))
  rw [Nat.div_add_mod] at q
  exact q
theorem ps_sn {ps : List (Nat × Nat × Nat)} (h : ¬ ps.length = 0) : ∃ qs qa qb qe, ps = qs ++ [(qa, qb, qe)] := by
  rcases nil_or_snoc ps with e | ⟨qs, ⟨qa, qb, qe⟩, e⟩
  · exact absurd (by rw [e]; rfl) h
  · exact ⟨qs, qa, qb, qe, e⟩
theorem pst_last {qs : List (Nat × Nat × Nat)} {q : Nat × Nat × Nat} : pst (qs ++ [q]) (qs ++ [q]).length = q.2.2 := by
  unfold pst p_e
  rw [if_neg (by simp), List.length_append]
  show ((qs ++ [q]).getD qs.length (0, 0, 0)).2.2 = q.2.2
  rw [p_sn']
theorem mra_is {L : List (Nat × Nat)} {ps : List (Nat × Nat × Nat)} {p : Nat} : ∀ (m k q : Nat), mra L ps p m k q = -1 ∨ ∃ j, k ≤ j ∧ j < k + m ∧ pIx ps j = p ∧ fR L ps j = true ∧ mra L ps p m k q = nI j
  | 0, _, _ => Or.inl rfl
  | m + 1, k, q => by
    rw [mra]
    by_cases h : pIx ps k = p ∧ fR L ps k = true
    · rw [if_pos h]
      by_cases h2 : q = 0
      · rw [if_pos h2]; exact Or.inr ⟨k, Nat.le_refl _, by omega, h.1, h.2, rfl⟩
      · rw [if_neg h2]
        rcases mra_is m (k + 1) (q - 1) with e | ⟨j, h1, h3, h4⟩
        · exact Or.inl e
        · exact Or.inr ⟨j, by omega, by omega, h4⟩
    · rw [if_neg h]
      rcases mra_is m (k + 1) q with e | ⟨j, h1, h3, h4⟩
      · exact Or.inl e
      · exact Or.inr ⟨j, by omega, by omega, h4⟩
/-- the last of the run from k on -/
def mle (L : List (Nat × Nat)) (ps : List (Nat × Nat × Nat)) : Nat → Nat → Nat
  | 0, k => k
  | n + 1, k => if lR L ps k = true then k else mle L ps n (k + 1)
theorem mle_in {L : List (Nat × Nat)} {ps : List (Nat × Nat × Nat)} : ∀ n k, k ≤ mle L ps n k ∧ mle L ps n k ≤ k + n
  | 0, k => ⟨Nat.le_refl _, Nat.le_refl _⟩
  | n + 1, k => by
    rw [mle]
    by_cases h : lR L ps k = true
    · rw [if_pos h]; omega
    · rw [if_neg h]
      have := mle_in (L := L) (ps := ps) n (k + 1)
      omega
def mrV (L : List (Nat × Nat)) (ps : List (Nat × Nat × Nat)) (k w : Nat) : Nat := if w = 0 then (lkL L).getD k 0 % 8 else if w = 1 then (lkL L).getD k 0 / 64 else if w = 2 then (lkL L).getD k 0 / 8 % 8 else mle L ps (L.length - 1 - k) k + 1 - k
theorem ps_same {qs : List (Nat × Nat × Nat)} {qa qb e1 e2 j : Nat} (h : j < qs.length + 1) : p_a (qs ++ [(qa, qb, e1)]) j = p_a (qs ++ [(qa, qb, e2)]) j ∧ p_i (qs ++ [(qa, qb, e1)]) j = p_i (qs ++ [(qa, qb, e2)]) j := by
  unfold p_a p_i
  by_cases e : j < qs.length
  · rw [p_sn e, p_sn e]; exact ⟨rfl, rfl⟩
  · have e3 : j = qs.length := by omega
    subst e3
    rw [p_sn', p_sn']; exact ⟨rfl, rfl⟩
section MO11
variable {l : Launch} {G : bp_G} {H0 : Heap} {M : Nat → Nat} {h0 h : bp_H} {tw : Int32} {i : Nat} {fa : Int32} {fm : Int32} {tl : Int32} {lk : Nat} {al : Nat} {ind : Nat} {sk : Nat} {dp : Nat} {lv : Nat} {fr : Bool} {en : Nat} {nf : Nat} {nn : Nat} {dg : Nat} {nu : Int32} {kd : Nat} {pn : Int32} {pe : Nat} {T : List Nat} {xs : List Nat} {L : List (Nat × Nat)} {ps : List (Nat × Nat × Nat)} {L1 : List (Nat × Nat)} {p1 : List (Nat × Nat × Nat)} {nt : List (Nat → Nat)} {tb : List Nat} {fd : List Nat} {c s : Nat} {Q : Option Value → bp_H → Nat → Nat → Prop}
set_option maxRecDepth 100000 in
set_option maxHeartbeats 4000000 in
theorem s_Mo_add {x1 x2 x3 x4 : Int32} (hB0 : MoX M h0 h tw i fa fm tl lk al ind sk dp lv fr en nf nn dg nu kd pn pe T xs L ps L1 p1 nt tb fd) (okp : okP L ps) (hE : pst ps ps.length = L.length) (hQ1 : ps = [] → ∀ h', MoX M h0 h' 1 i fa fm tl lk al ind sk dp lv fr en nf nn dg nu kd pn pe T xs L ps L1 p1 nt tb fd → Q (some (.int 0)) h' c s) (hQ2 : ps ≠ [] → ¬ (wi x1 32 255 = true ∧ (wi x2 0 7 && (wi x3 1 99 && wi x4 0 7)) = true) → ∀ h', MoX M h0 h' 2 i fa fm tl lk al ind sk dp lv fr en nf nn dg nu kd pn pe T xs L ps L1 p1 nt tb fd → Q (some (.int 0)) h' c s) (hQ3 : ps ≠ [] → (wi x1 32 255 = true ∧ (wi x2 0 7 && (wi x3 1 99 && wi x4 0 7)) = true) → 400 ≤ L.length → ∀ h', MoX M h0 h' 3 i fa fm tl lk al ind sk dp lv fr en nf nn dg nu kd pn pe T xs L ps L1 p1 nt tb fd → Q (some (.int 0)) h' c s) (hQ4 : ∀ (u sy sz co : Nat) (qs : List (Nat × Nat × Nat)) (qa qb qe : Nat), x1 = nI u → x2 = nI sy → x3 = nI sz → x4 = nI co → ps = qs ++ [(qa, qb, qe)] → 32 ≤ u → u < 256 → sy < 8 → 1 ≤ sz ∧ sz < 100 → co < 8 → L.length < 400 → ∀ h', MoX M h0 h' 0 i fa fm tl lk al ind sk dp lv fr en nf nn dg nu kd pn pe T xs (L ++ [(u, sy + 8 * co + 64 * sz)]) (qs ++ [(qa, qb, L.length + 1)]) L1 p1 nt tb fd → Q (some (.int (nI (mrc (L ++ [(u, sy + 8 * co + 64 * sz)]) (qs ++ [(qa, qb, L.length + 1)]) qs.length (L.length + 1) 0)))) h' c s) : bp_AM l G H0 (2, 44, false, false) M_Mo_add h c s [.ref (M 0), .int x1, .int x2, .int x3, .int x4] Q := by
  refine bp_of (ls := [some (.ref (M 0)), some (.int x1), some (.int x2), some (.int x3), some (.int x4), none]) (by decide) dt_Mo_add (Nat.le_of_ble_eq_true rfl) (fun q hq => hq) false ?_
  have h16 := okp.2.1
  have hL4 := okp.1
  refine bp_iload_n (q := 1) 0 rfl rfl rfl rfl ?_
  refine bp_bipush (v := 32) (q := 3) 1 rfl rfl (by decide) ?_
  refine bp_icmp_lt (q := 6) (tgt := 46) 2 rfl rfl (by decide) (fun z3 => ?_) (fun z3 => ?_)
  · refine bp_iconst (v := 1) (q := 47) 22 rfl rfl (by decide) ?_
    refine bp_goto (tgt := 51) 23 rfl (by decide) ?_
    refine bp_istore (q := 53) 25 rfl rfl (by decide) (bp_up5 rfl) ?_
    refine bp_aload_n (q := 54) 26 rfl rfl rfl rfl ?_
    refine bp_aload_n (q := 55) 27 rfl rfl rfl rfl ?_
    refine bp_getR (x := M 6) (q := 58) (ci := 9) (j := 6) 28 rfl rfl fl_Mo_21_9 hB0.kb rfl hB0.r6 ?_
    refine bp_iconst (v := 0) (q := 59) 29 rfl rfl (by decide) ?_
    refine bp_iald (q := 60) 30 rfl rfl hB0.k6 (vp_inL (n := 0) hB0.l6 (by decide) (by decide)) ?_
    rw [show bp_I _ (M 6) ((0 : Int32).toNatClampNeg) = nI ps.length from hB0.2.2.2.2.2.1.2.2.2.1]
    refine bp_if_ne (q := 63) (tgt := 67) 31 rfl rfl (by decide) (fun z60 => ?_) (fun z60 => ?_)
    · refine bp_iload (q := 69) 34 rfl rfl rfl ?_
      refine bp_if_eq (q := 72) (tgt := 76) 35 rfl rfl (by decide) (fun z => absurd z (by decide)) (fun z69 => ?_)
      refine bp_iconst (v := 2) (q := 73) 36 rfl rfl (by decide) ?_
      refine bp_goto (tgt := 93) 37 rfl (by decide) ?_
      refine bp_putI (q := 96) (ci := 9) (j := 0) 47 rfl rfl fl_Mo_52_9 cl9 hB0.kb (fun r hr => by cases hr; rfl) (by decide) rfl rfl ?_
      refine bp_nx (X := fun h1 => MoX M h0 h1 2 i fa fm tl lk al ind sk dp lv fr en nf nn dg nu kd pn pe T xs L ps L1 p1 nt tb fd) (hB0.s0 rfl) (fun h1 hB1 => ?_)
      refine bp_aload_n (q := 97) 48 rfl rfl rfl rfl ?_
      refine bp_getI (q := 100) (ci := 9) (j := 0) 49 rfl rfl fl_Mo_52_9 hB1.kb rfl ?_
      rw [hB1.i0]
      refine bp_if_eq (q := 103) (tgt := 105) 50 rfl rfl (by decide) (fun z => absurd z (by decide)) (fun z100 => ?_)
      refine bp_iconst (v := 0) (q := 104) 51 rfl rfl (by decide) ?_
      exact bp_iret 52 rfl rfl rfl ⟨_, rfl, hQ2 (fun e => z60 (by rw [e]; rfl)) (fun q => wi_lt z3 q.1) _ hB1⟩
    · refine bp_iconst (v := 1) (q := 64) 32 rfl rfl (by decide) ?_
      refine bp_goto (tgt := 93) 33 rfl (by decide) ?_
      refine bp_putI (q := 96) (ci := 9) (j := 0) 47 rfl rfl fl_Mo_52_9 cl9 hB0.kb (fun r hr => by cases hr; rfl) (by decide) rfl rfl ?_
      refine bp_nx (X := fun h1 => MoX M h0 h1 1 i fa fm tl lk al ind sk dp lv fr en nf nn dg nu kd pn pe T xs L ps L1 p1 nt tb fd) (hB0.s0 rfl) (fun h1 hB1 => ?_)
      refine bp_aload_n (q := 97) 48 rfl rfl rfl rfl ?_
      refine bp_getI (q := 100) (ci := 9) (j := 0) 49 rfl rfl fl_Mo_52_9 hB1.kb rfl ?_
      rw [hB1.i0]
      refine bp_if_eq (q := 103) (tgt := 105) 50 rfl rfl (by decide) (fun z => absurd z (by decide)) (fun z100 => ?_)
      refine bp_iconst (v := 0) (q := 104) 51 rfl rfl (by decide) ?_
      exact bp_iret 52 rfl rfl rfl ⟨_, rfl, hQ1 (List.eq_nil_of_length_eq_zero ((nI_eq_iff (b := 0) (by omega) (by decide)).mp z60)) _ hB1⟩
  · refine bp_iload_n (q := 7) 3 rfl rfl rfl rfl ?_
    refine bp_sipush (v := 255) (q := 10) 4 rfl rfl (by decide) ?_
    refine bp_icmp_gt (q := 13) (tgt := 46) 5 rfl rfl (by decide) (fun z10 => ?_) (fun z10 => ?_)
    · refine bp_iconst (v := 1) (q := 47) 22 rfl rfl (by decide) ?_
      refine bp_goto (tgt := 51) 23 rfl (by decide) ?_
      refine bp_istore (q := 53) 25 rfl rfl (by decide) (bp_up5 rfl) ?_
      refine bp_aload_n (q := 54) 26 rfl rfl rfl rfl ?_
      refine bp_aload_n (q := 55) 27 rfl rfl rfl rfl ?_
      refine bp_getR (x := M 6) (q := 58) (ci := 9) (j := 6) 28 rfl rfl fl_Mo_21_9 hB0.kb rfl hB0.r6 ?_
      refine bp_iconst (v := 0) (q := 59) 29 rfl rfl (by decide) ?_
      refine bp_iald (q := 60) 30 rfl rfl hB0.k6 (vp_inL (n := 0) hB0.l6 (by decide) (by decide)) ?_
      rw [show bp_I _ (M 6) ((0 : Int32).toNatClampNeg) = nI ps.length from hB0.2.2.2.2.2.1.2.2.2.1]
      refine bp_if_ne (q := 63) (tgt := 67) 31 rfl rfl (by decide) (fun z60 => ?_) (fun z60 => ?_)
      · refine bp_iload (q := 69) 34 rfl rfl rfl ?_
        refine bp_if_eq (q := 72) (tgt := 76) 35 rfl rfl (by decide) (fun z => absurd z (by decide)) (fun z69 => ?_)
        refine bp_iconst (v := 2) (q := 73) 36 rfl rfl (by decide) ?_
        refine bp_goto (tgt := 93) 37 rfl (by decide) ?_
        refine bp_putI (q := 96) (ci := 9) (j := 0) 47 rfl rfl fl_Mo_52_9 cl9 hB0.kb (fun r hr => by cases hr; rfl) (by decide) rfl rfl ?_
        refine bp_nx (X := fun h1 => MoX M h0 h1 2 i fa fm tl lk al ind sk dp lv fr en nf nn dg nu kd pn pe T xs L ps L1 p1 nt tb fd) (hB0.s0 rfl) (fun h1 hB1 => ?_)
        refine bp_aload_n (q := 97) 48 rfl rfl rfl rfl ?_
        refine bp_getI (q := 100) (ci := 9) (j := 0) 49 rfl rfl fl_Mo_52_9 hB1.kb rfl ?_
        rw [hB1.i0]
        refine bp_if_eq (q := 103) (tgt := 105) 50 rfl rfl (by decide) (fun z => absurd z (by decide)) (fun z100 => ?_)
        refine bp_iconst (v := 0) (q := 104) 51 rfl rfl (by decide) ?_
        exact bp_iret 52 rfl rfl rfl ⟨_, rfl, hQ2 (fun e => z60 (by rw [e]; rfl)) (fun q => wi_gt z10 q.1) _ hB1⟩
      · refine bp_iconst (v := 1) (q := 64) 32 rfl rfl (by decide) ?_
        refine bp_goto (tgt := 93) 33 rfl (by decide) ?_
        refine bp_putI (q := 96) (ci := 9) (j := 0) 47 rfl rfl fl_Mo_52_9 cl9 hB0.kb (fun r hr => by cases hr; rfl) (by decide) rfl rfl ?_
        refine bp_nx (X := fun h1 => MoX M h0 h1 1 i fa fm tl lk al ind sk dp lv fr en nf nn dg nu kd pn pe T xs L ps L1 p1 nt tb fd) (hB0.s0 rfl) (fun h1 hB1 => ?_)
        refine bp_aload_n (q := 97) 48 rfl rfl rfl rfl ?_
        refine bp_getI (q := 100) (ci := 9) (j := 0) 49 rfl rfl fl_Mo_52_9 hB1.kb rfl ?_
        rw [hB1.i0]
        refine bp_if_eq (q := 103) (tgt := 105) 50 rfl rfl (by decide) (fun z => absurd z (by decide)) (fun z100 => ?_)
        refine bp_iconst (v := 0) (q := 104) 51 rfl rfl (by decide) ?_
        exact bp_iret 52 rfl rfl rfl ⟨_, rfl, hQ1 (List.eq_nil_of_length_eq_zero ((nI_eq_iff (b := 0) (by omega) (by decide)).mp z60)) _ hB1⟩
    · refine bp_iload_n (q := 14) 6 rfl rfl rfl rfl ?_
      refine bp_if_lt (q := 17) (tgt := 46) 7 rfl rfl (by decide) (fun z14 => ?_) (fun z14 => ?_)
      · refine bp_iconst (v := 1) (q := 47) 22 rfl rfl (by decide) ?_
        refine bp_goto (tgt := 51) 23 rfl (by decide) ?_
        refine bp_istore (q := 53) 25 rfl rfl (by decide) (bp_up5 rfl) ?_
        refine bp_aload_n (q := 54) 26 rfl rfl rfl rfl ?_
        refine bp_aload_n (q := 55) 27 rfl rfl rfl rfl ?_
        refine bp_getR (x := M 6) (q := 58) (ci := 9) (j := 6) 28 rfl rfl fl_Mo_21_9 hB0.kb rfl hB0.r6 ?_
        refine bp_iconst (v := 0) (q := 59) 29 rfl rfl (by decide) ?_
        refine bp_iald (q := 60) 30 rfl rfl hB0.k6 (vp_inL (n := 0) hB0.l6 (by decide) (by decide)) ?_
        rw [show bp_I _ (M 6) ((0 : Int32).toNatClampNeg) = nI ps.length from hB0.2.2.2.2.2.1.2.2.2.1]
        refine bp_if_ne (q := 63) (tgt := 67) 31 rfl rfl (by decide) (fun z60 => ?_) (fun z60 => ?_)
        · refine bp_iload (q := 69) 34 rfl rfl rfl ?_
          refine bp_if_eq (q := 72) (tgt := 76) 35 rfl rfl (by decide) (fun z => absurd z (by decide)) (fun z69 => ?_)
          refine bp_iconst (v := 2) (q := 73) 36 rfl rfl (by decide) ?_
          refine bp_goto (tgt := 93) 37 rfl (by decide) ?_
          refine bp_putI (q := 96) (ci := 9) (j := 0) 47 rfl rfl fl_Mo_52_9 cl9 hB0.kb (fun r hr => by cases hr; rfl) (by decide) rfl rfl ?_
          refine bp_nx (X := fun h1 => MoX M h0 h1 2 i fa fm tl lk al ind sk dp lv fr en nf nn dg nu kd pn pe T xs L ps L1 p1 nt tb fd) (hB0.s0 rfl) (fun h1 hB1 => ?_)
          refine bp_aload_n (q := 97) 48 rfl rfl rfl rfl ?_
          refine bp_getI (q := 100) (ci := 9) (j := 0) 49 rfl rfl fl_Mo_52_9 hB1.kb rfl ?_
          rw [hB1.i0]
          refine bp_if_eq (q := 103) (tgt := 105) 50 rfl rfl (by decide) (fun z => absurd z (by decide)) (fun z100 => ?_)
          refine bp_iconst (v := 0) (q := 104) 51 rfl rfl (by decide) ?_
          exact bp_iret 52 rfl rfl rfl ⟨_, rfl, hQ2 (fun e => z60 (by rw [e]; rfl)) (fun q => by have q2 := q.2; simp only [Bool.and_eq_true] at q2; exact wi_lt z14 q2.1) _ hB1⟩
        · refine bp_iconst (v := 1) (q := 64) 32 rfl rfl (by decide) ?_
          refine bp_goto (tgt := 93) 33 rfl (by decide) ?_
          refine bp_putI (q := 96) (ci := 9) (j := 0) 47 rfl rfl fl_Mo_52_9 cl9 hB0.kb (fun r hr => by cases hr; rfl) (by decide) rfl rfl ?_
          refine bp_nx (X := fun h1 => MoX M h0 h1 1 i fa fm tl lk al ind sk dp lv fr en nf nn dg nu kd pn pe T xs L ps L1 p1 nt tb fd) (hB0.s0 rfl) (fun h1 hB1 => ?_)
          refine bp_aload_n (q := 97) 48 rfl rfl rfl rfl ?_
          refine bp_getI (q := 100) (ci := 9) (j := 0) 49 rfl rfl fl_Mo_52_9 hB1.kb rfl ?_
          rw [hB1.i0]
          refine bp_if_eq (q := 103) (tgt := 105) 50 rfl rfl (by decide) (fun z => absurd z (by decide)) (fun z100 => ?_)
          refine bp_iconst (v := 0) (q := 104) 51 rfl rfl (by decide) ?_
          exact bp_iret 52 rfl rfl rfl ⟨_, rfl, hQ1 (List.eq_nil_of_length_eq_zero ((nI_eq_iff (b := 0) (by omega) (by decide)).mp z60)) _ hB1⟩
      · refine bp_iload_n (q := 18) 8 rfl rfl rfl rfl ?_
        refine bp_bipush (v := 7) (q := 20) 9 rfl rfl (by decide) ?_
        refine bp_icmp_gt (q := 23) (tgt := 46) 10 rfl rfl (by decide) (fun z20 => ?_) (fun z20 => ?_)
        · refine bp_iconst (v := 1) (q := 47) 22 rfl rfl (by decide) ?_
          refine bp_goto (tgt := 51) 23 rfl (by decide) ?_
          refine bp_istore (q := 53) 25 rfl rfl (by decide) (bp_up5 rfl) ?_
          refine bp_aload_n (q := 54) 26 rfl rfl rfl rfl ?_
          refine bp_aload_n (q := 55) 27 rfl rfl rfl rfl ?_
          refine bp_getR (x := M 6) (q := 58) (ci := 9) (j := 6) 28 rfl rfl fl_Mo_21_9 hB0.kb rfl hB0.r6 ?_
          refine bp_iconst (v := 0) (q := 59) 29 rfl rfl (by decide) ?_
          refine bp_iald (q := 60) 30 rfl rfl hB0.k6 (vp_inL (n := 0) hB0.l6 (by decide) (by decide)) ?_
          rw [show bp_I _ (M 6) ((0 : Int32).toNatClampNeg) = nI ps.length from hB0.2.2.2.2.2.1.2.2.2.1]
          refine bp_if_ne (q := 63) (tgt := 67) 31 rfl rfl (by decide) (fun z60 => ?_) (fun z60 => ?_)
          · refine bp_iload (q := 69) 34 rfl rfl rfl ?_
            refine bp_if_eq (q := 72) (tgt := 76) 35 rfl rfl (by decide) (fun z => absurd z (by decide)) (fun z69 => ?_)
            refine bp_iconst (v := 2) (q := 73) 36 rfl rfl (by decide) ?_
            refine bp_goto (tgt := 93) 37 rfl (by decide) ?_
            refine bp_putI (q := 96) (ci := 9) (j := 0) 47 rfl rfl fl_Mo_52_9 cl9 hB0.kb (fun r hr => by cases hr; rfl) (by decide) rfl rfl ?_
            refine bp_nx (X := fun h1 => MoX M h0 h1 2 i fa fm tl lk al ind sk dp lv fr en nf nn dg nu kd pn pe T xs L ps L1 p1 nt tb fd) (hB0.s0 rfl) (fun h1 hB1 => ?_)
            refine bp_aload_n (q := 97) 48 rfl rfl rfl rfl ?_
            refine bp_getI (q := 100) (ci := 9) (j := 0) 49 rfl rfl fl_Mo_52_9 hB1.kb rfl ?_
            rw [hB1.i0]
            refine bp_if_eq (q := 103) (tgt := 105) 50 rfl rfl (by decide) (fun z => absurd z (by decide)) (fun z100 => ?_)
            refine bp_iconst (v := 0) (q := 104) 51 rfl rfl (by decide) ?_
            exact bp_iret 52 rfl rfl rfl ⟨_, rfl, hQ2 (fun e => z60 (by rw [e]; rfl)) (fun q => by have q2 := q.2; simp only [Bool.and_eq_true] at q2; exact wi_gt z20 q2.1) _ hB1⟩
          · refine bp_iconst (v := 1) (q := 64) 32 rfl rfl (by decide) ?_
            refine bp_goto (tgt := 93) 33 rfl (by decide) ?_
            refine bp_putI (q := 96) (ci := 9) (j := 0) 47 rfl rfl fl_Mo_52_9 cl9 hB0.kb (fun r hr => by cases hr; rfl) (by decide) rfl rfl ?_
            refine bp_nx (X := fun h1 => MoX M h0 h1 1 i fa fm tl lk al ind sk dp lv fr en nf nn dg nu kd pn pe T xs L ps L1 p1 nt tb fd) (hB0.s0 rfl) (fun h1 hB1 => ?_)
            refine bp_aload_n (q := 97) 48 rfl rfl rfl rfl ?_
            refine bp_getI (q := 100) (ci := 9) (j := 0) 49 rfl rfl fl_Mo_52_9 hB1.kb rfl ?_
            rw [hB1.i0]
            refine bp_if_eq (q := 103) (tgt := 105) 50 rfl rfl (by decide) (fun z => absurd z (by decide)) (fun z100 => ?_)
            refine bp_iconst (v := 0) (q := 104) 51 rfl rfl (by decide) ?_
            exact bp_iret 52 rfl rfl rfl ⟨_, rfl, hQ1 (List.eq_nil_of_length_eq_zero ((nI_eq_iff (b := 0) (by omega) (by decide)).mp z60)) _ hB1⟩
        · refine bp_iload_n (q := 24) 11 rfl rfl rfl rfl ?_
          refine bp_iconst (v := 1) (q := 25) 12 rfl rfl (by decide) ?_
          refine bp_icmp_lt (q := 28) (tgt := 46) 13 rfl rfl (by decide) (fun z25 => ?_) (fun z25 => ?_)
          · refine bp_iconst (v := 1) (q := 47) 22 rfl rfl (by decide) ?_
            refine bp_goto (tgt := 51) 23 rfl (by decide) ?_
            refine bp_istore (q := 53) 25 rfl rfl (by decide) (bp_up5 rfl) ?_
            refine bp_aload_n (q := 54) 26 rfl rfl rfl rfl ?_
            refine bp_aload_n (q := 55) 27 rfl rfl rfl rfl ?_
            refine bp_getR (x := M 6) (q := 58) (ci := 9) (j := 6) 28 rfl rfl fl_Mo_21_9 hB0.kb rfl hB0.r6 ?_
            refine bp_iconst (v := 0) (q := 59) 29 rfl rfl (by decide) ?_
            refine bp_iald (q := 60) 30 rfl rfl hB0.k6 (vp_inL (n := 0) hB0.l6 (by decide) (by decide)) ?_
            rw [show bp_I _ (M 6) ((0 : Int32).toNatClampNeg) = nI ps.length from hB0.2.2.2.2.2.1.2.2.2.1]
            refine bp_if_ne (q := 63) (tgt := 67) 31 rfl rfl (by decide) (fun z60 => ?_) (fun z60 => ?_)
            · refine bp_iload (q := 69) 34 rfl rfl rfl ?_
              refine bp_if_eq (q := 72) (tgt := 76) 35 rfl rfl (by decide) (fun z => absurd z (by decide)) (fun z69 => ?_)
              refine bp_iconst (v := 2) (q := 73) 36 rfl rfl (by decide) ?_
              refine bp_goto (tgt := 93) 37 rfl (by decide) ?_
              refine bp_putI (q := 96) (ci := 9) (j := 0) 47 rfl rfl fl_Mo_52_9 cl9 hB0.kb (fun r hr => by cases hr; rfl) (by decide) rfl rfl ?_
              refine bp_nx (X := fun h1 => MoX M h0 h1 2 i fa fm tl lk al ind sk dp lv fr en nf nn dg nu kd pn pe T xs L ps L1 p1 nt tb fd) (hB0.s0 rfl) (fun h1 hB1 => ?_)
              refine bp_aload_n (q := 97) 48 rfl rfl rfl rfl ?_
              refine bp_getI (q := 100) (ci := 9) (j := 0) 49 rfl rfl fl_Mo_52_9 hB1.kb rfl ?_
              rw [hB1.i0]
              refine bp_if_eq (q := 103) (tgt := 105) 50 rfl rfl (by decide) (fun z => absurd z (by decide)) (fun z100 => ?_)
              refine bp_iconst (v := 0) (q := 104) 51 rfl rfl (by decide) ?_
              exact bp_iret 52 rfl rfl rfl ⟨_, rfl, hQ2 (fun e => z60 (by rw [e]; rfl)) (fun q => by have q2 := q.2; simp only [Bool.and_eq_true] at q2; exact wi_lt z25 q2.2.1) _ hB1⟩
            · refine bp_iconst (v := 1) (q := 64) 32 rfl rfl (by decide) ?_
              refine bp_goto (tgt := 93) 33 rfl (by decide) ?_
              refine bp_putI (q := 96) (ci := 9) (j := 0) 47 rfl rfl fl_Mo_52_9 cl9 hB0.kb (fun r hr => by cases hr; rfl) (by decide) rfl rfl ?_
              refine bp_nx (X := fun h1 => MoX M h0 h1 1 i fa fm tl lk al ind sk dp lv fr en nf nn dg nu kd pn pe T xs L ps L1 p1 nt tb fd) (hB0.s0 rfl) (fun h1 hB1 => ?_)
              refine bp_aload_n (q := 97) 48 rfl rfl rfl rfl ?_
              refine bp_getI (q := 100) (ci := 9) (j := 0) 49 rfl rfl fl_Mo_52_9 hB1.kb rfl ?_
              rw [hB1.i0]
              refine bp_if_eq (q := 103) (tgt := 105) 50 rfl rfl (by decide) (fun z => absurd z (by decide)) (fun z100 => ?_)
              refine bp_iconst (v := 0) (q := 104) 51 rfl rfl (by decide) ?_
              exact bp_iret 52 rfl rfl rfl ⟨_, rfl, hQ1 (List.eq_nil_of_length_eq_zero ((nI_eq_iff (b := 0) (by omega) (by decide)).mp z60)) _ hB1⟩
          · refine bp_iload_n (q := 29) 14 rfl rfl rfl rfl ?_
            refine bp_bipush (v := 99) (q := 31) 15 rfl rfl (by decide) ?_
            refine bp_icmp_gt (q := 34) (tgt := 46) 16 rfl rfl (by decide) (fun z31 => ?_) (fun z31 => ?_)
            · refine bp_iconst (v := 1) (q := 47) 22 rfl rfl (by decide) ?_
              refine bp_goto (tgt := 51) 23 rfl (by decide) ?_
              refine bp_istore (q := 53) 25 rfl rfl (by decide) (bp_up5 rfl) ?_
              refine bp_aload_n (q := 54) 26 rfl rfl rfl rfl ?_
              refine bp_aload_n (q := 55) 27 rfl rfl rfl rfl ?_
              refine bp_getR (x := M 6) (q := 58) (ci := 9) (j := 6) 28 rfl rfl fl_Mo_21_9 hB0.kb rfl hB0.r6 ?_
              refine bp_iconst (v := 0) (q := 59) 29 rfl rfl (by decide) ?_
              refine bp_iald (q := 60) 30 rfl rfl hB0.k6 (vp_inL (n := 0) hB0.l6 (by decide) (by decide)) ?_
              rw [show bp_I _ (M 6) ((0 : Int32).toNatClampNeg) = nI ps.length from hB0.2.2.2.2.2.1.2.2.2.1]
              refine bp_if_ne (q := 63) (tgt := 67) 31 rfl rfl (by decide) (fun z60 => ?_) (fun z60 => ?_)
              · refine bp_iload (q := 69) 34 rfl rfl rfl ?_
                refine bp_if_eq (q := 72) (tgt := 76) 35 rfl rfl (by decide) (fun z => absurd z (by decide)) (fun z69 => ?_)
                refine bp_iconst (v := 2) (q := 73) 36 rfl rfl (by decide) ?_
                refine bp_goto (tgt := 93) 37 rfl (by decide) ?_
                refine bp_putI (q := 96) (ci := 9) (j := 0) 47 rfl rfl fl_Mo_52_9 cl9 hB0.kb (fun r hr => by cases hr; rfl) (by decide) rfl rfl ?_
                refine bp_nx (X := fun h1 => MoX M h0 h1 2 i fa fm tl lk al ind sk dp lv fr en nf nn dg nu kd pn pe T xs L ps L1 p1 nt tb fd) (hB0.s0 rfl) (fun h1 hB1 => ?_)
                refine bp_aload_n (q := 97) 48 rfl rfl rfl rfl ?_
                refine bp_getI (q := 100) (ci := 9) (j := 0) 49 rfl rfl fl_Mo_52_9 hB1.kb rfl ?_
                rw [hB1.i0]
                refine bp_if_eq (q := 103) (tgt := 105) 50 rfl rfl (by decide) (fun z => absurd z (by decide)) (fun z100 => ?_)
                refine bp_iconst (v := 0) (q := 104) 51 rfl rfl (by decide) ?_
                exact bp_iret 52 rfl rfl rfl ⟨_, rfl, hQ2 (fun e => z60 (by rw [e]; rfl)) (fun q => by have q2 := q.2; simp only [Bool.and_eq_true] at q2; exact wi_gt z31 q2.2.1) _ hB1⟩
              · refine bp_iconst (v := 1) (q := 64) 32 rfl rfl (by decide) ?_
                refine bp_goto (tgt := 93) 33 rfl (by decide) ?_
                refine bp_putI (q := 96) (ci := 9) (j := 0) 47 rfl rfl fl_Mo_52_9 cl9 hB0.kb (fun r hr => by cases hr; rfl) (by decide) rfl rfl ?_
                refine bp_nx (X := fun h1 => MoX M h0 h1 1 i fa fm tl lk al ind sk dp lv fr en nf nn dg nu kd pn pe T xs L ps L1 p1 nt tb fd) (hB0.s0 rfl) (fun h1 hB1 => ?_)
                refine bp_aload_n (q := 97) 48 rfl rfl rfl rfl ?_
                refine bp_getI (q := 100) (ci := 9) (j := 0) 49 rfl rfl fl_Mo_52_9 hB1.kb rfl ?_
                rw [hB1.i0]
                refine bp_if_eq (q := 103) (tgt := 105) 50 rfl rfl (by decide) (fun z => absurd z (by decide)) (fun z100 => ?_)
                refine bp_iconst (v := 0) (q := 104) 51 rfl rfl (by decide) ?_
                exact bp_iret 52 rfl rfl rfl ⟨_, rfl, hQ1 (List.eq_nil_of_length_eq_zero ((nI_eq_iff (b := 0) (by omega) (by decide)).mp z60)) _ hB1⟩
            · refine bp_iload (q := 36) 17 rfl rfl rfl ?_
              refine bp_if_lt (q := 39) (tgt := 46) 18 rfl rfl (by decide) (fun z36 => ?_) (fun z36 => ?_)
              · refine bp_iconst (v := 1) (q := 47) 22 rfl rfl (by decide) ?_
                refine bp_goto (tgt := 51) 23 rfl (by decide) ?_
                refine bp_istore (q := 53) 25 rfl rfl (by decide) (bp_up5 rfl) ?_
                refine bp_aload_n (q := 54) 26 rfl rfl rfl rfl ?_
                refine bp_aload_n (q := 55) 27 rfl rfl rfl rfl ?_
                refine bp_getR (x := M 6) (q := 58) (ci := 9) (j := 6) 28 rfl rfl fl_Mo_21_9 hB0.kb rfl hB0.r6 ?_
                refine bp_iconst (v := 0) (q := 59) 29 rfl rfl (by decide) ?_
                refine bp_iald (q := 60) 30 rfl rfl hB0.k6 (vp_inL (n := 0) hB0.l6 (by decide) (by decide)) ?_
                rw [show bp_I _ (M 6) ((0 : Int32).toNatClampNeg) = nI ps.length from hB0.2.2.2.2.2.1.2.2.2.1]
                refine bp_if_ne (q := 63) (tgt := 67) 31 rfl rfl (by decide) (fun z60 => ?_) (fun z60 => ?_)
                · refine bp_iload (q := 69) 34 rfl rfl rfl ?_
                  refine bp_if_eq (q := 72) (tgt := 76) 35 rfl rfl (by decide) (fun z => absurd z (by decide)) (fun z69 => ?_)
                  refine bp_iconst (v := 2) (q := 73) 36 rfl rfl (by decide) ?_
                  refine bp_goto (tgt := 93) 37 rfl (by decide) ?_
                  refine bp_putI (q := 96) (ci := 9) (j := 0) 47 rfl rfl fl_Mo_52_9 cl9 hB0.kb (fun r hr => by cases hr; rfl) (by decide) rfl rfl ?_
                  refine bp_nx (X := fun h1 => MoX M h0 h1 2 i fa fm tl lk al ind sk dp lv fr en nf nn dg nu kd pn pe T xs L ps L1 p1 nt tb fd) (hB0.s0 rfl) (fun h1 hB1 => ?_)
                  refine bp_aload_n (q := 97) 48 rfl rfl rfl rfl ?_
                  refine bp_getI (q := 100) (ci := 9) (j := 0) 49 rfl rfl fl_Mo_52_9 hB1.kb rfl ?_
                  rw [hB1.i0]
                  refine bp_if_eq (q := 103) (tgt := 105) 50 rfl rfl (by decide) (fun z => absurd z (by decide)) (fun z100 => ?_)
                  refine bp_iconst (v := 0) (q := 104) 51 rfl rfl (by decide) ?_
                  exact bp_iret 52 rfl rfl rfl ⟨_, rfl, hQ2 (fun e => z60 (by rw [e]; rfl)) (fun q => by have q2 := q.2; simp only [Bool.and_eq_true] at q2; exact wi_lt z36 q2.2.2) _ hB1⟩
                · refine bp_iconst (v := 1) (q := 64) 32 rfl rfl (by decide) ?_
                  refine bp_goto (tgt := 93) 33 rfl (by decide) ?_
                  refine bp_putI (q := 96) (ci := 9) (j := 0) 47 rfl rfl fl_Mo_52_9 cl9 hB0.kb (fun r hr => by cases hr; rfl) (by decide) rfl rfl ?_
                  refine bp_nx (X := fun h1 => MoX M h0 h1 1 i fa fm tl lk al ind sk dp lv fr en nf nn dg nu kd pn pe T xs L ps L1 p1 nt tb fd) (hB0.s0 rfl) (fun h1 hB1 => ?_)
                  refine bp_aload_n (q := 97) 48 rfl rfl rfl rfl ?_
                  refine bp_getI (q := 100) (ci := 9) (j := 0) 49 rfl rfl fl_Mo_52_9 hB1.kb rfl ?_
                  rw [hB1.i0]
                  refine bp_if_eq (q := 103) (tgt := 105) 50 rfl rfl (by decide) (fun z => absurd z (by decide)) (fun z100 => ?_)
                  refine bp_iconst (v := 0) (q := 104) 51 rfl rfl (by decide) ?_
                  exact bp_iret 52 rfl rfl rfl ⟨_, rfl, hQ1 (List.eq_nil_of_length_eq_zero ((nI_eq_iff (b := 0) (by omega) (by decide)).mp z60)) _ hB1⟩
              · refine bp_iload (q := 41) 19 rfl rfl rfl ?_
                refine bp_bipush (v := 7) (q := 43) 20 rfl rfl (by decide) ?_
                refine bp_icmp_le (q := 46) (tgt := 50) 21 rfl rfl (by decide) (fun z43 => ?_) (fun z43 => ?_)
                · refine bp_iconst (v := 0) (q := 51) 24 rfl rfl (by decide) ?_
                  refine bp_istore (q := 53) 25 rfl rfl (by decide) (bp_up5 rfl) ?_
                  refine bp_aload_n (q := 54) 26 rfl rfl rfl rfl ?_
                  refine bp_aload_n (q := 55) 27 rfl rfl rfl rfl ?_
                  refine bp_getR (x := M 6) (q := 58) (ci := 9) (j := 6) 28 rfl rfl fl_Mo_21_9 hB0.kb rfl hB0.r6 ?_
                  refine bp_iconst (v := 0) (q := 59) 29 rfl rfl (by decide) ?_
                  refine bp_iald (q := 60) 30 rfl rfl hB0.k6 (vp_inL (n := 0) hB0.l6 (by decide) (by decide)) ?_
                  rw [show bp_I _ (M 6) ((0 : Int32).toNatClampNeg) = nI ps.length from hB0.2.2.2.2.2.1.2.2.2.1]
                  refine bp_if_ne (q := 63) (tgt := 67) 31 rfl rfl (by decide) (fun z60 => ?_) (fun z60 => ?_)
                  · refine bp_iload (q := 69) 34 rfl rfl rfl ?_
                    refine bp_if_eq (q := 72) (tgt := 76) 35 rfl rfl (by decide) (fun z69 => ?_) (fun z => absurd z (by decide))
                    refine bp_aload_n (q := 77) 38 rfl rfl rfl rfl ?_
                    refine bp_getR (x := M 5) (q := 80) (ci := 9) (j := 5) 39 rfl rfl fl_Mo_17_9 hB0.kb rfl hB0.r5 ?_
                    refine bp_iconst (v := 0) (q := 81) 40 rfl rfl (by decide) ?_
                    refine bp_iald (q := 82) 41 rfl rfl hB0.k5 (vp_inL (n := 0) hB0.l5 (by decide) (by decide)) ?_
                    rw [show bp_I _ (M 5) ((0 : Int32).toNatClampNeg) = nI L.length from hB0.2.2.2.2.2.1.2.2.1]
                    refine bp_sipush (v := 400) (q := 85) 42 rfl rfl (by decide) ?_
                    refine bp_icmp_ne (q := 88) (tgt := 92) 43 rfl rfl (by decide) (fun z85 => ?_) (fun z85 => ?_)
                    · refine bp_iconst (v := 0) (q := 93) 46 rfl rfl (by decide) ?_
                      refine bp_putI (q := 96) (ci := 9) (j := 0) 47 rfl rfl fl_Mo_52_9 cl9 hB0.kb (fun r hr => by cases hr; rfl) (by decide) rfl rfl ?_
                      refine bp_nx (X := fun h1 => MoX M h0 h1 0 i fa fm tl lk al ind sk dp lv fr en nf nn dg nu kd pn pe T xs L ps L1 p1 nt tb fd) (hB0.s0 rfl) (fun h1 hB1 => ?_)
                      refine bp_aload_n (q := 97) 48 rfl rfl rfl rfl ?_
                      refine bp_getI (q := 100) (ci := 9) (j := 0) 49 rfl rfl fl_Mo_52_9 hB1.kb rfl ?_
                      rw [hB1.i0]
                      refine bp_if_eq (q := 103) (tgt := 105) 50 rfl rfl (by decide) (fun z100 => ?_) (fun z => absurd z (by decide))
                      refine bp_aload_n (q := 106) 53 rfl rfl rfl rfl ?_
                      obtain ⟨u, u1, u2, rfl, -⟩ := wi_cl (n := x1) (x := 32) (y := 255) (by decide) (by decide) (wi_tt z3 z10)
                      obtain ⟨sy, sy1, sy2, rfl, -⟩ := wi_cl (n := x2) (x := 0) (y := 7) (by decide) (by decide) (wi_tt z14 z20)
                      obtain ⟨sz, sz1, sz2, rfl, -⟩ := wi_cl (n := x3) (x := 1) (y := 99) (by decide) (by decide) (wi_tt z25 z31)
                      obtain ⟨co, co1, co2, rfl, -⟩ := wi_cl (n := x4) (x := 0) (y := 7) (by decide) (by decide) (wi_tt z36 (Int32.not_lt.mpr z43))
                      obtain ⟨qs, qa, qb, qe, hps⟩ := ps_sn (fun e => z60 (by rw [e]; rfl))
                      have hqe : qe = L.length := by have q := hE; rw [hps, pst_last] at q; exact q
                      have hpl : ps.length = qs.length + 1 := by rw [hps, List.length_append]; rfl
                      have hl4 : L.length < 400 := by
                        have q2 : ¬ L.length = 400 := fun e => z85 (by rw [e]; rfl)
                        omega
                      have hpd : nI ps.length - 1 = nI qs.length := by rw [hpl]; exact nI_sub (b := 1) (by omega)
                      have hqs : ∀ q ∈ qs, q.2.2 ≤ L.length := fun q hq => okp.ends q (by rw [hps]; exact List.mem_append_left _ hq)
                      refine bp_iconst (v := 0) (q := 107) 54 rfl rfl (by decide) ?_
                      refine bp_iload_n (q := 108) 55 rfl rfl rfl rfl ?_
                      refine bp_iload_n (q := 109) 56 rfl rfl rfl rfl ?_
                      refine bp_bipush (v := 8) (q := 111) 57 rfl rfl (by decide) ?_
                      refine bp_iload_n (q := 112) 58 rfl rfl rfl rfl ?_
                      refine bp_imul (q := 113) 59 rfl rfl ?_
                      refine bp_iadd (q := 114) 60 rfl rfl ?_
                      refine bp_sipush (v := 1024) (q := 117) 61 rfl rfl (by decide) ?_
                      refine bp_iload (q := 119) 62 rfl rfl rfl ?_
                      refine bp_imul (q := 120) 63 rfl rfl ?_
                      refine bp_iadd (q := 121) 64 rfl rfl ?_
                      rw [show nI sy + 8 * nI sz + 1024 * nI co = nI (cmL (sy + 8 * co + 64 * sz)) from by rw [show (8 : Int32) = nI 8 from rfl, show (1024 : Int32) = nI 1024 from rfl, nI_mul, nI_mul, nI_add, nI_add]; congr 1; unfold cmL; omega]
                      refine bp_aload_n (q := 122) 65 rfl rfl rfl rfl ?_
                      refine bp_getR (x := M 6) (q := 125) (ci := 9) (j := 6) 66 rfl rfl fl_Mo_21_9 hB1.kb rfl hB1.r6 ?_
                      refine bp_iconst (v := 0) (q := 126) 67 rfl rfl (by decide) ?_
                      refine bp_iald (q := 127) 68 rfl rfl hB1.k6 (vp_inL (n := 0) hB1.l6 (by decide) (by decide)) ?_
                      rw [show bp_I _ (M 6) ((0 : Int32).toNatClampNeg) = nI ps.length from hB1.2.2.2.2.2.1.2.2.2.1]
                      refine bp_iconst (v := 1) (q := 128) 69 rfl rfl (by decide) ?_
                      refine bp_isub (q := 129) 70 rfl rfl ?_
                      rw [hpd]
                      refine bp_callV (q := 132) (ci := 9) 71 rfl rfl cw_Mo_addLetter lk_Mo_111 rfl hB1.kb wd1523 wd57 rfl rfl (Nat.le_of_ble_eq_true rfl) ⟨Nat.le_of_ble_eq_true rfl, Nat.le_of_ble_eq_true rfl⟩ (s_Mo_addLetter0 (u := u) (y := sy + 8 * co + 64 * sz) (q := qs.length) (ps' := qs ++ [(qa, qb, L.length + 1)]) hB1 hl4 (by rw [hps, List.length_append, List.length_append]; rfl) (fun j hj => by rw [hps]; exact ps_same (by omega)) (fun k hk => by rw [hps, pIx_sn, pIx_sn, if_neg (by show ¬ L.length + 1 ≤ k; omega), if_neg (by show ¬ qe ≤ k; omega)]) (by rw [pIx_sn, if_neg (by show ¬ L.length + 1 ≤ L.length; omega), pIx_all hqs]; rfl) (fun h2 hB2 => ?_))
                      refine bp_aload_n (q := 133) 72 rfl rfl rfl rfl ?_
                      refine bp_aload_n (q := 134) 73 rfl rfl rfl rfl ?_
                      refine bp_getR (x := M 6) (q := 137) (ci := 9) (j := 6) 74 rfl rfl fl_Mo_21_9 hB2.kb rfl hB2.r6 ?_
                      refine bp_iconst (v := 0) (q := 138) 75 rfl rfl (by decide) ?_
                      refine bp_iald (q := 139) 76 rfl rfl hB2.k6 (vp_inL (n := 0) hB2.l6 (by decide) (by decide)) ?_
                      rw [show bp_I _ (M 6) ((0 : Int32).toNatClampNeg) = nI (qs ++ [(qa, qb, L.length + 1)]).length from hB2.2.2.2.2.2.1.2.2.2.1]
                      refine bp_iconst (v := 1) (q := 140) 77 rfl rfl (by decide) ?_
                      refine bp_isub (q := 141) 78 rfl rfl ?_
                      rw [show nI (qs ++ [(qa, qb, L.length + 1)]).length - 1 = nI qs.length from by rw [show (qs ++ [(qa, qb, L.length + 1)]).length = qs.length + 1 from List.length_append ..]; exact nI_sub (b := 1) (by omega)]
                      refine bp_callV (q := 144) (ci := 9) 79 rfl rfl cw_Mo_runsOf lk_Mo_411 rfl hB2.kb wd1721 wd85 rfl rfl (Nat.le_of_ble_eq_true rfl) ⟨Nat.le_of_ble_eq_true rfl, Nat.le_of_ble_eq_true rfl⟩ (s_Mo_runsOf (ro := false) hB2 (okP.last (hps ▸ okp) hl4 u1 (by omega) (by omega)) (by omega) ?_)
                      refine bp_iret 80 rfl rfl rfl ⟨_, rfl, ?_⟩
                      have q := hQ4 u sy sz co qs qa qb qe rfl rfl rfl rfl hps u1 (by omega) (by omega) ⟨sz1, by omega⟩ (by omega) hl4 _ hB2
                      rw [show (L ++ [(u, sy + 8 * co + 64 * sz)]).length = L.length + 1 from List.length_append ..]
                      exact q
                    · refine bp_iconst (v := 3) (q := 89) 44 rfl rfl (by decide) ?_
                      refine bp_goto (tgt := 93) 45 rfl (by decide) ?_
                      refine bp_putI (q := 96) (ci := 9) (j := 0) 47 rfl rfl fl_Mo_52_9 cl9 hB0.kb (fun r hr => by cases hr; rfl) (by decide) rfl rfl ?_
                      refine bp_nx (X := fun h1 => MoX M h0 h1 3 i fa fm tl lk al ind sk dp lv fr en nf nn dg nu kd pn pe T xs L ps L1 p1 nt tb fd) (hB0.s0 rfl) (fun h1 hB1 => ?_)
                      refine bp_aload_n (q := 97) 48 rfl rfl rfl rfl ?_
                      refine bp_getI (q := 100) (ci := 9) (j := 0) 49 rfl rfl fl_Mo_52_9 hB1.kb rfl ?_
                      rw [hB1.i0]
                      refine bp_if_eq (q := 103) (tgt := 105) 50 rfl rfl (by decide) (fun z => absurd z (by decide)) (fun z100 => ?_)
                      refine bp_iconst (v := 0) (q := 104) 51 rfl rfl (by decide) ?_
                      exact bp_iret 52 rfl rfl rfl ⟨_, rfl, hQ3 (fun e => z60 (by rw [e]; rfl)) ⟨wi_tt z3 z10, by rw [wi_tt z14 z20, wi_tt z25 z31, wi_tt z36 (Int32.not_lt.mpr z43)]; rfl⟩ (by have := (nI_eq_iff (b := 400) (by omega) (by decide)).mp z85; omega) _ hB1⟩
                  · refine bp_iconst (v := 1) (q := 64) 32 rfl rfl (by decide) ?_
                    refine bp_goto (tgt := 93) 33 rfl (by decide) ?_
                    refine bp_putI (q := 96) (ci := 9) (j := 0) 47 rfl rfl fl_Mo_52_9 cl9 hB0.kb (fun r hr => by cases hr; rfl) (by decide) rfl rfl ?_
                    refine bp_nx (X := fun h1 => MoX M h0 h1 1 i fa fm tl lk al ind sk dp lv fr en nf nn dg nu kd pn pe T xs L ps L1 p1 nt tb fd) (hB0.s0 rfl) (fun h1 hB1 => ?_)
                    refine bp_aload_n (q := 97) 48 rfl rfl rfl rfl ?_
                    refine bp_getI (q := 100) (ci := 9) (j := 0) 49 rfl rfl fl_Mo_52_9 hB1.kb rfl ?_
                    rw [hB1.i0]
                    refine bp_if_eq (q := 103) (tgt := 105) 50 rfl rfl (by decide) (fun z => absurd z (by decide)) (fun z100 => ?_)
                    refine bp_iconst (v := 0) (q := 104) 51 rfl rfl (by decide) ?_
                    exact bp_iret 52 rfl rfl rfl ⟨_, rfl, hQ1 (List.eq_nil_of_length_eq_zero ((nI_eq_iff (b := 0) (by omega) (by decide)).mp z60)) _ hB1⟩
                · refine bp_iconst (v := 1) (q := 47) 22 rfl rfl (by decide) ?_
                  refine bp_goto (tgt := 51) 23 rfl (by decide) ?_
                  refine bp_istore (q := 53) 25 rfl rfl (by decide) (bp_up5 rfl) ?_
                  refine bp_aload_n (q := 54) 26 rfl rfl rfl rfl ?_
                  refine bp_aload_n (q := 55) 27 rfl rfl rfl rfl ?_
                  refine bp_getR (x := M 6) (q := 58) (ci := 9) (j := 6) 28 rfl rfl fl_Mo_21_9 hB0.kb rfl hB0.r6 ?_
                  refine bp_iconst (v := 0) (q := 59) 29 rfl rfl (by decide) ?_
                  refine bp_iald (q := 60) 30 rfl rfl hB0.k6 (vp_inL (n := 0) hB0.l6 (by decide) (by decide)) ?_
                  rw [show bp_I _ (M 6) ((0 : Int32).toNatClampNeg) = nI ps.length from hB0.2.2.2.2.2.1.2.2.2.1]
                  refine bp_if_ne (q := 63) (tgt := 67) 31 rfl rfl (by decide) (fun z60 => ?_) (fun z60 => ?_)
                  · refine bp_iload (q := 69) 34 rfl rfl rfl ?_
                    refine bp_if_eq (q := 72) (tgt := 76) 35 rfl rfl (by decide) (fun z => absurd z (by decide)) (fun z69 => ?_)
                    refine bp_iconst (v := 2) (q := 73) 36 rfl rfl (by decide) ?_
                    refine bp_goto (tgt := 93) 37 rfl (by decide) ?_
                    refine bp_putI (q := 96) (ci := 9) (j := 0) 47 rfl rfl fl_Mo_52_9 cl9 hB0.kb (fun r hr => by cases hr; rfl) (by decide) rfl rfl ?_
                    refine bp_nx (X := fun h1 => MoX M h0 h1 2 i fa fm tl lk al ind sk dp lv fr en nf nn dg nu kd pn pe T xs L ps L1 p1 nt tb fd) (hB0.s0 rfl) (fun h1 hB1 => ?_)
                    refine bp_aload_n (q := 97) 48 rfl rfl rfl rfl ?_
                    refine bp_getI (q := 100) (ci := 9) (j := 0) 49 rfl rfl fl_Mo_52_9 hB1.kb rfl ?_
                    rw [hB1.i0]
                    refine bp_if_eq (q := 103) (tgt := 105) 50 rfl rfl (by decide) (fun z => absurd z (by decide)) (fun z100 => ?_)
                    refine bp_iconst (v := 0) (q := 104) 51 rfl rfl (by decide) ?_
                    exact bp_iret 52 rfl rfl rfl ⟨_, rfl, hQ2 (fun e => z60 (by rw [e]; rfl)) (fun q => by have q2 := q.2; simp only [Bool.and_eq_true] at q2; exact wi_gt (Int32.not_le.mp z43) q2.2.2) _ hB1⟩
                  · refine bp_iconst (v := 1) (q := 64) 32 rfl rfl (by decide) ?_
                    refine bp_goto (tgt := 93) 33 rfl (by decide) ?_
                    refine bp_putI (q := 96) (ci := 9) (j := 0) 47 rfl rfl fl_Mo_52_9 cl9 hB0.kb (fun r hr => by cases hr; rfl) (by decide) rfl rfl ?_
                    refine bp_nx (X := fun h1 => MoX M h0 h1 1 i fa fm tl lk al ind sk dp lv fr en nf nn dg nu kd pn pe T xs L ps L1 p1 nt tb fd) (hB0.s0 rfl) (fun h1 hB1 => ?_)
                    refine bp_aload_n (q := 97) 48 rfl rfl rfl rfl ?_
                    refine bp_getI (q := 100) (ci := 9) (j := 0) 49 rfl rfl fl_Mo_52_9 hB1.kb rfl ?_
                    rw [hB1.i0]
                    refine bp_if_eq (q := 103) (tgt := 105) 50 rfl rfl (by decide) (fun z => absurd z (by decide)) (fun z100 => ?_)
                    refine bp_iconst (v := 0) (q := 104) 51 rfl rfl (by decide) ?_
                    exact bp_iret 52 rfl rfl rfl ⟨_, rfl, hQ1 (List.eq_nil_of_length_eq_zero ((nI_eq_iff (b := 0) (by omega) (by decide)).mp z60)) _ hB1⟩
set_option maxRecDepth 100000 in
set_option maxHeartbeats 4000000 in
theorem lp_Mo_run {ro : Bool} {x r y v4 v5 : Int32} {Q : Outcome → bp_H → Nat → Nat → Prop} (hB0 : MoX M h0 h tw i fa fm tl lk al ind sk dp lv fr en nf nn dg nu kd pn pe T xs L ps L1 p1 nt tb fd) (okp : okP L ps) : ∀ (m e : Nat), m + e + 1 = L.length → bp_A l G H0 (2, 45, ro, ro) M_Mo_run h c s 97 [some (.ref (M 0)), some (.int x), some (.int r), some (.int y), some (.int v4), some (.int v5), some (.int (nI (mle L ps m e)))] [] Q → bp_A l G H0 (2, 45, ro, ro) M_Mo_run h c s 82 [some (.ref (M 0)), some (.int x), some (.int r), some (.int y), some (.int v4), some (.int v5), some (.int (nI e))] [] Q := by
  have hL4 := okp.1
  intro m
  induction m with
  | zero =>
    intro e hm hQ
    refine bp_aload_n (q := 83) 45 rfl rfl rfl rfl ?_
    refine bp_iload (q := 85) 46 rfl rfl rfl ?_
    refine bp_callV (q := 88) (ci := 9) 47 rfl rfl cw_Mo_lastOfRun lk_Mo_391 rfl hB0.kb wd1685 wd81 rfl rfl (Nat.le_of_ble_eq_true rfl) ⟨Nat.le_of_ble_eq_true rfl, Nat.le_of_ble_eq_true rfl⟩ (s_Mo_lastOfRun (ro := ro) hB0 okp (by omega) ?_)
    refine bp_if_ne (q := 91) (tgt := 97) 48 rfl rfl (by decide) (fun z88 => ?_) (fun z88 => ?_)
    · exact hQ
    · exact absurd (bI0.mp z88) (by unfold lR; rw [decide_eq_true (by omega)]; simp)
  | succ m ih =>
    intro e hm hQ
    refine bp_aload_n (q := 83) 45 rfl rfl rfl rfl ?_
    refine bp_iload (q := 85) 46 rfl rfl rfl ?_
    refine bp_callV (q := 88) (ci := 9) 47 rfl rfl cw_Mo_lastOfRun lk_Mo_391 rfl hB0.kb wd1685 wd81 rfl rfl (Nat.le_of_ble_eq_true rfl) ⟨Nat.le_of_ble_eq_true rfl, Nat.le_of_ble_eq_true rfl⟩ (s_Mo_lastOfRun (ro := ro) hB0 okp (by omega) ?_)
    refine bp_if_ne (q := 91) (tgt := 97) 48 rfl rfl (by decide) (fun z88 => ?_) (fun z88 => ?_)
    · rw [mle, if_pos (bI1 z88)] at hQ
      exact hQ
    · refine bp_iinc (v := nI (e + 1)) (q := 94) 49 rfl rfl rfl (nI_1 e) (by decide) (bp_up6 rfl) ?_
      refine bp_goto (tgt := 82) 50 rfl (by decide) ?_
      rw [mle, if_neg (by rw [bI0.mp z88]; decide)] at hQ
      exact ih (e + 1) (by omega) hQ
set_option maxRecDepth 100000 in
set_option maxHeartbeats 4000000 in
theorem s_Mo_run {x r y : Int32} (hB0 : MoX M h0 h tw i fa fm tl lk al ind sk dp lv fr en nf nn dg nu kd pn pe T xs L ps L1 p1 nt tb fd) (okp : okP L ps) (hQ1 : x < 0 ∨ nI ps.length ≤ x → ∀ h', MoX M h0 h' 1 i fa fm tl lk al ind sk dp lv fr en nf nn dg nu kd pn pe T xs L ps L1 p1 nt tb fd → Q (some (.int 0)) h' c s) (hQ2 : ∀ p, x = nI p → p < ps.length → (r < 0 ∨ ∃ q, r = nI q ∧ q < 2 ^ 31 ∧ mra L ps p L.length 0 q = -1) → ∀ h', MoX M h0 h' 1 i fa fm tl lk al ind sk dp lv fr en nf nn dg nu kd pn pe T xs L ps L1 p1 nt tb fd → Q (some (.int 0)) h' c s) (hQ3 : ∀ p q k, x = nI p → r = nI q → p < ps.length → q < 2 ^ 31 → mra L ps p L.length 0 q = nI k → k < L.length → pIx ps k = p → fR L ps k = true → y.toInt < 0 ∨ 3 < y.toInt → ∀ h', MoX M h0 h' 2 i fa fm tl lk al ind sk dp lv fr en nf nn dg nu kd pn pe T xs L ps L1 p1 nt tb fd → Q (some (.int 0)) h' c s) (hQ4 : ∀ p q k w, x = nI p → r = nI q → y = nI w → p < ps.length → q < 2 ^ 31 → mra L ps p L.length 0 q = nI k → k < L.length → pIx ps k = p → fR L ps k = true → w < 4 →  ∀ h', MoX M h0 h' 0 i fa fm tl lk al ind sk dp lv fr en nf nn dg nu kd pn pe T xs L ps L1 p1 nt tb fd → Q (some (.int (nI (mrV L ps k w)))) h' c s) : bp_AM l G H0 (2, 45, false, false) M_Mo_run h c s [.ref (M 0), .int x, .int r, .int y] Q := by
  refine bp_of (ls := [some (.ref (M 0)), some (.int x), some (.int r), some (.int y), none, none, none]) (by decide) dt_Mo_run (Nat.le_of_ble_eq_true rfl) (fun q hq => hq) false ?_
  have h16 := okp.2.1
  have hL4 := okp.1
  refine bp_iload_n (q := 1) 0 rfl rfl rfl rfl ?_
  refine bp_if_lt (q := 4) (tgt := 31) 1 rfl rfl (by decide) (fun z1 => ?_) (fun z1 => ?_)
  · refine bp_iconst (v := 0) (q := 32) 17 rfl rfl (by decide) ?_
    refine bp_istore (q := 34) 18 rfl rfl (by decide) (bp_up4 rfl) ?_
    refine bp_aload_n (q := 35) 19 rfl rfl rfl rfl ?_
    refine bp_iload (q := 37) 20 rfl rfl rfl ?_
    refine bp_if_ne (q := 40) (tgt := 44) 21 rfl rfl (by decide) (fun z => absurd z (by decide)) (fun z37 => ?_)
    refine bp_iconst (v := 1) (q := 41) 22 rfl rfl (by decide) ?_
    refine bp_goto (tgt := 58) 23 rfl (by decide) ?_
    refine bp_putI (q := 61) (ci := 9) (j := 0) 32 rfl rfl fl_Mo_52_9 cl9 hB0.kb (fun r hr => by cases hr; rfl) (by decide) rfl rfl ?_
    refine bp_nx (X := fun h1 => MoX M h0 h1 1 i fa fm tl lk al ind sk dp lv fr en nf nn dg nu kd pn pe T xs L ps L1 p1 nt tb fd) (hB0.s0 rfl) (fun h1 hB1 => ?_)
    refine bp_aload_n (q := 62) 33 rfl rfl rfl rfl ?_
    refine bp_getI (q := 65) (ci := 9) (j := 0) 34 rfl rfl fl_Mo_52_9 hB1.kb rfl ?_
    rw [hB1.i0]
    refine bp_if_eq (q := 68) (tgt := 70) 35 rfl rfl (by decide) (fun z => absurd z (by decide)) (fun z65 => ?_)
    refine bp_iconst (v := 0) (q := 69) 36 rfl rfl (by decide) ?_
    exact bp_iret 37 rfl rfl rfl ⟨_, rfl, hQ1 (Or.inl z1) _ hB1⟩
  · refine bp_iload_n (q := 5) 2 rfl rfl rfl rfl ?_
    refine bp_aload_n (q := 6) 3 rfl rfl rfl rfl ?_
    refine bp_getR (x := M 6) (q := 9) (ci := 9) (j := 6) 4 rfl rfl fl_Mo_21_9 hB0.kb rfl hB0.r6 ?_
    refine bp_iconst (v := 0) (q := 10) 5 rfl rfl (by decide) ?_
    refine bp_iald (q := 11) 6 rfl rfl hB0.k6 (vp_inL (n := 0) hB0.l6 (by decide) (by decide)) ?_
    rw [show bp_I _ (M 6) ((0 : Int32).toNatClampNeg) = nI ps.length from hB0.2.2.2.2.2.1.2.2.2.1]
    refine bp_icmp_ge (q := 14) (tgt := 31) 7 rfl rfl (by decide) (fun z11 => ?_) (fun z11 => ?_)
    · refine bp_iconst (v := 0) (q := 32) 17 rfl rfl (by decide) ?_
      refine bp_istore (q := 34) 18 rfl rfl (by decide) (bp_up4 rfl) ?_
      refine bp_aload_n (q := 35) 19 rfl rfl rfl rfl ?_
      refine bp_iload (q := 37) 20 rfl rfl rfl ?_
      refine bp_if_ne (q := 40) (tgt := 44) 21 rfl rfl (by decide) (fun z => absurd z (by decide)) (fun z37 => ?_)
      refine bp_iconst (v := 1) (q := 41) 22 rfl rfl (by decide) ?_
      refine bp_goto (tgt := 58) 23 rfl (by decide) ?_
      refine bp_putI (q := 61) (ci := 9) (j := 0) 32 rfl rfl fl_Mo_52_9 cl9 hB0.kb (fun r hr => by cases hr; rfl) (by decide) rfl rfl ?_
      refine bp_nx (X := fun h1 => MoX M h0 h1 1 i fa fm tl lk al ind sk dp lv fr en nf nn dg nu kd pn pe T xs L ps L1 p1 nt tb fd) (hB0.s0 rfl) (fun h1 hB1 => ?_)
      refine bp_aload_n (q := 62) 33 rfl rfl rfl rfl ?_
      refine bp_getI (q := 65) (ci := 9) (j := 0) 34 rfl rfl fl_Mo_52_9 hB1.kb rfl ?_
      rw [hB1.i0]
      refine bp_if_eq (q := 68) (tgt := 70) 35 rfl rfl (by decide) (fun z => absurd z (by decide)) (fun z65 => ?_)
      refine bp_iconst (v := 0) (q := 69) 36 rfl rfl (by decide) ?_
      exact bp_iret 37 rfl rfl rfl ⟨_, rfl, hQ1 (Or.inr z11) _ hB1⟩
    · refine bp_iload_n (q := 15) 8 rfl rfl rfl rfl ?_
      refine bp_if_lt (q := 18) (tgt := 31) 9 rfl rfl (by decide) (fun z15 => ?_) (fun z15 => ?_)
      · refine bp_iconst (v := 0) (q := 32) 17 rfl rfl (by decide) ?_
        refine bp_istore (q := 34) 18 rfl rfl (by decide) (bp_up4 rfl) ?_
        refine bp_aload_n (q := 35) 19 rfl rfl rfl rfl ?_
        refine bp_iload (q := 37) 20 rfl rfl rfl ?_
        refine bp_if_ne (q := 40) (tgt := 44) 21 rfl rfl (by decide) (fun z => absurd z (by decide)) (fun z37 => ?_)
        refine bp_iconst (v := 1) (q := 41) 22 rfl rfl (by decide) ?_
        refine bp_goto (tgt := 58) 23 rfl (by decide) ?_
        refine bp_putI (q := 61) (ci := 9) (j := 0) 32 rfl rfl fl_Mo_52_9 cl9 hB0.kb (fun r hr => by cases hr; rfl) (by decide) rfl rfl ?_
        refine bp_nx (X := fun h1 => MoX M h0 h1 1 i fa fm tl lk al ind sk dp lv fr en nf nn dg nu kd pn pe T xs L ps L1 p1 nt tb fd) (hB0.s0 rfl) (fun h1 hB1 => ?_)
        refine bp_aload_n (q := 62) 33 rfl rfl rfl rfl ?_
        refine bp_getI (q := 65) (ci := 9) (j := 0) 34 rfl rfl fl_Mo_52_9 hB1.kb rfl ?_
        rw [hB1.i0]
        refine bp_if_eq (q := 68) (tgt := 70) 35 rfl rfl (by decide) (fun z => absurd z (by decide)) (fun z65 => ?_)
        refine bp_iconst (v := 0) (q := 69) 36 rfl rfl (by decide) ?_
        refine bp_iret 37 rfl rfl rfl ⟨_, rfl, ?_⟩
        obtain ⟨p, hp, rfl⟩ : ∃ p, p < ps.length ∧ x = nI p := by obtain ⟨j, h1, h2⟩ := nI_of z1; subst h2; exact ⟨j, (nI_ltI h1 (by omega)).mp (Int32.not_le.mp z11), rfl⟩
        exact hQ2 p rfl hp (Or.inl z15) _ hB1
      · refine bp_aload_n (q := 19) 10 rfl rfl rfl rfl ?_
        obtain ⟨p, hp, rfl⟩ : ∃ p, p < ps.length ∧ x = nI p := by obtain ⟨j, h1, h2⟩ := nI_of z1; subst h2; exact ⟨j, (nI_ltI h1 (by omega)).mp (Int32.not_le.mp z11), rfl⟩
        obtain ⟨q, hq, rfl⟩ := nI_of z15
        refine bp_iload_n (q := 20) 11 rfl rfl rfl rfl ?_
        refine bp_iload_n (q := 21) 12 rfl rfl rfl rfl ?_
        refine bp_callV (q := 24) (ci := 9) 13 rfl rfl cw_Mo_runAt lk_Mo_417 rfl hB0.kb wd1745 wd87 rfl rfl (Nat.le_of_ble_eq_true rfl) ⟨Nat.le_of_ble_eq_true rfl, Nat.le_of_ble_eq_true rfl⟩ (s_Mo_runAt (ro := false) hB0 okp (by omega) hq ?_)
        refine bp_if_lt (q := 27) (tgt := 31) 14 rfl rfl (by decide) (fun z24 => ?_) (fun z24 => ?_)
        · refine bp_iconst (v := 0) (q := 32) 17 rfl rfl (by decide) ?_
          refine bp_istore (q := 34) 18 rfl rfl (by decide) (bp_up4 rfl) ?_
          refine bp_aload_n (q := 35) 19 rfl rfl rfl rfl ?_
          refine bp_iload (q := 37) 20 rfl rfl rfl ?_
          refine bp_if_ne (q := 40) (tgt := 44) 21 rfl rfl (by decide) (fun z => absurd z (by decide)) (fun z37 => ?_)
          refine bp_iconst (v := 1) (q := 41) 22 rfl rfl (by decide) ?_
          refine bp_goto (tgt := 58) 23 rfl (by decide) ?_
          refine bp_putI (q := 61) (ci := 9) (j := 0) 32 rfl rfl fl_Mo_52_9 cl9 hB0.kb (fun r hr => by cases hr; rfl) (by decide) rfl rfl ?_
          refine bp_nx (X := fun h1 => MoX M h0 h1 1 i fa fm tl lk al ind sk dp lv fr en nf nn dg nu kd pn pe T xs L ps L1 p1 nt tb fd) (hB0.s0 rfl) (fun h1 hB1 => ?_)
          refine bp_aload_n (q := 62) 33 rfl rfl rfl rfl ?_
          refine bp_getI (q := 65) (ci := 9) (j := 0) 34 rfl rfl fl_Mo_52_9 hB1.kb rfl ?_
          rw [hB1.i0]
          refine bp_if_eq (q := 68) (tgt := 70) 35 rfl rfl (by decide) (fun z => absurd z (by decide)) (fun z65 => ?_)
          refine bp_iconst (v := 0) (q := 69) 36 rfl rfl (by decide) ?_
          refine bp_iret 37 rfl rfl rfl ⟨_, rfl, ?_⟩
          refine hQ2 p rfl hp (Or.inr ⟨q, rfl, hq, ?_⟩) _ hB1
          rcases mra_is (L := L) (ps := ps) (p := p) L.length 0 q with e | ⟨j, -, h2, h3, h4, h5⟩
          · exact e
          · rw [h5] at z24; exact absurd (Int32.lt_iff_toInt_lt.mp z24) (by rw [nI_toInt (by omega)]; show ¬ (j : Int) < 0; omega)
        · refine bp_iconst (v := 1) (q := 28) 15 rfl rfl (by decide) ?_
          refine bp_goto (tgt := 32) 16 rfl (by decide) ?_
          refine bp_istore (q := 34) 18 rfl rfl (by decide) (bp_up4 rfl) ?_
          refine bp_aload_n (q := 35) 19 rfl rfl rfl rfl ?_
          refine bp_iload (q := 37) 20 rfl rfl rfl ?_
          refine bp_if_ne (q := 40) (tgt := 44) 21 rfl rfl (by decide) (fun z37 => ?_) (fun z => absurd z (by decide))
          refine bp_iload_n (q := 45) 24 rfl rfl rfl rfl ?_
          refine bp_if_lt (q := 48) (tgt := 53) 25 rfl rfl (by decide) (fun z45 => ?_) (fun z45 => ?_)
          · refine bp_iconst (v := 2) (q := 54) 29 rfl rfl (by decide) ?_
            refine bp_goto (tgt := 58) 30 rfl (by decide) ?_
            refine bp_putI (q := 61) (ci := 9) (j := 0) 32 rfl rfl fl_Mo_52_9 cl9 hB0.kb (fun r hr => by cases hr; rfl) (by decide) rfl rfl ?_
            refine bp_nx (X := fun h1 => MoX M h0 h1 2 i fa fm tl lk al ind sk dp lv fr en nf nn dg nu kd pn pe T xs L ps L1 p1 nt tb fd) (hB0.s0 rfl) (fun h1 hB1 => ?_)
            refine bp_aload_n (q := 62) 33 rfl rfl rfl rfl ?_
            refine bp_getI (q := 65) (ci := 9) (j := 0) 34 rfl rfl fl_Mo_52_9 hB1.kb rfl ?_
            rw [hB1.i0]
            refine bp_if_eq (q := 68) (tgt := 70) 35 rfl rfl (by decide) (fun z => absurd z (by decide)) (fun z65 => ?_)
            refine bp_iconst (v := 0) (q := 69) 36 rfl rfl (by decide) ?_
            refine bp_iret 37 rfl rfl rfl ⟨_, rfl, ?_⟩
            obtain ⟨k, hk, hkp, hkf, hke⟩ : ∃ k, k < L.length ∧ pIx ps k = p ∧ fR L ps k = true ∧ mra L ps p L.length 0 q = nI k := by
              rcases mra_is (L := L) (ps := ps) (p := p) L.length 0 q with e | ⟨j, -, h2, h3, h4, h5⟩
              · rw [e] at z24; exact absurd (by decide) z24
              · exact ⟨j, by omega, h3, h4, h5⟩
            exact hQ3 p q k rfl rfl hp hq hke hk hkp hkf (Or.inl (Int32.lt_iff_toInt_lt.mp z45)) _ hB1
          · refine bp_iload_n (q := 49) 26 rfl rfl rfl rfl ?_
            refine bp_iconst (v := 3) (q := 50) 27 rfl rfl (by decide) ?_
            refine bp_icmp_le (q := 53) (tgt := 57) 28 rfl rfl (by decide) (fun z50 => ?_) (fun z50 => ?_)
            · refine bp_iconst (v := 0) (q := 58) 31 rfl rfl (by decide) ?_
              refine bp_putI (q := 61) (ci := 9) (j := 0) 32 rfl rfl fl_Mo_52_9 cl9 hB0.kb (fun r hr => by cases hr; rfl) (by decide) rfl rfl ?_
              refine bp_nx (X := fun h1 => MoX M h0 h1 0 i fa fm tl lk al ind sk dp lv fr en nf nn dg nu kd pn pe T xs L ps L1 p1 nt tb fd) (hB0.s0 rfl) (fun h1 hB1 => ?_)
              refine bp_aload_n (q := 62) 33 rfl rfl rfl rfl ?_
              refine bp_getI (q := 65) (ci := 9) (j := 0) 34 rfl rfl fl_Mo_52_9 hB1.kb rfl ?_
              rw [hB1.i0]
              refine bp_if_eq (q := 68) (tgt := 70) 35 rfl rfl (by decide) (fun z65 => ?_) (fun z => absurd z (by decide))
              refine bp_aload_n (q := 71) 38 rfl rfl rfl rfl ?_
              obtain ⟨k, hk, hkp, hkf, hke⟩ : ∃ k, k < L.length ∧ pIx ps k = p ∧ fR L ps k = true ∧ mra L ps p L.length 0 q = nI k := by
                rcases mra_is (L := L) (ps := ps) (p := p) L.length 0 q with e | ⟨j, -, h2, h3, h4, h5⟩
                · rw [e] at z24; exact absurd (by decide) z24
                · exact ⟨j, by omega, h3, h4, h5⟩
              obtain ⟨w, hw, rfl⟩ : ∃ w, w < 4 ∧ y = nI w := by
                obtain ⟨j, -, h2, h3, -⟩ := wi_cl (x := 0) (y := 3) (by decide) (by decide) (wi_tt z45 (Int32.not_lt.mpr z50))
                exact ⟨j, by omega, h3⟩
              have hyk := (okp.2.2.2 k hk).2
              refine bp_iload_n (q := 72) 39 rfl rfl rfl rfl ?_
              refine bp_iload_n (q := 73) 40 rfl rfl rfl rfl ?_
              refine bp_callV (q := 76) (ci := 9) 41 rfl rfl cw_Mo_runAt lk_Mo_417 rfl hB1.kb wd1745 wd87 rfl rfl (Nat.le_of_ble_eq_true rfl) ⟨Nat.le_of_ble_eq_true rfl, Nat.le_of_ble_eq_true rfl⟩ (s_Mo_runAt (ro := false) hB1 okp (by omega) hq ?_)
              rw [hke]
              refine bp_istore (q := 78) 42 rfl rfl (by decide) (bp_up5 rfl) ?_
              refine bp_iload (q := 80) 43 rfl rfl rfl ?_
              refine bp_istore (q := 82) 44 rfl rfl (by decide) (bp_up6 rfl) ?_
              have hme := mle_in (L := L) (ps := ps) (L.length - 1 - k) k
              refine lp_Mo_run hB1 okp (L.length - 1 - k) k (by omega) ?_
              refine bp_iload_n (q := 98) 51 rfl rfl rfl rfl ?_
              refine bp_if_ne (q := 101) (tgt := 114) 52 rfl rfl (by decide) (fun z98 => ?_) (fun z98 => ?_)
              · refine bp_iload_n (q := 115) 60 rfl rfl rfl rfl ?_
                refine bp_iconst (v := 1) (q := 116) 61 rfl rfl (by decide) ?_
                refine bp_icmp_ne (q := 119) (tgt := 136) 62 rfl rfl (by decide) (fun z116 => ?_) (fun z116 => ?_)
                · refine bp_iload_n (q := 137) 72 rfl rfl rfl rfl ?_
                  refine bp_iconst (v := 2) (q := 138) 73 rfl rfl (by decide) ?_
                  refine bp_icmp_ne (q := 141) (tgt := 155) 74 rfl rfl (by decide) (fun z138 => ?_) (fun z138 => ?_)
                  · refine bp_iload (q := 157) 82 rfl rfl rfl ?_
                    refine bp_iconst (v := 1) (q := 158) 83 rfl rfl (by decide) ?_
                    refine bp_iadd (q := 159) 84 rfl rfl ?_
                    rw [nI_1]
                    refine bp_iload (q := 161) 85 rfl rfl rfl ?_
                    refine bp_isub (q := 162) 86 rfl rfl ?_
                    rw [nI_sub (by omega)]
                    refine bp_iret 87 rfl rfl rfl ⟨_, rfl, ?_⟩
                    have qq := hQ4 p q k w rfl rfl rfl hp hq hke hk hkp hkf hw _ hB1
                    have y98 : ¬ w = 0 := fun e => z98 (by rw [e]; rfl)
                    have y116 : ¬ w = 1 := fun e => z116 (by rw [e]; rfl)
                    have y138 : ¬ w = 2 := fun e => z138 (by rw [e]; rfl)
                    rw [mrV, if_neg y98, if_neg y116, if_neg y138] at qq
                    exact qq
                  · refine bp_aload_n (q := 142) 75 rfl rfl rfl rfl ?_
                    refine bp_getR (x := M 8) (q := 145) (ci := 9) (j := 8) 76 rfl rfl fl_Mo_27_9 hB1.kb rfl hB1.r8 ?_
                    refine bp_iload (q := 147) 77 rfl rfl rfl ?_
                    refine bp_iald (q := 148) 78 rfl rfl hB1.k8 (vp_inL hB1.l8 (by omega) (by decide)) ?_
                    rw [nI_clamp (by omega), hB1.g0 hk]
                    refine bp_sipush (v := 1024) (q := 151) 79 rfl rfl (by decide) ?_
                    refine bp_idiv (q := 152) 80 rfl rfl (by decide) ?_
                    rw [(cm_sb hyk).2.2.2.2.1]
                    refine bp_goto (tgt := 162) 81 rfl (by decide) ?_
                    refine bp_iret 87 rfl rfl rfl ⟨_, rfl, ?_⟩
                    have qq := hQ4 p q k w rfl rfl rfl hp hq hke hk hkp hkf hw _ hB1
                    have y98 : ¬ w = 0 := fun e => z98 (by rw [e]; rfl)
                    have y116 : ¬ w = 1 := fun e => z116 (by rw [e]; rfl)
                    have y138 : w = 2 := (nI_eq_iff (b := 2) (by omega) (by decide)).mp z138
                    rw [mrV, if_neg y98, if_neg y116, if_pos y138] at qq
                    exact qq
                · refine bp_aload_n (q := 120) 63 rfl rfl rfl rfl ?_
                  refine bp_getR (x := M 8) (q := 123) (ci := 9) (j := 8) 64 rfl rfl fl_Mo_27_9 hB1.kb rfl hB1.r8 ?_
                  refine bp_iload (q := 125) 65 rfl rfl rfl ?_
                  refine bp_iald (q := 126) 66 rfl rfl hB1.k8 (vp_inL hB1.l8 (by omega) (by decide)) ?_
                  rw [nI_clamp (by omega), hB1.g0 hk]
                  refine bp_bipush (v := 8) (q := 128) 67 rfl rfl (by decide) ?_
                  refine bp_idiv (q := 129) 68 rfl rfl (by decide) ?_
                  refine bp_sipush (v := 128) (q := 132) 69 rfl rfl (by decide) ?_
                  refine bp_irem (q := 133) 70 rfl rfl (by decide) ?_
                  rw [(cm_sb hyk).2.2.2.1]
                  refine bp_goto (tgt := 162) 71 rfl (by decide) ?_
                  refine bp_iret 87 rfl rfl rfl ⟨_, rfl, ?_⟩
                  have qq := hQ4 p q k w rfl rfl rfl hp hq hke hk hkp hkf hw _ hB1
                  have y98 : ¬ w = 0 := fun e => z98 (by rw [e]; rfl)
                  have y116 : w = 1 := (nI_eq_iff (b := 1) (by omega) (by decide)).mp z116
                  rw [mrV, if_neg y98, if_pos y116] at qq
                  exact qq
              · refine bp_aload_n (q := 102) 53 rfl rfl rfl rfl ?_
                refine bp_getR (x := M 8) (q := 105) (ci := 9) (j := 8) 54 rfl rfl fl_Mo_27_9 hB1.kb rfl hB1.r8 ?_
                refine bp_iload (q := 107) 55 rfl rfl rfl ?_
                refine bp_iald (q := 108) 56 rfl rfl hB1.k8 (vp_inL hB1.l8 (by omega) (by decide)) ?_
                rw [nI_clamp (by omega), hB1.g0 hk]
                refine bp_bipush (v := 7) (q := 110) 57 rfl rfl (by decide) ?_
                refine bp_iand (q := 111) 58 rfl rfl ?_
                rw [cm_7 _ (cm_d _ hyk).1, (cm_d _ hyk).2.2.1]
                refine bp_goto (tgt := 162) 59 rfl (by decide) ?_
                refine bp_iret 87 rfl rfl rfl ⟨_, rfl, ?_⟩
                have qq := hQ4 p q k w rfl rfl rfl hp hq hke hk hkp hkf hw _ hB1
                have y98 : w = 0 := (nI_eq_iff (b := 0) (by omega) (by decide)).mp z98
                rw [mrV, if_pos y98] at qq
                exact qq
            · refine bp_iconst (v := 2) (q := 54) 29 rfl rfl (by decide) ?_
              refine bp_goto (tgt := 58) 30 rfl (by decide) ?_
              refine bp_putI (q := 61) (ci := 9) (j := 0) 32 rfl rfl fl_Mo_52_9 cl9 hB0.kb (fun r hr => by cases hr; rfl) (by decide) rfl rfl ?_
              refine bp_nx (X := fun h1 => MoX M h0 h1 2 i fa fm tl lk al ind sk dp lv fr en nf nn dg nu kd pn pe T xs L ps L1 p1 nt tb fd) (hB0.s0 rfl) (fun h1 hB1 => ?_)
              refine bp_aload_n (q := 62) 33 rfl rfl rfl rfl ?_
              refine bp_getI (q := 65) (ci := 9) (j := 0) 34 rfl rfl fl_Mo_52_9 hB1.kb rfl ?_
              rw [hB1.i0]
              refine bp_if_eq (q := 68) (tgt := 70) 35 rfl rfl (by decide) (fun z => absurd z (by decide)) (fun z65 => ?_)
              refine bp_iconst (v := 0) (q := 69) 36 rfl rfl (by decide) ?_
              refine bp_iret 37 rfl rfl rfl ⟨_, rfl, ?_⟩
              obtain ⟨k, hk, hkp, hkf, hke⟩ : ∃ k, k < L.length ∧ pIx ps k = p ∧ fR L ps k = true ∧ mra L ps p L.length 0 q = nI k := by
                rcases mra_is (L := L) (ps := ps) (p := p) L.length 0 q with e | ⟨j, -, h2, h3, h4, h5⟩
                · rw [e] at z24; exact absurd (by decide) z24
                · exact ⟨j, by omega, h3, h4, h5⟩
              exact hQ3 p q k rfl rfl hp hq hke hk hkp hkf (Or.inr (Int32.lt_iff_toInt_lt.mp (Int32.not_le.mp z50))) _ hB1
end MO11
