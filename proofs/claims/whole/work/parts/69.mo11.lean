/-! the reference's add, run, letter -/
theorem cm_70 : ∀ a, a < 91 → ∀ b, b < 91 → nI (91 * a + b) &&& 7 = nI ((91 * a + b) % 8) := by decide +kernel
theorem cm_7 (n : Nat) (h : n < 8192) : nI n &&& 7 = nI (n % 8) := by
  have q := cm_70 (n / 91) (by omega) (n % 91) (Nat.mod_lt _ (by decide))
  rw [Nat.div_add_mod] at q
  exact q
theorem ps_sn {ps : List (Nat × Nat × Nat)} (h : ¬ ps.length = 0) : ∃ qs qa qb qe, ps = qs ++ [(qa, qb, qe)] := by
  rcases nil_or_snoc ps with e | ⟨qs, ⟨qa, qb, qe⟩, e⟩
  · exact absurd (by rw [e]; rfl) h
  · exact ⟨qs, qa, qb, qe, e⟩
theorem pst_last {qs : List (Nat × Nat × Nat)} {q : Nat × Nat × Nat} : pst (qs ++ [q]) (qs ++ [q]).length = q.2.2 := by
  unfold pst p_e
  rw [if_neg (by simp), List.length_append]
  show ((qs ++ [q]).getD qs.length (0, 0, 0)).2.2 = q.2.2
  rw [p_sn']
theorem mra_is {L : List (Nat × Nat)} {ps : List (Nat × Nat × Nat)} {p : Nat} : ∀ (m k q : Nat), mra L ps p m k q = -1 ∨ ∃ j, k ≤ j ∧ j < k + m ∧ pIx ps j = p ∧ fR L ps j = true ∧ mra L ps p m k q = nI j
  | 0, _, _ => Or.inl rfl
  | m + 1, k, q => by
    rw [mra]
    by_cases h : pIx ps k = p ∧ fR L ps k = true
    · rw [if_pos h]
      by_cases h2 : q = 0
      · rw [if_pos h2]; exact Or.inr ⟨k, Nat.le_refl _, by omega, h.1, h.2, rfl⟩
      · rw [if_neg h2]
        rcases mra_is m (k + 1) (q - 1) with e | ⟨j, h1, h3, h4⟩
        · exact Or.inl e
        · exact Or.inr ⟨j, by omega, by omega, h4⟩
    · rw [if_neg h]
      rcases mra_is m (k + 1) q with e | ⟨j, h1, h3, h4⟩
      · exact Or.inl e
      · exact Or.inr ⟨j, by omega, by omega, h4⟩
/-- the last of the run from k on -/
def mle (L : List (Nat × Nat)) (ps : List (Nat × Nat × Nat)) : Nat → Nat → Nat
  | 0, k => k
  | n + 1, k => if lR L ps k = true then k else mle L ps n (k + 1)
theorem mle_in {L : List (Nat × Nat)} {ps : List (Nat × Nat × Nat)} : ∀ n k, k ≤ mle L ps n k ∧ mle L ps n k ≤ k + n
  | 0, k => ⟨Nat.le_refl _, Nat.le_refl _⟩
  | n + 1, k => by
    rw [mle]
    by_cases h : lR L ps k = true
    · rw [if_pos h]; omega
    · rw [if_neg h]
      have := mle_in (L := L) (ps := ps) n (k + 1)
      omega
def mrV (L : List (Nat × Nat)) (ps : List (Nat × Nat × Nat)) (k w : Nat) : Nat := if w = 0 then (lkL L).getD k 0 % 8 else if w = 1 then (lkL L).getD k 0 / 64 else if w = 2 then (lkL L).getD k 0 / 8 % 8 else mle L ps (L.length - 1 - k) k + 1 - k
theorem ps_same {qs : List (Nat × Nat × Nat)} {qa qb e1 e2 j : Nat} (h : j < qs.length + 1) : p_a (qs ++ [(qa, qb, e1)]) j = p_a (qs ++ [(qa, qb, e2)]) j ∧ p_i (qs ++ [(qa, qb, e1)]) j = p_i (qs ++ [(qa, qb, e2)]) j := by
  unfold p_a p_i
  by_cases e : j < qs.length
  · rw [p_sn e, p_sn e]; exact ⟨rfl, rfl⟩
  · have e3 : j = qs.length := by omega
    subst e3
    rw [p_sn', p_sn']; exact ⟨rfl, rfl⟩
section MO11
variable {l : Launch} {G : bp_G} {H0 : Heap} {M : Nat → Nat} {h0 h : bp_H} {tw : Int32} {i : Nat} {fa : Int32} {fm : Int32} {tl : Int32} {lk : Nat} {al : Nat} {ind : Nat} {sk : Nat} {dp : Nat} {lv : Nat} {fr : Bool} {en : Nat} {nf : Nat} {nn : Nat} {dg : Nat} {nu : Int32} {kd : Nat} {pn : Int32} {pe : Nat} {T : List Nat} {xs : List Nat} {L : List (Nat × Nat)} {ps : List (Nat × Nat × Nat)} {L1 : List (Nat × Nat)} {p1 : List (Nat × Nat × Nat)} {nt : List (Nat → Nat)} {tb : List Nat} {fd : List Nat} {c s : Nat} {Q : Option Value → bp_H → Nat → Nat → Prop}
set_option maxRecDepth 100000 in
set_option maxHeartbeats 4000000 in
theorem s_Mo_add {x1 x2 x3 x4 : Int32} (hB0 : MoX M h0 h tw i fa fm tl lk al ind sk dp lv fr en nf nn dg nu kd pn pe T xs L ps L1 p1 nt tb fd) (okp : okP L ps) (hE : pst ps ps.length = L.length) (hQ1 : ps = [] → ∀ h', MoX M h0 h' 1 i fa fm tl lk al ind sk dp lv fr en nf nn dg nu kd pn pe T xs L ps L1 p1 nt tb fd → Q (some (.int 0)) h' c s) (hQ2 : ps ≠ [] → ¬ (wi x1 32 255 = true ∧ (wi x2 0 7 && (wi x3 1 99 && wi x4 0 7)) = true) → ∀ h', MoX M h0 h' 2 i fa fm tl lk al ind sk dp lv fr en nf nn dg nu kd pn pe T xs L ps L1 p1 nt tb fd → Q (some (.int 0)) h' c s) (hQ3 : ps ≠ [] → (wi x1 32 255 = true ∧ (wi x2 0 7 && (wi x3 1 99 && wi x4 0 7)) = true) → 400 ≤ L.length → ∀ h', MoX M h0 h' 3 i fa fm tl lk al ind sk dp lv fr en nf nn dg nu kd pn pe T xs L ps L1 p1 nt tb fd → Q (some (.int 0)) h' c s) (hQ4 : ∀ (u sy sz co : Nat) (qs : List (Nat × Nat × Nat)) (qa qb qe : Nat), x1 = nI u → x2 = nI sy → x3 = nI sz → x4 = nI co → ps = qs ++ [(qa, qb, qe)] → 32 ≤ u → u < 256 → sy < 8 → 1 ≤ sz ∧ sz < 100 → co < 8 → L.length < 400 → ∀ h', MoX M h0 h' 0 i fa fm tl lk al ind sk dp lv fr en nf nn dg nu kd pn pe T xs (L ++ [(u, sy + 8 * co + 64 * sz)]) (qs ++ [(qa, qb, L.length + 1)]) L1 p1 nt tb fd → Q (some (.int (nI (mrc (L ++ [(u, sy + 8 * co + 64 * sz)]) (qs ++ [(qa, qb, L.length + 1)]) qs.length (L.length + 1) 0)))) h' c s) : bp_AM l G H0 (2, 44, false, false) M_Mo_add h c s [.ref (M 0), .int x1, .int x2, .int x3, .int x4] Q := by
  refine bp_of (ls := [some (.ref (M 0)), some (.int x1), some (.int x2), some (.int x3), some (.int x4), none]) (by decide) dt_Mo_add (Nat.le_of_ble_eq_true rfl) (fun q hq => hq) false ?_
  have h16 := okp.2.1
  have hL4 := okp.1
  refine bp_iload_n (q := 1) 0 rfl rfl rfl rfl ?_
  refine bp_bipush (v := 32) (q := 3) 1 rfl rfl (by decide) ?_
  refine bp_icmp_lt (q := 6) (tgt := 46) 2 rfl rfl (by decide) (fun z3 => ?_) (fun z3 => ?_)
  · refine bp_iconst (v := 1) (q := 47) 22 rfl rfl (by decide) ?_
    refine bp_goto (tgt := 51) 23 rfl (by decide) ?_
    refine bp_istore (q := 53) 25 rfl rfl (by decide) (bp_up5 rfl) ?_
    refine bp_aload_n (q := 54) 26 rfl rfl rfl rfl ?_
    refine bp_aload_n (q := 55) 27 rfl rfl rfl rfl ?_
    refine bp_getR (x := M 6) (q := 58) (ci := 9) (j := 6) 28 rfl rfl fl_Mo_21_9 hB0.kb rfl hB0.r6 ?_
    refine bp_iconst (v := 0) (q := 59) 29 rfl rfl (by decide) ?_
    refine bp_iald (q := 60) 30 rfl rfl hB0.k6 (vp_inL (n := 0) hB0.l6 (by decide) (by decide)) ?_
    rw [show bp_I _ (M 6) ((0 : Int32).toNatClampNeg) = nI ps.length from hB0.2.2.2.2.2.1.2.2.2.1]
    refine bp_if_ne (q := 63) (tgt := 67) 31 rfl rfl (by decide) (fun z60 => ?_) (fun z60 => ?_)
    · refine bp_iload (q := 69) 34 rfl rfl rfl ?_
      refine bp_if_eq (q := 72) (tgt := 76) 35 rfl rfl (by decide) (fun z => absurd z (by decide)) (fun z69 => ?_)
      refine bp_iconst (v := 2) (q := 73) 36 rfl rfl (by decide) ?_
      refine bp_goto (tgt := 93) 37 rfl (by decide) ?_
      refine bp_putI (q := 96) (ci := 9) (j := 0) 47 rfl rfl fl_Mo_52_9 cl9 hB0.kb (fun r hr => by cases hr; rfl) (by decide) rfl rfl ?_
      refine bp_nx (X := fun h1 => MoX M h0 h1 2 i fa fm tl lk al ind sk dp lv fr en nf nn dg nu kd pn pe T xs L ps L1 p1 nt tb fd) (hB0.s0 rfl) (fun h1 hB1 => ?_)
      refine bp_aload_n (q := 97) 48 rfl rfl rfl rfl ?_
      refine bp_getI (q := 100) (ci := 9) (j := 0) 49 rfl rfl fl_Mo_52_9 hB1.kb rfl ?_
      rw [hB1.i0]
      refine bp_if_eq (q := 103) (tgt := 105) 50 rfl rfl (by decide) (fun z => absurd z (by decide)) (fun z100 => ?_)
      refine bp_iconst (v := 0) (q := 104) 51 rfl rfl (by decide) ?_
      exact bp_iret 52 rfl rfl rfl ⟨_, rfl, hQ2 (fun e => z60 (by rw [e]; rfl)) (fun q => wi_lt z3 q.1) _ hB1⟩
    · refine bp_iconst (v := 1) (q := 64) 32 rfl rfl (by decide) ?_
      refine bp_goto (tgt := 93) 33 rfl (by decide) ?_
      refine bp_putI (q := 96) (ci := 9) (j := 0) 47 rfl rfl fl_Mo_52_9 cl9 hB0.kb (fun r hr => by cases hr; rfl) (by decide) rfl rfl ?_
      refine bp_nx (X := fun h1 => MoX M h0 h1 1 i fa fm tl lk al ind sk dp lv fr en nf nn dg nu kd pn pe T xs L ps L1 p1 nt tb fd) (hB0.s0 rfl) (fun h1 hB1 => ?_)
      refine bp_aload_n (q := 97) 48 rfl rfl rfl rfl ?_
      refine bp_getI (q := 100) (ci := 9) (j := 0) 49 rfl rfl fl_Mo_52_9 hB1.kb rfl ?_
      rw [hB1.i0]
      refine bp_if_eq (q := 103) (tgt := 105) 50 rfl rfl (by decide) (fun z => absurd z (by decide)) (fun z100 => ?_)
      refine bp_iconst (v := 0) (q := 104) 51 rfl rfl (by decide) ?_
      exact bp_iret 52 rfl rfl rfl ⟨_, rfl, hQ1 (List.eq_nil_of_length_eq_zero ((nI_eq_iff (b := 0) (by omega) (by decide)).mp z60)) _ hB1⟩
  · refine bp_iload_n (q := 7) 3 rfl rfl rfl rfl ?_
    refine bp_sipush (v := 255) (q := 10) 4 rfl rfl (by decide) ?_
    refine bp_icmp_gt (q := 13) (tgt := 46) 5 rfl rfl (by decide) (fun z10 => ?_) (fun z10 => ?_)
    · refine bp_iconst (v := 1) (q := 47) 22 rfl rfl (by decide) ?_
      refine bp_goto (tgt := 51) 23 rfl (by decide) ?_
      refine bp_istore (q := 53) 25 rfl rfl (by decide) (bp_up5 rfl) ?_
      refine bp_aload_n (q := 54) 26 rfl rfl rfl rfl ?_
      refine bp_aload_n (q := 55) 27 rfl rfl rfl rfl ?_
      refine bp_getR (x := M 6) (q := 58) (ci := 9) (j := 6) 28 rfl rfl fl_Mo_21_9 hB0.kb rfl hB0.r6 ?_
      refine bp_iconst (v := 0) (q := 59) 29 rfl rfl (by decide) ?_
      refine bp_iald (q := 60) 30 rfl rfl hB0.k6 (vp_inL (n := 0) hB0.l6 (by decide) (by decide)) ?_
      rw [show bp_I _ (M 6) ((0 : Int32).toNatClampNeg) = nI ps.length from hB0.2.2.2.2.2.1.2.2.2.1]
      refine bp_if_ne (q := 63) (tgt := 67) 31 rfl rfl (by decide) (fun z60 => ?_) (fun z60 => ?_)
      · refine bp_iload (q := 69) 34 rfl rfl rfl ?_
        refine bp_if_eq (q := 72) (tgt := 76) 35 rfl rfl (by decide) (fun z => absurd z (by decide)) (fun z69 => ?_)
        refine bp_iconst (v := 2) (q := 73) 36 rfl rfl (by decide) ?_
        refine bp_goto (tgt := 93) 37 rfl (by decide) ?_
        refine bp_putI (q := 96) (ci := 9) (j := 0) 47 rfl rfl fl_Mo_52_9 cl9 hB0.kb (fun r hr => by cases hr; rfl) (by decide) rfl rfl ?_
        refine bp_nx (X := fun h1 => MoX M h0 h1 2 i fa fm tl lk al ind sk dp lv fr en nf nn dg nu kd pn pe T xs L ps L1 p1 nt tb fd) (hB0.s0 rfl) (fun h1 hB1 => ?_)
        refine bp_aload_n (q := 97) 48 rfl rfl rfl rfl ?_
        refine bp_getI (q := 100) (ci := 9) (j := 0) 49 rfl rfl fl_Mo_52_9 hB1.kb rfl ?_
        rw [hB1.i0]
        refine bp_if_eq (q := 103) (tgt := 105) 50 rfl rfl (by decide) (fun z => absurd z (by decide)) (fun z100 => ?_)
        refine bp_iconst (v := 0) (q := 104) 51 rfl rfl (by decide) ?_
        exact bp_iret 52 rfl rfl rfl ⟨_, rfl, hQ2 (fun e => z60 (by rw [e]; rfl)) (fun q => wi_gt z10 q.1) _ hB1⟩
      · refine bp_iconst (v := 1) (q := 64) 32 rfl rfl (by decide) ?_
        refine bp_goto (tgt := 93) 33 rfl (by decide) ?_
        refine bp_putI (q := 96) (ci := 9) (j := 0) 47 rfl rfl fl_Mo_52_9 cl9 hB0.kb (fun r hr => by cases hr; rfl) (by decide) rfl rfl ?_
        refine bp_nx (X := fun h1 => MoX M h0 h1 1 i fa fm tl lk al ind sk dp lv fr en nf nn dg nu kd pn pe T xs L ps L1 p1 nt tb fd) (hB0.s0 rfl) (fun h1 hB1 => ?_)
        refine bp_aload_n (q := 97) 48 rfl rfl rfl rfl ?_
        refine bp_getI (q := 100) (ci := 9) (j := 0) 49 rfl rfl fl_Mo_52_9 hB1.kb rfl ?_
        rw [hB1.i0]
        refine bp_if_eq (q := 103) (tgt := 105) 50 rfl rfl (by decide) (fun z => absurd z (by decide)) (fun z100 => ?_)
        refine bp_iconst (v := 0) (q := 104) 51 rfl rfl (by decide) ?_
        exact bp_iret 52 rfl rfl rfl ⟨_, rfl, hQ1 (List.eq_nil_of_length_eq_zero ((nI_eq_iff (b := 0) (by omega) (by decide)).mp z60)) _ hB1⟩
    · refine bp_iload_n (q := 14) 6 rfl rfl rfl rfl ?_
      refine bp_if_lt (q := 17) (tgt := 46) 7 rfl rfl (by decide) (fun z14 => ?_) (fun z14 => ?_)
      · refine bp_iconst (v := 1) (q := 47) 22 rfl rfl (by decide) ?_
        refine bp_goto (tgt := 51) 23 rfl (by decide) ?_
        refine bp_istore (q := 53) 25 rfl rfl (by decide) (bp_up5 rfl) ?_
        refine bp_aload_n (q := 54) 26 rfl rfl rfl rfl ?_
        refine bp_aload_n (q := 55) 27 rfl rfl rfl rfl ?_
        refine bp_getR (x := M 6) (q := 58) (ci := 9) (j := 6) 28 rfl rfl fl_Mo_21_9 hB0.kb rfl hB0.r6 ?_
        refine bp_iconst (v := 0) (q := 59) 29 rfl rfl (by decide) ?_
        refine bp_iald (q := 60) 30 rfl rfl hB0.k6 (vp_inL (n := 0) hB0.l6 (by decide) (by decide)) ?_
        rw [show bp_I _ (M 6) ((0 : Int32).toNatClampNeg) = nI ps.length from hB0.2.2.2.2.2.1.2.2.2.1]
        refine bp_if_ne (q := 63) (tgt := 67) 31 rfl rfl (by decide) (fun z60 => ?_) (fun z60 => ?_)
        · refine bp_iload (q := 69) 34 rfl rfl rfl ?_
          refine bp_if_eq (q := 72) (tgt := 76) 35 rfl rfl (by decide) (fun z => absurd z (by decide)) (fun z69 => ?_)
          refine bp_iconst (v := 2) (q := 73) 36 rfl rfl (by decide) ?_
          refine bp_goto (tgt := 93) 37 rfl (by decide) ?_
          refine bp_putI (q := 96) (ci := 9) (j := 0) 47 rfl rfl fl_Mo_52_9 cl9 hB0.kb (fun r hr => by cases hr; rfl) (by decide) rfl rfl ?_
          refine bp_nx (X := fun h1 => MoX M h0 h1 2 i fa fm tl lk al ind sk dp lv fr en nf nn dg nu kd pn pe T xs L ps L1 p1 nt tb fd) (hB0.s0 rfl) (fun h1 hB1 => ?_)
          refine bp_aload_n (q := 97) 48 rfl rfl rfl rfl ?_
          refine bp_getI (q := 100) (ci := 9) (j := 0) 49 rfl rfl fl_Mo_52_9 hB1.kb rfl ?_
          rw [hB1.i0]
          refine bp_if_eq (q := 103) (tgt := 105) 50 rfl rfl (by decide) (fun z => absurd z (by decide)) (fun z100 => ?_)
          refine bp_iconst (v := 0) (q := 104) 51 rfl rfl (by decide) ?_
          exact bp_iret 52 rfl rfl rfl ⟨_, rfl, hQ2 (fun e => z60 (by rw [e]; rfl)) (fun q => by have q2 := q.2; simp only [Bool.and_eq_true] at q2; exact wi_lt z14 q2.1) _ hB1⟩
        · refine bp_iconst (v := 1) (q := 64) 32 rfl rfl (by decide) ?_
          refine bp_goto (tgt := 93) 33 rfl (by decide) ?_
          refine bp_putI (q := 96) (ci := 9) (j := 0) 47 rfl rfl fl_Mo_52_9 cl9 hB0.kb (fun r hr => by cases hr; rfl) (by decide) rfl rfl ?_
          refine bp_nx (X := fun h1 => MoX M h0 h1 1 i fa fm tl lk al ind sk dp lv fr en nf nn dg nu kd pn pe T xs L ps L1 p1 nt tb fd) (hB0.s0 rfl) (fun h1 hB1 => ?_)
          refine bp_aload_n (q := 97) 48 rfl rfl rfl rfl ?_
          refine bp_getI (q := 100) (ci := 9) (j := 0) 49 rfl rfl fl_Mo_52_9 hB1.kb rfl ?_
          rw [hB1.i0]
          refine bp_if_eq (q := 103) (tgt := 105) 50 rfl rfl (by decide) (fun z => absurd z (by decide)) (fun z100 => ?_)
          refine bp_iconst (v := 0) (q := 104) 51 rfl rfl (by decide) ?_
          exact bp_iret 52 rfl rfl rfl ⟨_, rfl, hQ1 (List.eq_nil_of_length_eq_zero ((nI_eq_iff (b := 0) (by omega) (by decide)).mp z60)) _ hB1⟩
      · refine bp_iload_n (q := 18) 8 rfl rfl rfl rfl ?_
        refine bp_bipush (v := 7) (q := 20) 9 rfl rfl (by decide) ?_
        refine bp_icmp_gt (q := 23) (tgt := 46) 10 rfl rfl (by decide) (fun z20 => ?_) (fun z20 => ?_)
        · refine bp_iconst (v := 1) (q := 47) 22 rfl rfl (by decide) ?_
          refine bp_goto (tgt := 51) 23 rfl (by decide) ?_
          refine bp_istore (q := 53) 25 rfl rfl (by decide) (bp_up5 rfl) ?_
          refine bp_aload_n (q := 54) 26 rfl rfl rfl rfl ?_
          refine bp_aload_n (q := 55) 27 rfl rfl rfl rfl ?_
          refine bp_getR (x := M 6) (q := 58) (ci := 9) (j := 6) 28 rfl rfl fl_Mo_21_9 hB0.kb rfl hB0.r6 ?_
          refine bp_iconst (v := 0) (q := 59) 29 rfl rfl (by decide) ?_
          refine bp_iald (q := 60) 30 rfl rfl hB0.k6 (vp_inL (n := 0) hB0.l6 (by decide) (by decide)) ?_
          rw [show bp_I _ (M 6) ((0 : Int32).toNatClampNeg) = nI ps.length from hB0.2.2.2.2.2.1.2.2.2.1]
          refine bp_if_ne (q := 63) (tgt := 67) 31 rfl rfl (by decide) (fun z60 => ?_) (fun z60 => ?_)
          · refine bp_iload (q := 69) 34 rfl rfl rfl ?_
            refine bp_if_eq (q := 72) (tgt := 76) 35 rfl rfl (by decide) (fun z => absurd z (by decide)) (fun z69 => ?_)
            refine bp_iconst (v := 2) (q := 73) 36 rfl rfl (by decide) ?_
            refine bp_goto (tgt := 93) 37 rfl (by decide) ?_
            refine bp_putI (q := 96) (ci := 9) (j := 0) 47 rfl rfl fl_Mo_52_9 cl9 hB0.kb (fun r hr => by cases hr; rfl) (by decide) rfl rfl ?_
            refine bp_nx (X := fun h1 => MoX M h0 h1 2 i fa fm tl lk al ind sk dp lv fr en nf nn dg nu kd pn pe T xs L ps L1 p1 nt tb fd) (hB0.s0 rfl) (fun h1 hB1 => ?_)
            refine bp_aload_n (q := 97) 48 rfl rfl rfl rfl ?_
            refine bp_getI (q := 100) (ci := 9) (j := 0) 49 rfl rfl fl_Mo_52_9 hB1.kb rfl ?_
            rw [hB1.i0]
            refine bp_if_eq (q := 103) (tgt := 105) 50 rfl rfl (by decide) (fun z => absurd z (by decide)) (fun z100 => ?_)
            refine bp_iconst (v := 0) (q := 104) 51 rfl rfl (by decide) ?_
            exact bp_iret 52 rfl rfl rfl ⟨_, rfl, hQ2 (fun e => z60 (by rw [e]; rfl)) (fun q => by have q2 := q.2; simp only [Bool.and_eq_true] at q2; exact wi_gt z20 q2.1) _ hB1⟩
          · refine bp_iconst (v := 1) (q := 64) 32 rfl rfl (by decide) ?_
            refine bp_goto (tgt := 93) 33 rfl (by decide) ?_
            refine bp_putI (q := 96) (ci := 9) (j := 0) 47 rfl rfl fl_Mo_52_9 cl9 hB0.kb (fun r hr => by cases hr; rfl) (by decide) rfl rfl ?_
            refine bp_nx (X := fun h1 => MoX M h0 h1 1 i fa fm tl lk al ind sk dp lv fr en nf nn dg nu kd pn pe T xs L ps L1 p1 nt tb fd) (hB0.s0 rfl) (fun h1 hB1 => ?_)
            refine bp_aload_n (q := 97) 48 rfl rfl rfl rfl ?_
            refine bp_getI (q := 100) (ci := 9) (j := 0) 49 rfl rfl fl_Mo_52_9 hB1.kb rfl ?_
            rw [hB1.i0]
            refine bp_if_eq (q := 103) (tgt := 105) 50 rfl rfl (by decide) (fun z => absurd z (by decide)) (fun z100 => ?_)
            refine bp_iconst (v := 0) (q := 104) 51 rfl rfl (by decide) ?_
            exact bp_iret 52 rfl rfl rfl ⟨_, rfl, hQ1 (List.eq_nil_of_length_eq_zero ((nI_eq_iff (b := 0) (by omega) (by decide)).mp z60)) _ hB1⟩
        · refine bp_iload_n (q := 24) 11 rfl rfl rfl rfl ?_
          refine bp_iconst (v := 1) (q := 25) 12 rfl rfl (by decide) ?_
          refine bp_icmp_lt (q := 28) (tgt := 46) 13 rfl rfl (by decide) (fun z25 => ?_) (fun z25 => ?_)
          · refine bp_iconst (v := 1) (q := 47) 22 rfl rfl (by decide) ?_
            refine bp_goto (tgt := 51) 23 rfl (by decide) ?_
            refine bp_istore (q := 53) 25 rfl rfl (by decide) (bp_up5 rfl) ?_
            refine bp_aload_n (q := 54) 26 rfl rfl rfl rfl ?_
            refine bp_aload_n (q := 55) 27 rfl rfl rfl rfl ?_
            refine bp_getR (x := M 6) (q := 58) (ci := 9) (j := 6) 28 rfl rfl fl_Mo_21_9 hB0.kb rfl hB0.r6 ?_
            refine bp_iconst (v := 0) (q := 59) 29 rfl rfl (by decide) ?_
            refine bp_iald (q := 60) 30 rfl rfl hB0.k6 (vp_inL (n := 0) hB0.l6 (by decide) (by decide)) ?_
            rw [show bp_I _ (M 6) ((0 : Int32).toNatClampNeg) = nI ps.length from hB0.2.2.2.2.2.1.2.2.2.1]
            refine bp_if_ne (q := 63) (tgt := 67) 31 rfl rfl (by decide) (fun z60 => ?_) (fun z60 => ?_)
            · refine bp_iload (q := 69) 34 rfl rfl rfl ?_
              refine bp_if_eq (q := 72) (tgt := 76) 35 rfl rfl (by decide) (fun z => absurd z (by decide)) (fun z69 => ?_)
              refine bp_iconst (v := 2) (q := 73) 36 rfl rfl (by decide) ?_
              refine bp_goto (tgt := 93) 37 rfl (by decide) ?_
              refine bp_putI (q := 96) (ci := 9) (j := 0) 47 rfl rfl fl_Mo_52_9 cl9 hB0.kb (fun r hr => by cases hr; rfl) (by decide) rfl rfl ?_
              refine bp_nx (X := fun h1 => MoX M h0 h1 2 i fa fm tl lk al ind sk dp lv fr en nf nn dg nu kd pn pe T xs L ps L1 p1 nt tb fd) (hB0.s0 rfl) (fun h1 hB1 => ?_)
              refine bp_aload_n (q := 97) 48 rfl rfl rfl rfl ?_
              refine bp_getI (q := 100) (ci := 9) (j := 0) 49 rfl rfl fl_Mo_52_9 hB1.kb rfl ?_
              rw [hB1.i0]
              refine bp_if_eq (q := 103) (tgt := 105) 50 rfl rfl (by decide) (fun z => absurd z (by decide)) (fun z100 => ?_)
              refine bp_iconst (v := 0) (q := 104) 51 rfl rfl (by decide) ?_
              exact bp_iret 52 rfl rfl rfl ⟨_, rfl, hQ2 (fun e => z60 (by rw [e]; rfl)) (fun q => by have q2 := q.2; simp only [Bool.and_eq_true] at q2; exact wi_lt z25 q2.2.1) _ hB1⟩
            · refine bp_iconst (v := 1) (q := 64) 32 rfl rfl (by decide) ?_
              refine bp_goto (tgt := 93) 33 rfl (by decide) ?_
              refine bp_putI (q := 96) (ci := 9) (j := 0) 47 rfl rfl fl_Mo_52_9 cl9 hB0.kb (fun r hr => by cases hr; rfl) (by decide) rfl rfl ?_
              refine bp_nx (X := fun h1 => MoX M h0 h1 1 i fa fm tl lk al ind sk dp lv fr en nf nn dg nu kd pn pe T xs L ps L1 p1 nt tb fd) (hB0.s0 rfl) (fun h1 hB1 => ?_)
              refine bp_aload_n (q := 97) 48 rfl rfl rfl rfl ?_
              refine bp_getI (q := 100) (ci := 9) (j := 0) 49 rfl rfl fl_Mo_52_9 hB1.kb rfl ?_
              rw [hB1.i0]
              refine bp_if_eq (q := 103) (tgt := 105) 50 rfl rfl (by decide) (fun z => absurd z (by decide)) (fun z100 => ?_)
              refine bp_iconst (v := 0) (q := 104) 51 rfl rfl (by decide) ?_
              exact bp_iret 52 rfl rfl rfl ⟨_, rfl, hQ1 (List.eq_nil_of_length_eq_zero ((nI_eq_iff (b := 0) (by omega) (by decide)).mp z60)) _ hB1⟩
          · refine bp_iload_n (q := 29) 14 rfl rfl rfl rfl ?_
            refine bp_bipush (v := 99) (q := 31) 15 rfl rfl (by decide) ?_
            refine bp_icmp_gt (q := 34) (tgt := 46) 16 rfl rfl (by decide) (fun z31 => ?_) (fun z31 => ?_)
            · refine bp_iconst (v := 1) (q := 47) 22 rfl rfl (by decide) ?_
              refine bp_goto (tgt := 51) 23 rfl (by decide) ?_
              refine bp_istore (q := 53) 25 rfl rfl (by decide) (bp_up5 rfl) ?_
              refine bp_aload_n (q := 54) 26 rfl rfl rfl rfl ?_
              refine bp_aload_n (q := 55) 27 rfl rfl rfl rfl ?_
              refine bp_getR (x := M 6) (q := 58) (ci := 9) (j := 6) 28 rfl rfl fl_Mo_21_9 hB0.kb rfl hB0.r6 ?_
              refine bp_iconst (v := 0) (q := 59) 29 rfl rfl (by decide) ?_
              refine bp_iald (q := 60) 30 rfl rfl hB0.k6 (vp_inL (n := 0) hB0.l6 (by decide) (by decide)) ?_
              rw [show bp_I _ (M 6) ((0 : Int32).toNatClampNeg) = nI ps.length from hB0.2.2.2.2.2.1.2.2.2.1]
              refine bp_if_ne (q := 63) (tgt := 67) 31 rfl rfl (by decide) (fun z60 => ?_) (fun z60 => ?_)
              · refine bp_iload (q := 69) 34 rfl rfl rfl ?_
                refine bp_if_eq (q := 72) (tgt := 76) 35 rfl rfl (by decide) (fun z => absurd z (by decide)) (fun z69 => ?_)
                refine bp_iconst (v := 2) (q := 73) 36 rfl rfl (by decide) ?_
                refine bp_goto (tgt := 93) 37 rfl (by decide) ?_
                refine bp_putI (q := 96) (ci := 9) (j := 0) 47 rfl rfl fl_Mo_52_9 cl9 hB0.kb (fun r hr => by cases hr; rfl) (by decide) rfl rfl ?_
                refine bp_nx (X := fun h1 => MoX M h0 h1 2 i fa fm tl lk al ind sk dp lv fr en nf nn dg nu kd pn pe T xs L ps L1 p1 nt tb fd) (hB0.s0 rfl) (fun h1 hB1 => ?_)
                refine bp_aload_n (q := 97) 48 rfl rfl rfl rfl ?_
                refine bp_getI (q := 100) (ci := 9) (j := 0) 49 rfl rfl fl_Mo_52_9 hB1.kb rfl ?_
                rw [hB1.i0]
                refine bp_if_eq (q := 103) (tgt := 105) 50 rfl rfl (by decide) (fun z => absurd z (by decide)) (fun z100 => ?_)
                refine bp_iconst (v := 0) (q := 104) 51 rfl rfl (by decide) ?_
                exact bp_iret 52 rfl rfl rfl ⟨_, rfl, hQ2 (fun e => z60 (by rw [e]; rfl)) (fun q => by have q2 := q.2; simp only [Bool.and_eq_true] at q2; exact wi_gt z31 q2.2.1) _ hB1⟩
              · refine bp_iconst (v := 1) (q := 64) 32 rfl rfl (by decide) ?_
                refine bp_goto (tgt := 93) 33 rfl (by decide) ?_
                refine bp_putI (q := 96) (ci := 9) (j := 0) 47 rfl rfl fl_Mo_52_9 cl9 hB0.kb (fun r hr => by cases hr; rfl) (by decide) rfl rfl ?_
                refine bp_nx (X := fun h1 => MoX M h0 h1 1 i fa fm tl lk al ind sk dp lv fr en nf nn dg nu kd pn pe T xs L ps L1 p1 nt tb fd) (hB0.s0 rfl) (fun h1 hB1 => ?_)
                refine bp_aload_n (q := 97) 48 rfl rfl rfl rfl ?_
                refine bp_getI (q := 100) (ci := 9) (j := 0) 49 rfl rfl fl_Mo_52_9 hB1.kb rfl ?_
                rw [hB1.i0]
                refine bp_if_eq (q := 103) (tgt := 105) 50 rfl rfl (by decide) (fun z => absurd z (by decide)) (fun z100 => ?_)
                refine bp_iconst (v := 0) (q := 104) 51 rfl rfl (by decide) ?_
                exact bp_iret 52 rfl rfl rfl ⟨_, rfl, hQ1 (List.eq_nil_of_length_eq_zero ((nI_eq_iff (b := 0) (by omega) (by decide)).mp z60)) _ hB1⟩
            · refine bp_iload (q := 36) 17 rfl rfl rfl ?_
              refine bp_if_lt (q := 39) (tgt := 46) 18 rfl rfl (by decide) (fun z36 => ?_) (fun z36 => ?_)
              · refine bp_iconst (v := 1) (q := 47) 22 rfl rfl (by decide) ?_
                refine bp_goto (tgt := 51) 23 rfl (by decide) ?_
                refine bp_istore (q := 53) 25 rfl rfl (by decide) (bp_up5 rfl) ?_
                refine bp_aload_n (q := 54) 26 rfl rfl rfl rfl ?_
                refine bp_aload_n (q := 55) 27 rfl rfl rfl rfl ?_
                refine bp_getR (x := M 6) (q := 58) (ci := 9) (j := 6) 28 rfl rfl fl_Mo_21_9 hB0.kb rfl hB0.r6 ?_
                refine bp_iconst (v := 0) (q := 59) 29 rfl rfl (by decide) ?_
                refine bp_iald (q := 60) 30 rfl rfl hB0.k6 (vp_inL (n := 0) hB0.l6 (by decide) (by decide)) ?_
                rw [show bp_I _ (M 6) ((0 : Int32).toNatClampNeg) = nI ps.length from hB0.2.2.2.2.2.1.2.2.2.1]
                refine bp_if_ne (q := 63) (tgt := 67) 31 rfl rfl (by decide) (fun z60 => ?_) (fun z60 => ?_)
                · refine bp_iload (q := 69) 34 rfl rfl rfl ?_
                  refine bp_if_eq (q := 72) (tgt := 76) 35 rfl rfl (by decide) (fun z => absurd z (by decide)) (fun z69 => ?_)
                  refine bp_iconst (v := 2) (q := 73) 36 rfl rfl (by decide) ?_
                  refine bp_goto (tgt := 93) 37 rfl (by decide) ?_
                  refine bp_putI (q := 96) (ci := 9) (j := 0) 47 rfl rfl fl_Mo_52_9 cl9 hB0.kb (fun r hr => by cases hr; rfl) (by decide) rfl rfl ?_
                  refine bp_nx (X := fun h1 => MoX M h0 h1 2 i fa fm tl lk al ind sk dp lv fr en nf nn dg nu kd pn pe T xs L ps L1 p1 nt tb fd) (hB0.s0 rfl) (fun h1 hB1 => ?_)
                  refine bp_aload_n (q := 97) 48 rfl rfl rfl rfl ?_
                  refine bp_getI (q := 100) (ci := 9) (j := 0) 49 rfl rfl fl_Mo_52_9 hB1.kb rfl ?_
                  rw [hB1.i0]
                  refine bp_if_eq (q := 103) (tgt := 105) 50 rfl rfl (by decide) (fun z => absurd z (by decide)) (fun z100 => ?_)
                  refine bp_iconst (v := 0) (q := 104) 51 rfl rfl (by decide) ?_
                  exact bp_iret 52 rfl rfl rfl ⟨_, rfl, hQ2 (fun e => z60 (by rw [e]; rfl)) (fun q => by have q2 := q.2; simp only [Bool.and_eq_true] at q2; exact wi_lt z36 q2.2.2) _ hB1⟩
                · refine bp_iconst (v := 1) (q := 64) 32 rfl rfl (by decide) ?_
                  refine bp_goto (tgt := 93) 33 rfl (by decide) ?_
                  refine bp_putI (q := 96) (ci := 9) (j := 0) 47 rfl rfl fl_Mo_52_9 cl9 hB0.kb (fun r hr => by cases hr; rfl) (by decide) rfl rfl ?_
                  refine bp_nx (X := fun h1 => MoX M h0 h1 1 i fa fm tl lk al ind sk dp lv fr en nf nn dg nu kd pn pe T xs L ps L1 p1 nt tb fd) (hB0.s0 rfl) (fun h1 hB1 => ?_)
                  refine bp_aload_n (q := 97) 48 rfl rfl rfl rfl ?_
                  refine bp_getI (q := 100) (ci := 9) (j := 0) 49 rfl rfl fl_Mo_52_9 hB1.kb rfl ?_
                  rw [hB1.i0]
                  refine bp_if_eq (q := 103) (tgt := 105) 50 rfl rfl (by decide) (fun z => absurd z (by decide)) (fun z100 => ?_)
                  refine bp_iconst (v := 0) (q := 104) 51 rfl rfl (by decide) ?_
                  exact bp_iret 52 rfl rfl rfl ⟨_, rfl, hQ1 (List.eq_nil_of_length_eq_zero ((nI_eq_iff (b := 0) (by omega) (by decide)).mp z60)) _ hB1⟩
              · refine bp_iload (q := 41) 19 rfl rfl rfl ?_
                refine bp_bipush (v := 7) (q := 43) 20 rfl rfl (by decide) ?_
                refine bp_icmp_le (q := 46) (tgt := 50) 21 rfl rfl (by decide) (fun z43 => ?_) (fun z43 => ?_)
                · refine bp_iconst (v := 0) (q := 51) 24 rfl rfl (by decide) ?_
                  refine bp_istore (q := 53) 25 rfl rfl (by decide) (bp_up5 rfl) ?_
                  refine bp_aload_n (q := 54) 26 rfl rfl rfl rfl ?_
                  refine bp_aload_n (q := 55) 27 rfl rfl rfl rfl ?_
                  refine bp_getR (x := M 6) (q := 58) (ci := 9) (j := 6) 28 rfl rfl fl_Mo_21_9 hB0.kb rfl hB0.r6 ?_
                  refine bp_iconst (v := 0) (q := 59) 29 rfl rfl (by decide) ?_
                  refine bp_iald (q := 60) 30 rfl rfl hB0.k6 (vp_inL (n := 0) hB0.l6 (by decide) (by decide)) ?_
                  rw [show bp_I _ (M 6) ((0 : Int32).toNatClampNeg) = nI ps.length from hB0.2.2.2.2.2.1.2.2.2.1]
                  refine bp_if_ne (q := 63) (tgt := 67) 31 rfl rfl (by decide) (fun z60 => ?_) (fun z60 => ?_)
                  · refine bp_iload (q := 69) 34 rfl rfl rfl ?_
                    refine bp_if_eq (q := 72) (tgt := 76) 35 rfl rfl (by decide) (fun z69 => ?_) (fun z => absurd z (by decide))
                    refine bp_aload_n (q := 77) 38 rfl rfl rfl rfl ?_
                    refine bp_getR (x := M 5) (q := 80) (ci := 9) (j := 5) 39 rfl rfl fl_Mo_17_9 hB0.kb rfl hB0.r5 ?_
                    refine bp_iconst (v := 0) (q := 81) 40 rfl rfl (by decide) ?_
                    refine bp_iald (q := 82) 41 rfl rfl hB0.k5 (vp_inL (n := 0) hB0.l5 (by decide) (by decide)) ?_
                    rw [show bp_I _ (M 5) ((0 : Int32).toNatClampNeg) = nI L.length from hB0.2.2.2.2.2.1.2.2.1]
                    refine bp_sipush (v := 400) (q := 85) 42 rfl rfl (by decide) ?_
                    refine bp_icmp_ne (q := 88) (tgt := 92) 43 rfl rfl (by decide) (fun z85 => ?_) (fun z85 => ?_)
                    · refine bp_iconst (v := 0) (q := 93) 46 rfl rfl (by decide) ?_
                      refine bp_putI (q := 96) (ci := 9) (j := 0) 47 rfl rfl fl_Mo_52_9 cl9 hB0.kb (fun r hr => by cases hr; rfl) (by decide) rfl rfl ?_
                      refine bp_nx (X := fun h1 => MoX M h0 h1 0 i fa fm tl lk al ind sk dp lv fr en nf nn dg nu kd pn pe T xs L ps L1 p1 nt tb fd) (hB0.s0 rfl) (fun h1 hB1 => ?_)
                      refine bp_aload_n (q := 97) 48 rfl rfl rfl rfl ?_
                      refine bp_getI (q := 100) (ci := 9) (j := 0) 49 rfl rfl fl_Mo_52_9 hB1.kb rfl ?_
                      rw [hB1.i0]
                      refine bp_if_eq (q := 103) (tgt := 105) 50 rfl rfl (by decide) (fun z100 => ?_) (fun z => absurd z (by decide))
                      refine bp_aload_n (q := 106) 53 rfl rfl rfl rfl ?_
                      obtain ⟨u, u1, u2, rfl, -⟩ := wi_cl (n := x1) (x := 32) (y := 255) (by decide) (by decide) (wi_tt z3 z10)
                      obtain ⟨sy, sy1, sy2, rfl, -⟩ := wi_cl (n := x2) (x := 0) (y := 7) (by decide) (by decide) (wi_tt z14 z20)
                      obtain ⟨sz, sz1, sz2, rfl, -⟩ := wi_cl (n := x3) (x := 1) (y := 99) (by decide) (by decide) (wi_tt z25 z31)
                      obtain ⟨co, co1, co2, rfl, -⟩ := wi_cl (n := x4) (x := 0) (y := 7) (by decide) (by decide) (wi_tt z36 (Int32.not_lt.mpr z43))
                      obtain ⟨qs, qa, qb, qe, hps⟩ := ps_sn (fun e => z60 (by rw [e]; rfl))
                      have hqe : qe = L.length := by have q := hE; rw [hps, pst_last] at q; exact q
                      have hpl : ps.length = qs.length + 1 := by rw [hps, List.length_append]; rfl
                      have hl4 : L.length < 400 := by
                        have q2 : ¬ L.length = 400 := fun e => z85 (by rw [e]; rfl)
                        omega
                      have hpd : nI ps.length - 1 = nI qs.length := by rw [hpl]; exact nI_sub (b := 1) (by omega)
                      have hqs : ∀ q ∈ qs, q.2.2 ≤ L.length := fun q hq => okp.ends q (by rw [hps]; exact List.mem_append_left _ hq)
                      refine bp_iconst (v := 0) (q := 107) 54 rfl rfl (by decide) ?_
                      refine bp_iload_n (q := 108) 55 rfl rfl rfl rfl ?_
                      refine bp_iload_n (q := 109) 56 rfl rfl rfl rfl ?_
                      refine bp_bipush (v := 8) (q := 111) 57 rfl rfl (by decide) ?_
                      refine bp_iload_n (q := 112) 58 rfl rfl rfl rfl ?_
                      refine bp_imul (q := 113) 59 rfl rfl ?_
                      refine bp_iadd (q := 114) 60 rfl rfl ?_
                      refine bp_sipush (v := 1024) (q := 117) 61 rfl rfl (by decide) ?_
                      refine bp_iload (q := 119) 62 rfl rfl rfl ?_
                      refine bp_imul (q := 120) 63 rfl rfl ?_
                      refine bp_iadd (q := 121) 64 rfl rfl ?_
                      rw [show nI sy + 8 * nI sz + 1024 * nI co = nI (cmL (sy + 8 * co + 64 * sz)) from by rw [show (8 : Int32) = nI 8 from rfl, show (1024 : Int32) = nI 1024 from rfl, nI_mul, nI_mul, nI_add, nI_add]; congr 1; unfold cmL; omega]
                      refine bp_aload_n (q := 122) 65 rfl rfl rfl rfl ?_
                      refine bp_getR (x := M 6) (q := 125) (ci := 9) (j := 6) 66 rfl rfl fl_Mo_21_9 hB1.kb rfl hB1.r6 ?_
                      refine bp_iconst (v := 0) (q := 126) 67 rfl rfl (by decide) ?_
                      refine bp_iald (q := 127) 68 rfl rfl hB1.k6 (vp_inL (n := 0) hB1.l6 (by decide) (by decide)) ?_
                      rw [show bp_I _ (M 6) ((0 : Int32).toNatClampNeg) = nI ps.length from hB1.2.2.2.2.2.1.2.2.2.1]
                      refine bp_iconst (v := 1) (q := 128) 69 rfl rfl (by decide) ?_
                      refine bp_isub (q := 129) 70 rfl rfl ?_
                      rw [hpd]
                      refine bp_callV (q := 132) (ci := 9) 71 rfl rfl cw_Mo_addLetter lk_Mo_111 rfl hB1.kb wd1523 wd57 rfl rfl (Nat.le_of_ble_eq_true rfl) ⟨Nat.le_of_ble_eq_true rfl, Nat.le_of_ble_eq_true rfl⟩ (s_Mo_addLetter0 (u := u) (y := sy + 8 * co + 64 * sz) (q := qs.length) (ps' := qs ++ [(qa, qb, L.length + 1)]) hB1 hl4 (by rw [hps, List.length_append, List.length_append]; rfl) (fun j hj => by rw [hps]; exact ps_same (by omega)) (fun k hk => by rw [hps, pIx_sn, pIx_sn, if_neg (by show ¬ L.length + 1 ≤ k; omega), if_neg (by show ¬ qe ≤ k; omega)]) (by rw [pIx_sn, if_neg (by show ¬ L.length + 1 ≤ L.length; omega), pIx_all hqs]; rfl) (fun h2 hB2 => ?_))
                      refine bp_aload_n (q := 133) 72 rfl rfl rfl rfl ?_
                      refine bp_aload_n (q := 134) 73 rfl rfl rfl rfl ?_
                      refine bp_getR (x := M 6) (q := 137) (ci := 9) (j := 6) 74 rfl rfl fl_Mo_21_9 hB2.kb rfl hB2.r6 ?_
                      refine bp_iconst (v := 0) (q := 138) 75 rfl rfl (by decide) ?_
                      refine bp_iald (q := 139) 76 rfl rfl hB2.k6 (vp_inL (n := 0) hB2.l6 (by decide) (by decide)) ?_
                      rw [show bp_I _ (M 6) ((0 : Int32).toNatClampNeg) = nI (qs ++ [(qa, qb, L.length + 1)]).length from hB2.2.2.2.2.2.1.2.2.2.1]
                      refine bp_iconst (v := 1) (q := 140) 77 rfl rfl (by decide) ?_
                      refine bp_isub (q := 141) 78 rfl rfl ?_
                      rw [show nI (qs ++ [(qa, qb, L.length + 1)]).length - 1 = nI qs.length from by rw [show (qs ++ [(qa, qb, L.length + 1)]).length = qs.length + 1 from List.length_append ..]; exact nI_sub (b := 1) (by omega)]
                      refine bp_callV (q := 144) (ci := 9) 79 rfl rfl cw_Mo_runsOf lk_Mo_411 rfl hB2.kb wd1721 wd85 rfl rfl (Nat.le_of_ble_eq_true rfl) ⟨Nat.le_of_ble_eq_true rfl, Nat.le_of_ble_eq_true rfl⟩ (s_Mo_runsOf (ro := false) hB2 (okP.last (hps ▸ okp) hl4 u1 (by omega) (by omega)) (by omega) ?_)
                      refine bp_iret 80 rfl rfl rfl ⟨_, rfl, ?_⟩
                      have q := hQ4 u sy sz co qs qa qb qe rfl rfl rfl rfl hps u1 (by omega) (by omega) ⟨sz1, by omega⟩ (by omega) hl4 _ hB2
                      rw [show (L ++ [(u, sy + 8 * co + 64 * sz)]).length = L.length + 1 from List.length_append ..]
                      exact q
                    · refine bp_iconst (v := 3) (q := 89) 44 rfl rfl (by decide) ?_
                      refine bp_goto (tgt := 93) 45 rfl (by decide) ?_
                      refine bp_putI (q := 96) (ci := 9) (j := 0) 47 rfl rfl fl_Mo_52_9 cl9 hB0.kb (fun r hr => by cases hr; rfl) (by decide) rfl rfl ?_
                      refine bp_nx (X := fun h1 => MoX M h0 h1 3 i fa fm tl lk al ind sk dp lv fr en nf nn dg nu kd pn pe T xs L ps L1 p1 nt tb fd) (hB0.s0 rfl) (fun h1 hB1 => ?_)
                      refine bp_aload_n (q := 97) 48 rfl rfl rfl rfl ?_
                      refine bp_getI (q := 100) (ci := 9) (j := 0) 49 rfl rfl fl_Mo_52_9 hB1.kb rfl ?_
                      rw [hB1.i0]
                      refine bp_if_eq (q := 103) (tgt := 105) 50 rfl rfl (by decide) (fun z => absurd z (by decide)) (fun z100 => ?_)
                      refine bp_iconst (v := 0) (q := 104) 51 rfl rfl (by decide) ?_
                      exact bp_iret 52 rfl rfl rfl ⟨_, rfl, hQ3 (fun e => z60 (by rw [e]; rfl)) ⟨wi_tt z3 z10, by rw [wi_tt z14 z20, wi_tt z25 z31, wi_tt z36 (Int32.not_lt.mpr z43)]; rfl⟩ (by have := (nI_eq_iff (b := 400) (by omega) (by decide)).mp z85; omega) _ hB1⟩
                  · refine bp_iconst (v := 1) (q := 64) 32 rfl rfl (by decide) ?_
                    refine bp_goto (tgt := 93) 33 rfl (by decide) ?_
                    refine bp_putI (q := 96) (ci := 9) (j := 0) 47 rfl rfl fl_Mo_52_9 cl9 hB0.kb (fun r hr => by cases hr; rfl) (by decide) rfl rfl ?_
                    refine bp_nx (X := fun h1 => MoX M h0 h1 1 i fa fm tl lk al ind sk dp lv fr en nf nn dg nu kd pn pe T xs L ps L1 p1 nt tb fd) (hB0.s0 rfl) (fun h1 hB1 => ?_)
                    refine bp_aload_n (q := 97) 48 rfl rfl rfl rfl ?_
                    refine bp_getI (q := 100) (ci := 9) (j := 0) 49 rfl rfl fl_Mo_52_9 hB1.kb rfl ?_
                    rw [hB1.i0]
                    refine bp_if_eq (q := 103) (tgt := 105) 50 rfl rfl (by decide) (fun z => absurd z (by decide)) (fun z100 => ?_)
                    refine bp_iconst (v := 0) (q := 104) 51 rfl rfl (by decide) ?_
                    exact bp_iret 52 rfl rfl rfl ⟨_, rfl, hQ1 (List.eq_nil_of_length_eq_zero ((nI_eq_iff (b := 0) (by omega) (by decide)).mp z60)) _ hB1⟩
                · refine bp_iconst (v := 1) (q := 47) 22 rfl rfl (by decide) ?_
                  refine bp_goto (tgt := 51) 23 rfl (by decide) ?_
                  refine bp_istore (q := 53) 25 rfl rfl (by decide) (bp_up5 rfl) ?_
                  refine bp_aload_n (q := 54) 26 rfl rfl rfl rfl ?_
                  refine bp_aload_n (q := 55) 27 rfl rfl rfl rfl ?_
                  refine bp_getR (x := M 6) (q := 58) (ci := 9) (j := 6) 28 rfl rfl fl_Mo_21_9 hB0.kb rfl hB0.r6 ?_
                  refine bp_iconst (v := 0) (q := 59) 29 rfl rfl (by decide) ?_
                  refine bp_iald (q := 60) 30 rfl rfl hB0.k6 (vp_inL (n := 0) hB0.l6 (by decide) (by decide)) ?_
                  rw [show bp_I _ (M 6) ((0 : Int32).toNatClampNeg) = nI ps.length from hB0.2.2.2.2.2.1.2.2.2.1]
                  refine bp_if_ne (q := 63) (tgt := 67) 31 rfl rfl (by decide) (fun z60 => ?_) (fun z60 => ?_)
                  · refine bp_iload (q := 69) 34 rfl rfl rfl ?_
                    refine bp_if_eq (q := 72) (tgt := 76) 35 rfl rfl (by decide) (fun z => absurd z (by decide)) (fun z69 => ?_)
                    refine bp_iconst (v := 2) (q := 73) 36 rfl rfl (by decide) ?_
                    refine bp_goto (tgt := 93) 37 rfl (by decide) ?_
                    refine bp_putI (q := 96) (ci := 9) (j := 0) 47 rfl rfl fl_Mo_52_9 cl9 hB0.kb (fun r hr => by cases hr; rfl) (by decide) rfl rfl ?_
                    refine bp_nx (X := fun h1 => MoX M h0 h1 2 i fa fm tl lk al ind sk dp lv fr en nf nn dg nu kd pn pe T xs L ps L1 p1 nt tb fd) (hB0.s0 rfl) (fun h1 hB1 => ?_)
                    refine bp_aload_n (q := 97) 48 rfl rfl rfl rfl ?_
                    refine bp_getI (q := 100) (ci := 9) (j := 0) 49 rfl rfl fl_Mo_52_9 hB1.kb rfl ?_
                    rw [hB1.i0]
                    refine bp_if_eq (q := 103) (tgt := 105) 50 rfl rfl (by decide) (fun z => absurd z (by decide)) (fun z100 => ?_)
                    refine bp_iconst (v := 0) (q := 104) 51 rfl rfl (by decide) ?_
                    exact bp_iret 52 rfl rfl rfl ⟨_, rfl, hQ2 (fun e => z60 (by rw [e]; rfl)) (fun q => by have q2 := q.2; simp only [Bool.and_eq_true] at q2; exact wi_gt (Int32.not_le.mp z43) q2.2.2) _ hB1⟩
                  · refine bp_iconst (v := 1) (q := 64) 32 rfl rfl (by decide) ?_
                    refine bp_goto (tgt := 93) 33 rfl (by decide) ?_
                    refine bp_putI (q := 96) (ci := 9) (j := 0) 47 rfl rfl fl_Mo_52_9 cl9 hB0.kb (fun r hr => by cases hr; rfl) (by decide) rfl rfl ?_
                    refine bp_nx (X := fun h1 => MoX M h0 h1 1 i fa fm tl lk al ind sk dp lv fr en nf nn dg nu kd pn pe T xs L ps L1 p1 nt tb fd) (hB0.s0 rfl) (fun h1 hB1 => ?_)
                    refine bp_aload_n (q := 97) 48 rfl rfl rfl rfl ?_
                    refine bp_getI (q := 100) (ci := 9) (j := 0) 49 rfl rfl fl_Mo_52_9 hB1.kb rfl ?_
                    rw [hB1.i0]
                    refine bp_if_eq (q := 103) (tgt := 105) 50 rfl rfl (by decide) (fun z => absurd z (by decide)) (fun z100 => ?_)
                    refine bp_iconst (v := 0) (q := 104) 51 rfl rfl (by decide) ?_
                    exact bp_iret 52 rfl rfl rfl ⟨_, rfl, hQ1 (List.eq_nil_of_length_eq_zero ((nI_eq_iff (b := 0) (by omega) (by decide)).mp z60)) _ hB1⟩
end MO11
