/-! the reference counts runs and letters -/
def mrc (L : List (Nat × Nat)) (ps : List (Nat × Nat × Nat)) (p : Nat) : Nat → Nat → Nat
  | 0, _ => 0
  | n + 1, k => (if pIx ps k = p ∧ fR L ps k = true then 1 else 0) + mrc L ps p n (k + 1)
def mlc (ps : List (Nat × Nat × Nat)) (p : Nat) : Nat → Nat → Nat
  | 0, _ => 0
  | n + 1, k => (if pIx ps k = p then 1 else 0) + mlc ps p n (k + 1)
def mra (L : List (Nat × Nat)) (ps : List (Nat × Nat × Nat)) (p : Nat) : Nat → Nat → Nat → Int32
  | 0, _, _ => -1
  | n + 1, k, q => if pIx ps k = p ∧ fR L ps k = true then (if q = 0 then nI k else mra L ps p n (k + 1) (q - 1)) else mra L ps p n (k + 1) q
theorem pIx_sn {ps : List (Nat × Nat × Nat)} {q : Nat × Nat × Nat} {k : Nat} : pIx (ps ++ [q]) k = pIx ps k + (if q.2.2 ≤ k then 1 else 0) := by
  unfold pIx
  rw [List.filter_append, List.length_append]
  by_cases h : q.2.2 ≤ k
  · rw [List.filter_cons_of_pos (by simpa using h), if_pos h]; rfl
  · rw [List.filter_cons_of_neg (by simpa using h), if_neg h]; rfl
theorem pIx_all {ps : List (Nat × Nat × Nat)} {k : Nat} (h : ∀ q ∈ ps, q.2.2 ≤ k) : pIx ps k = ps.length := by
  unfold pIx
  rw [List.filter_eq_self.mpr (fun q hq => by simpa using h q hq)]
theorem okP.ends {L : List (Nat × Nat)} {ps : List (Nat × Nat × Nat)} (h : okP L ps) : ∀ q ∈ ps, q.2.2 ≤ L.length := fun q hq => by
  obtain ⟨j, hj, e⟩ := List.getElem_of_mem hq
  have := (h.2.2.1 j hj).2.2.1
  unfold p_e at this
  rw [List.getD_eq_getElem?_getD, List.getElem?_eq_getElem hj] at this
  rw [← e]; exact this
section MO10
variable {l : Launch} {G : bp_G} {H0 : Heap} {M : Nat → Nat} {h0 h : bp_H} {tw : Int32} {i : Nat} {fa : Int32} {fm : Int32} {tl : Int32} {lk : Nat} {al : Nat} {ind : Nat} {sk : Nat} {dp : Nat} {lv : Nat} {fr : Bool} {en : Nat} {nf : Nat} {nn : Nat} {dg : Nat} {nu : Int32} {kd : Nat} {pn : Int32} {pe : Nat} {T : List Nat} {xs : List Nat} {L : List (Nat × Nat)} {ps : List (Nat × Nat × Nat)} {L1 : List (Nat × Nat)} {p1 : List (Nat × Nat × Nat)} {nt : List (Nat → Nat)} {tb : List Nat} {fd : List Nat} {c s : Nat} {Q : Option Value → bp_H → Nat → Nat → Prop}
set_option maxRecDepth 100000 in
set_option maxHeartbeats 4000000 in
theorem lp_Mo_runsOf {ro : Bool} {p : Nat} (hB0 : MoX M h0 h tw i fa fm tl lk al ind sk dp lv fr en nf nn dg nu kd pn pe T xs L ps L1 p1 nt tb fd) (okp : okP L ps) (hp : p < 100) : ∀ (m k a : Nat), m + k = L.length → Q (some (.int (nI (a + mrc L ps p m k)))) h c s → bp_A l G H0 (1, 21, ro, ro) M_Mo_runsOf h c s 4 [some (.ref (M 0)), some (.int (nI p)), some (.int (nI a)), some (.int (nI k))] [] (fun o h' c' s' => ∃ v, o = .returned v ∧ Q v h' c' s') := by
  have hL4 := okp.1
  have h16 := okp.2.1
  intro m
  induction m with
  | zero =>
    intro k a hm hQ
    refine bp_iload_n (q := 5) 4 rfl rfl rfl rfl ?_
    refine bp_aload_n (q := 6) 5 rfl rfl rfl rfl ?_
    refine bp_getR (x := M 5) (q := 9) (ci := 9) (j := 5) 6 rfl rfl fl_Mo_17_9 hB0.kb rfl hB0.r5 ?_
    refine bp_iconst (v := 0) (q := 10) 7 rfl rfl (by decide) ?_
    refine bp_iald (q := 11) 8 rfl rfl hB0.k5 (vp_inL (n := 0) hB0.l5 (by decide) (by decide)) ?_
    rw [show bp_I _ (M 5) ((0 : Int32).toNatClampNeg) = nI L.length from hB0.2.2.2.2.2.1.2.2.1]
    refine bp_icmp_ge (q := 14) (tgt := 46) 9 rfl rfl (by decide) (fun z11 => ?_) (fun z11 => ?_)
    · refine bp_iload_n (q := 47) 28 rfl rfl rfl rfl ?_
      exact bp_iret 29 rfl rfl rfl ⟨_, rfl, hQ⟩
    · exact absurd (nI_le (by omega) (by omega)) z11
  | succ m ih =>
    intro k a hm hQ
    have hk : k < L.length := by omega
    refine bp_iload_n (q := 5) 4 rfl rfl rfl rfl ?_
    refine bp_aload_n (q := 6) 5 rfl rfl rfl rfl ?_
    refine bp_getR (x := M 5) (q := 9) (ci := 9) (j := 5) 6 rfl rfl fl_Mo_17_9 hB0.kb rfl hB0.r5 ?_
    refine bp_iconst (v := 0) (q := 10) 7 rfl rfl (by decide) ?_
    refine bp_iald (q := 11) 8 rfl rfl hB0.k5 (vp_inL (n := 0) hB0.l5 (by decide) (by decide)) ?_
    rw [show bp_I _ (M 5) ((0 : Int32).toNatClampNeg) = nI L.length from hB0.2.2.2.2.2.1.2.2.1]
    refine bp_icmp_ge (q := 14) (tgt := 46) 9 rfl rfl (by decide) (fun z11 => ?_) (fun z11 => ?_)
    · exact absurd z11 (nI_ge hk (by omega))
    · refine bp_iload_n (q := 15) 10 rfl rfl rfl rfl ?_
      refine bp_aload_n (q := 16) 11 rfl rfl rfl rfl ?_
      refine bp_getR (x := M 9) (q := 19) (ci := 9) (j := 9) 12 rfl rfl fl_Mo_30_9 hB0.kb rfl hB0.r9 ?_
      refine bp_iload_n (q := 20) 13 rfl rfl rfl rfl ?_
      refine bp_iald (q := 21) 14 rfl rfl hB0.k9 (vp_inL hB0.l9 (by omega) (by decide)) ?_
      rw [nI_clamp (by omega), hB0.q0 hk]
      refine bp_iload_n (q := 22) 15 rfl rfl rfl rfl ?_
      refine bp_icmp_ne (q := 25) (tgt := 37) 16 rfl rfl (by decide) (fun z22 => ?_) (fun z22 => ?_)
      · refine bp_iconst (v := 0) (q := 38) 23 rfl rfl (by decide) ?_
        refine bp_iadd (q := 39) 24 rfl rfl ?_
        have yp : ¬ pIx ps k = p := fun q => z22 (by rw [q])
        rw [show nI a + 0 = nI (a + 0) from nI_add a 0]
        have ec : mrc L ps p (m + 1) k = 0 + mrc L ps p m (k + 1) := by rw [mrc, if_neg (fun q => yp q.1)]
        refine bp_istore_n (q := 40) 25 rfl rfl rfl (by decide) (bp_up2 rfl) ?_
        refine bp_iinc (v := nI (k + 1)) (q := 43) 26 rfl rfl rfl (nI_1 k) (by decide) (bp_up3 rfl) ?_
        refine bp_goto (tgt := 4) 27 rfl (by decide) ?_
        rw [ec, ← Nat.add_assoc] at hQ
        exact ih (k + 1) _ (by omega) hQ
      · refine bp_aload_n (q := 26) 17 rfl rfl rfl rfl ?_
        refine bp_iload_n (q := 27) 18 rfl rfl rfl rfl ?_
        refine bp_callV (q := 30) (ci := 9) 19 rfl rfl cw_Mo_firstOfRun lk_Mo_340 rfl hB0.kb wd1663 wd78 rfl rfl (Nat.le_of_ble_eq_true rfl) ⟨Nat.le_of_ble_eq_true rfl, Nat.le_of_ble_eq_true rfl⟩ (s_Mo_firstOfRun (ro := ro) hB0 okp hk ?_)
        refine bp_if_eq (q := 33) (tgt := 37) 20 rfl rfl (by decide) (fun z30 => ?_) (fun z30 => ?_)
        · refine bp_iconst (v := 0) (q := 38) 23 rfl rfl (by decide) ?_
          refine bp_iadd (q := 39) 24 rfl rfl ?_
          have yp : pIx ps k = p := (nI_eq_iff (by have := pIx_le ps k; omega) (by omega)).mp z22
          have yf := bI0.mp z30
          rw [show nI a + 0 = nI (a + 0) from nI_add a 0]
          have ec : mrc L ps p (m + 1) k = 0 + mrc L ps p m (k + 1) := by rw [mrc, if_neg (fun q => by rw [yf] at q; exact absurd q.2 (by decide))]
          refine bp_istore_n (q := 40) 25 rfl rfl rfl (by decide) (bp_up2 rfl) ?_
          refine bp_iinc (v := nI (k + 1)) (q := 43) 26 rfl rfl rfl (nI_1 k) (by decide) (bp_up3 rfl) ?_
          refine bp_goto (tgt := 4) 27 rfl (by decide) ?_
          rw [ec, ← Nat.add_assoc] at hQ
          exact ih (k + 1) _ (by omega) hQ
        · refine bp_iconst (v := 1) (q := 34) 21 rfl rfl (by decide) ?_
          refine bp_goto (tgt := 38) 22 rfl (by decide) ?_
          refine bp_iadd (q := 39) 24 rfl rfl ?_
          have yp : pIx ps k = p := (nI_eq_iff (by have := pIx_le ps k; omega) (by omega)).mp z22
          have yf := bI1 z30
          rw [show nI a + 1 = nI (a + 1) from nI_add a 1]
          have ec : mrc L ps p (m + 1) k = 1 + mrc L ps p m (k + 1) := by rw [mrc, if_pos ⟨yp, yf⟩]
          refine bp_istore_n (q := 40) 25 rfl rfl rfl (by decide) (bp_up2 rfl) ?_
          refine bp_iinc (v := nI (k + 1)) (q := 43) 26 rfl rfl rfl (nI_1 k) (by decide) (bp_up3 rfl) ?_
          refine bp_goto (tgt := 4) 27 rfl (by decide) ?_
          rw [ec, ← Nat.add_assoc] at hQ
          exact ih (k + 1) _ (by omega) hQ
set_option maxRecDepth 100000 in
set_option maxHeartbeats 4000000 in
theorem s_Mo_runsOf {ro : Bool} {p : Nat} (hB0 : MoX M h0 h tw i fa fm tl lk al ind sk dp lv fr en nf nn dg nu kd pn pe T xs L ps L1 p1 nt tb fd) (okp : okP L ps) (hp : p < 100) (hQ : Q (some (.int (nI (mrc L ps p L.length 0)))) h c s) : bp_AM l G H0 (1, 21, ro, ro) M_Mo_runsOf h c s [.ref (M 0), .int (nI p)] Q := by
  refine bp_of (ls := [some (.ref (M 0)), some (.int (nI p)), none, none]) (by decide) dt_Mo_runsOf (Nat.le_of_ble_eq_true rfl) (fun q hq => hq) ro ?_
  refine bp_iconst (v := 0) (q := 1) 0 rfl rfl (by decide) ?_
  refine bp_istore_n (q := 2) 1 rfl rfl rfl (by decide) (bp_up2 rfl) ?_
  refine bp_iconst (v := 0) (q := 3) 2 rfl rfl (by decide) ?_
  refine bp_istore_n (q := 4) 3 rfl rfl rfl (by decide) (bp_up3 rfl) ?_
  exact lp_Mo_runsOf hB0 okp hp L.length 0 0 (Nat.add_zero _) (by rw [Nat.zero_add]; exact hQ)
set_option maxRecDepth 100000 in
set_option maxHeartbeats 4000000 in
theorem lp_Mo_lettersOf {ro : Bool} {p : Nat} (hB0 : MoX M h0 h tw i fa fm tl lk al ind sk dp lv fr en nf nn dg nu kd pn pe T xs L ps L1 p1 nt tb fd) (okp : okP L ps) (hp : p < 100) : ∀ (m k a : Nat), m + k = L.length → Q (some (.int (nI (a + mlc ps p m k)))) h c s → bp_A l G H0 (0, 0, ro, ro) M_Mo_lettersOf h c s 4 [some (.ref (M 0)), some (.int (nI p)), some (.int (nI a)), some (.int (nI k))] [] (fun o h' c' s' => ∃ v, o = .returned v ∧ Q v h' c' s') := by
  have hL4 := okp.1
  have h16 := okp.2.1
  intro m
  induction m with
  | zero =>
    intro k a hm hQ
    refine bp_iload_n (q := 5) 4 rfl rfl rfl rfl ?_
    refine bp_aload_n (q := 6) 5 rfl rfl rfl rfl ?_
    refine bp_getR (x := M 5) (q := 9) (ci := 9) (j := 5) 6 rfl rfl fl_Mo_17_9 hB0.kb rfl hB0.r5 ?_
    refine bp_iconst (v := 0) (q := 10) 7 rfl rfl (by decide) ?_
    refine bp_iald (q := 11) 8 rfl rfl hB0.k5 (vp_inL (n := 0) hB0.l5 (by decide) (by decide)) ?_
    rw [show bp_I _ (M 5) ((0 : Int32).toNatClampNeg) = nI L.length from hB0.2.2.2.2.2.1.2.2.1]
    refine bp_icmp_ge (q := 14) (tgt := 38) 9 rfl rfl (by decide) (fun z11 => ?_) (fun z11 => ?_)
    · refine bp_iload_n (q := 39) 24 rfl rfl rfl rfl ?_
      exact bp_iret 25 rfl rfl rfl ⟨_, rfl, hQ⟩
    · exact absurd (nI_le (by omega) (by omega)) z11
  | succ m ih =>
    intro k a hm hQ
    have hk : k < L.length := by omega
    refine bp_iload_n (q := 5) 4 rfl rfl rfl rfl ?_
    refine bp_aload_n (q := 6) 5 rfl rfl rfl rfl ?_
    refine bp_getR (x := M 5) (q := 9) (ci := 9) (j := 5) 6 rfl rfl fl_Mo_17_9 hB0.kb rfl hB0.r5 ?_
    refine bp_iconst (v := 0) (q := 10) 7 rfl rfl (by decide) ?_
    refine bp_iald (q := 11) 8 rfl rfl hB0.k5 (vp_inL (n := 0) hB0.l5 (by decide) (by decide)) ?_
    rw [show bp_I _ (M 5) ((0 : Int32).toNatClampNeg) = nI L.length from hB0.2.2.2.2.2.1.2.2.1]
    refine bp_icmp_ge (q := 14) (tgt := 38) 9 rfl rfl (by decide) (fun z11 => ?_) (fun z11 => ?_)
    · exact absurd z11 (nI_ge hk (by omega))
    · refine bp_iload_n (q := 15) 10 rfl rfl rfl rfl ?_
      refine bp_aload_n (q := 16) 11 rfl rfl rfl rfl ?_
      refine bp_getR (x := M 9) (q := 19) (ci := 9) (j := 9) 12 rfl rfl fl_Mo_30_9 hB0.kb rfl hB0.r9 ?_
      refine bp_iload_n (q := 20) 13 rfl rfl rfl rfl ?_
      refine bp_iald (q := 21) 14 rfl rfl hB0.k9 (vp_inL hB0.l9 (by omega) (by decide)) ?_
      rw [nI_clamp (by omega), hB0.q0 hk]
      refine bp_iload_n (q := 22) 15 rfl rfl rfl rfl ?_
      refine bp_icmp_ne (q := 25) (tgt := 29) 16 rfl rfl (by decide) (fun z22 => ?_) (fun z22 => ?_)
      · refine bp_iconst (v := 0) (q := 30) 19 rfl rfl (by decide) ?_
        refine bp_iadd (q := 31) 20 rfl rfl ?_
        have yp : ¬ pIx ps k = p := fun q => z22 (by rw [q])
        rw [show nI a + 0 = nI (a + 0) from nI_add a 0]
        have ec : mlc ps p (m + 1) k = 0 + mlc ps p m (k + 1) := by rw [mlc, if_neg yp]
        refine bp_istore_n (q := 32) 21 rfl rfl rfl (by decide) (bp_up2 rfl) ?_
        refine bp_iinc (v := nI (k + 1)) (q := 35) 22 rfl rfl rfl (nI_1 k) (by decide) (bp_up3 rfl) ?_
        refine bp_goto (tgt := 4) 23 rfl (by decide) ?_
        rw [ec, ← Nat.add_assoc] at hQ
        exact ih (k + 1) _ (by omega) hQ
      · refine bp_iconst (v := 1) (q := 26) 17 rfl rfl (by decide) ?_
        refine bp_goto (tgt := 30) 18 rfl (by decide) ?_
        refine bp_iadd (q := 31) 20 rfl rfl ?_
        have yp : pIx ps k = p := (nI_eq_iff (by have := pIx_le ps k; omega) (by omega)).mp z22
        rw [show nI a + 1 = nI (a + 1) from nI_add a 1]
        have ec : mlc ps p (m + 1) k = 1 + mlc ps p m (k + 1) := by rw [mlc, if_pos yp]
        refine bp_istore_n (q := 32) 21 rfl rfl rfl (by decide) (bp_up2 rfl) ?_
        refine bp_iinc (v := nI (k + 1)) (q := 35) 22 rfl rfl rfl (nI_1 k) (by decide) (bp_up3 rfl) ?_
        refine bp_goto (tgt := 4) 23 rfl (by decide) ?_
        rw [ec, ← Nat.add_assoc] at hQ
        exact ih (k + 1) _ (by omega) hQ
set_option maxRecDepth 100000 in
set_option maxHeartbeats 4000000 in
theorem s_Mo_lettersOf {ro : Bool} {p : Nat} (hB0 : MoX M h0 h tw i fa fm tl lk al ind sk dp lv fr en nf nn dg nu kd pn pe T xs L ps L1 p1 nt tb fd) (okp : okP L ps) (hp : p < 100) (hQ : Q (some (.int (nI (mlc ps p L.length 0)))) h c s) : bp_AM l G H0 (0, 0, ro, ro) M_Mo_lettersOf h c s [.ref (M 0), .int (nI p)] Q := by
  refine bp_of (ls := [some (.ref (M 0)), some (.int (nI p)), none, none]) (by decide) dt_Mo_lettersOf (Nat.le_of_ble_eq_true rfl) (fun q hq => hq) ro ?_
  refine bp_iconst (v := 0) (q := 1) 0 rfl rfl (by decide) ?_
  refine bp_istore_n (q := 2) 1 rfl rfl rfl (by decide) (bp_up2 rfl) ?_
  refine bp_iconst (v := 0) (q := 3) 2 rfl rfl (by decide) ?_
  refine bp_istore_n (q := 4) 3 rfl rfl rfl (by decide) (bp_up3 rfl) ?_
  exact lp_Mo_lettersOf hB0 okp hp L.length 0 0 (Nat.add_zero _) (by rw [Nat.zero_add]; exact hQ)
set_option maxRecDepth 100000 in
set_option maxHeartbeats 4000000 in
theorem lp_Mo_runAt {ro : Bool} {p : Nat} {r2 : Int32} (hB0 : MoX M h0 h tw i fa fm tl lk al ind sk dp lv fr en nf nn dg nu kd pn pe T xs L ps L1 p1 nt tb fd) (okp : okP L ps) (hp : p < 100) : ∀ (m k q : Nat), m + k = L.length → q < 2 ^ 31 → Q (some (.int (mra L ps p m k q))) h c s → bp_A l G H0 (1, 21, ro, ro) M_Mo_runAt h c s 5 [some (.ref (M 0)), some (.int (nI p)), some (.int r2), some (.int (nI q)), some (.int (nI k))] [] (fun o h' c' s' => ∃ v, o = .returned v ∧ Q v h' c' s') := by
  have hL4 := okp.1
  have h16 := okp.2.1
  intro m
  induction m with
  | zero =>
    intro k q hm hq hQ
    refine bp_iload (q := 7) 4 rfl rfl rfl ?_
    refine bp_aload_n (q := 8) 5 rfl rfl rfl rfl ?_
    refine bp_getR (x := M 5) (q := 11) (ci := 9) (j := 5) 6 rfl rfl fl_Mo_17_9 hB0.kb rfl hB0.r5 ?_
    refine bp_iconst (v := 0) (q := 12) 7 rfl rfl (by decide) ?_
    refine bp_iald (q := 13) 8 rfl rfl hB0.k5 (vp_inL (n := 0) hB0.l5 (by decide) (by decide)) ?_
    rw [show bp_I _ (M 5) ((0 : Int32).toNatClampNeg) = nI L.length from hB0.2.2.2.2.2.1.2.2.1]
    refine bp_icmp_ge (q := 16) (tgt := 52) 9 rfl rfl (by decide) (fun z13 => ?_) (fun z13 => ?_)
    · refine bp_iconst (v := -1) (q := 53) 27 rfl rfl (by decide) ?_
      exact bp_iret 28 rfl rfl rfl ⟨_, rfl, hQ⟩
    · exact absurd (nI_le (by omega) (by omega)) z13
  | succ m ih =>
    intro k q hm hq hQ
    have hk : k < L.length := by omega
    refine bp_iload (q := 7) 4 rfl rfl rfl ?_
    refine bp_aload_n (q := 8) 5 rfl rfl rfl rfl ?_
    refine bp_getR (x := M 5) (q := 11) (ci := 9) (j := 5) 6 rfl rfl fl_Mo_17_9 hB0.kb rfl hB0.r5 ?_
    refine bp_iconst (v := 0) (q := 12) 7 rfl rfl (by decide) ?_
    refine bp_iald (q := 13) 8 rfl rfl hB0.k5 (vp_inL (n := 0) hB0.l5 (by decide) (by decide)) ?_
    rw [show bp_I _ (M 5) ((0 : Int32).toNatClampNeg) = nI L.length from hB0.2.2.2.2.2.1.2.2.1]
    refine bp_icmp_ge (q := 16) (tgt := 52) 9 rfl rfl (by decide) (fun z13 => ?_) (fun z13 => ?_)
    · exact absurd z13 (nI_ge hk (by omega))
    · refine bp_aload_n (q := 17) 10 rfl rfl rfl rfl ?_
      refine bp_getR (x := M 9) (q := 20) (ci := 9) (j := 9) 11 rfl rfl fl_Mo_30_9 hB0.kb rfl hB0.r9 ?_
      refine bp_iload (q := 22) 12 rfl rfl rfl ?_
      refine bp_iald (q := 23) 13 rfl rfl hB0.k9 (vp_inL hB0.l9 (by omega) (by decide)) ?_
      rw [nI_clamp (by omega), hB0.q0 hk]
      refine bp_iload_n (q := 24) 14 rfl rfl rfl rfl ?_
      refine bp_icmp_ne (q := 27) (tgt := 46) 15 rfl rfl (by decide) (fun z24 => ?_) (fun z24 => ?_)
      · refine bp_iinc (v := nI (k + 1)) (q := 49) 25 rfl rfl rfl (nI_1 k) (by decide) (bp_up4 rfl) ?_
        refine bp_goto (tgt := 5) 26 rfl (by decide) ?_
        have yp : ¬ pIx ps k = p := fun e => z24 (by rw [e])
        rw [mra, if_neg (fun e => yp e.1)] at hQ
        exact ih (k + 1) q (by omega) hq hQ
      · refine bp_aload_n (q := 28) 16 rfl rfl rfl rfl ?_
        refine bp_iload (q := 30) 17 rfl rfl rfl ?_
        refine bp_callV (q := 33) (ci := 9) 18 rfl rfl cw_Mo_firstOfRun lk_Mo_340 rfl hB0.kb wd1663 wd78 rfl rfl (Nat.le_of_ble_eq_true rfl) ⟨Nat.le_of_ble_eq_true rfl, Nat.le_of_ble_eq_true rfl⟩ (s_Mo_firstOfRun (ro := ro) hB0 okp hk ?_)
        refine bp_if_eq (q := 36) (tgt := 46) 19 rfl rfl (by decide) (fun z33 => ?_) (fun z33 => ?_)
        · refine bp_iinc (v := nI (k + 1)) (q := 49) 25 rfl rfl rfl (nI_1 k) (by decide) (bp_up4 rfl) ?_
          refine bp_goto (tgt := 5) 26 rfl (by decide) ?_
          have yp : pIx ps k = p := (nI_eq_iff (by have := pIx_le ps k; omega) (by omega)).mp z24
          rw [mra, if_neg (fun e => by rw [bI0.mp z33] at e; exact absurd e.2 (by decide))] at hQ
          exact ih (k + 1) q (by omega) hq hQ
        · refine bp_iload_n (q := 37) 20 rfl rfl rfl rfl ?_
          refine bp_if_ne (q := 40) (tgt := 43) 21 rfl rfl (by decide) (fun z37 => ?_) (fun z37 => ?_)
          · refine bp_iinc (v := nI (q - 1)) (q := 46) 24 rfl rfl rfl (nI_dec (fun e => z37 (by rw [e]; rfl))) (by decide) (bp_up3 rfl) ?_
            refine bp_iinc (v := nI (k + 1)) (q := 49) 25 rfl rfl rfl (nI_1 k) (by decide) (bp_up4 rfl) ?_
            refine bp_goto (tgt := 5) 26 rfl (by decide) ?_
            have yp : pIx ps k = p := (nI_eq_iff (by have := pIx_le ps k; omega) (by omega)).mp z24
            rw [mra, if_pos ⟨yp, bI1 z33⟩, if_neg (fun e => z37 (by rw [e]; rfl))] at hQ
            exact ih (k + 1) (q - 1) (by omega) (by omega) hQ
          · refine bp_iload (q := 42) 22 rfl rfl rfl ?_
            refine bp_iret 23 rfl rfl rfl ⟨_, rfl, ?_⟩
            have yp : pIx ps k = p := (nI_eq_iff (by have := pIx_le ps k; omega) (by omega)).mp z24
            have yq : q = 0 := (nI_eq hq (by decide)).mp z37
            rw [mra, if_pos ⟨yp, bI1 z33⟩, if_pos yq] at hQ
            exact hQ
set_option maxRecDepth 100000 in
set_option maxHeartbeats 4000000 in
theorem s_Mo_runAt {ro : Bool} {p q : Nat} (hB0 : MoX M h0 h tw i fa fm tl lk al ind sk dp lv fr en nf nn dg nu kd pn pe T xs L ps L1 p1 nt tb fd) (okp : okP L ps) (hp : p < 100) (hq : q < 2 ^ 31) (hQ : Q (some (.int (mra L ps p L.length 0 q))) h c s) : bp_AM l G H0 (1, 21, ro, ro) M_Mo_runAt h c s [.ref (M 0), .int (nI p), .int (nI q)] Q := by
  refine bp_of (ls := [some (.ref (M 0)), some (.int (nI p)), some (.int (nI q)), none, none]) (by decide) dt_Mo_runAt (Nat.le_of_ble_eq_true rfl) (fun q hq => hq) ro ?_
  refine bp_iload_n (q := 1) 0 rfl rfl rfl rfl ?_
  refine bp_istore_n (q := 2) 1 rfl rfl rfl (by decide) (bp_up3 rfl) ?_
  refine bp_iconst (v := 0) (q := 3) 2 rfl rfl (by decide) ?_
  refine bp_istore (q := 5) 3 rfl rfl (by decide) (bp_up4 rfl) ?_
  exact lp_Mo_runAt hB0 okp hp L.length 0 q (Nat.add_zero _) hq hQ
def mpV (L : List (Nat × Nat)) (ps : List (Nat × Nat × Nat)) (p w : Nat) : Nat := if w = 0 then p_a ps p else if w = 1 then p_i ps p else if w = 2 then mrc L ps p L.length 0 else mlc ps p L.length 0
set_option maxRecDepth 100000 in
set_option maxHeartbeats 4000000 in
theorem s_Mo_paragraph {x y : Int32} (hB0 : MoX M h0 h tw i fa fm tl lk al ind sk dp lv fr en nf nn dg nu kd pn pe T xs L ps L1 p1 nt tb fd) (okp : okP L ps) (hQ1 : x < 0 ∨ nI ps.length ≤ x → ∀ h', MoX M h0 h' 1 i fa fm tl lk al ind sk dp lv fr en nf nn dg nu kd pn pe T xs L ps L1 p1 nt tb fd → Q (some (.int 0)) h' c s) (hQ2 : ∀ p, p < ps.length → x = nI p → y.toInt < 0 ∨ 3 < y.toInt → ∀ h', MoX M h0 h' 2 i fa fm tl lk al ind sk dp lv fr en nf nn dg nu kd pn pe T xs L ps L1 p1 nt tb fd → Q (some (.int 0)) h' c s) (hQ3 : ∀ p w, x = nI p → y = nI w → p < ps.length → w < 4 → ∀ h', MoX M h0 h' 0 i fa fm tl lk al ind sk dp lv fr en nf nn dg nu kd pn pe T xs L ps L1 p1 nt tb fd → Q (some (.int (nI (mpV L ps p w)))) h' c s) : bp_AM l G H0 (2, 44, false, false) M_Mo_paragraph h c s [.ref (M 0), .int x, .int y] Q := by
  refine bp_of (ls := [some (.ref (M 0)), some (.int x), some (.int y)]) (by decide) dt_Mo_paragraph (Nat.le_of_ble_eq_true rfl) (fun q hq => hq) false ?_
  have h16 := okp.2.1
  refine bp_aload_n (q := 1) 0 rfl rfl rfl rfl ?_
  refine bp_iload_n (q := 2) 1 rfl rfl rfl rfl ?_
  refine bp_if_lt (q := 5) (tgt := 15) 2 rfl rfl (by decide) (fun z2 => ?_) (fun z2 => ?_)
  · refine bp_iconst (v := 1) (q := 16) 9 rfl rfl (by decide) ?_
    refine bp_goto (tgt := 33) 10 rfl (by decide) ?_
    refine bp_putI (q := 36) (ci := 9) (j := 0) 19 rfl rfl fl_Mo_52_9 cl9 hB0.kb (fun r hr => by cases hr; rfl) (by decide) rfl rfl ?_
    refine bp_nx (X := fun h1 => MoX M h0 h1 1 i fa fm tl lk al ind sk dp lv fr en nf nn dg nu kd pn pe T xs L ps L1 p1 nt tb fd) (hB0.s0 rfl) (fun h1 hB1 => ?_)
    refine bp_aload_n (q := 37) 20 rfl rfl rfl rfl ?_
    refine bp_getI (q := 40) (ci := 9) (j := 0) 21 rfl rfl fl_Mo_52_9 hB1.kb rfl ?_
    rw [hB1.i0]
    refine bp_if_eq (q := 43) (tgt := 45) 22 rfl rfl (by decide) (fun z => absurd z (by decide)) (fun z40 => ?_)
    refine bp_iconst (v := 0) (q := 44) 23 rfl rfl (by decide) ?_
    exact bp_iret 24 rfl rfl rfl ⟨_, rfl, hQ1 (Or.inl z2) _ hB1⟩
  · refine bp_iload_n (q := 6) 3 rfl rfl rfl rfl ?_
    refine bp_aload_n (q := 7) 4 rfl rfl rfl rfl ?_
    refine bp_getR (x := M 6) (q := 10) (ci := 9) (j := 6) 5 rfl rfl fl_Mo_21_9 hB0.kb rfl hB0.r6 ?_
    refine bp_iconst (v := 0) (q := 11) 6 rfl rfl (by decide) ?_
    refine bp_iald (q := 12) 7 rfl rfl hB0.k6 (vp_inL (n := 0) hB0.l6 (by decide) (by decide)) ?_
    rw [show bp_I _ (M 6) ((0 : Int32).toNatClampNeg) = nI ps.length from hB0.2.2.2.2.2.1.2.2.2.1]
    refine bp_icmp_lt (q := 15) (tgt := 19) 8 rfl rfl (by decide) (fun z12 => ?_) (fun z12 => ?_)
    · refine bp_iload_n (q := 20) 11 rfl rfl rfl rfl ?_
      refine bp_if_lt (q := 23) (tgt := 28) 12 rfl rfl (by decide) (fun z20 => ?_) (fun z20 => ?_)
      · refine bp_iconst (v := 2) (q := 29) 16 rfl rfl (by decide) ?_
        refine bp_goto (tgt := 33) 17 rfl (by decide) ?_
        refine bp_putI (q := 36) (ci := 9) (j := 0) 19 rfl rfl fl_Mo_52_9 cl9 hB0.kb (fun r hr => by cases hr; rfl) (by decide) rfl rfl ?_
        refine bp_nx (X := fun h1 => MoX M h0 h1 2 i fa fm tl lk al ind sk dp lv fr en nf nn dg nu kd pn pe T xs L ps L1 p1 nt tb fd) (hB0.s0 rfl) (fun h1 hB1 => ?_)
        refine bp_aload_n (q := 37) 20 rfl rfl rfl rfl ?_
        refine bp_getI (q := 40) (ci := 9) (j := 0) 21 rfl rfl fl_Mo_52_9 hB1.kb rfl ?_
        rw [hB1.i0]
        refine bp_if_eq (q := 43) (tgt := 45) 22 rfl rfl (by decide) (fun z => absurd z (by decide)) (fun z40 => ?_)
        refine bp_iconst (v := 0) (q := 44) 23 rfl rfl (by decide) ?_
        refine bp_iret 24 rfl rfl rfl ⟨_, rfl, ?_⟩
        obtain ⟨p, hp, e⟩ : ∃ p, p < ps.length ∧ x = nI p := (by obtain ⟨j, h1, h2⟩ := nI_of z2; subst h2; exact ⟨j, (nI_ltI h1 (by omega)).mp z12, rfl⟩)
        exact hQ2 p hp e (Or.inl (Int32.lt_iff_toInt_lt.mp z20)) _ hB1
      · refine bp_iload_n (q := 24) 13 rfl rfl rfl rfl ?_
        refine bp_iconst (v := 3) (q := 25) 14 rfl rfl (by decide) ?_
        refine bp_icmp_le (q := 28) (tgt := 32) 15 rfl rfl (by decide) (fun z25 => ?_) (fun z25 => ?_)
        · refine bp_iconst (v := 0) (q := 33) 18 rfl rfl (by decide) ?_
          refine bp_putI (q := 36) (ci := 9) (j := 0) 19 rfl rfl fl_Mo_52_9 cl9 hB0.kb (fun r hr => by cases hr; rfl) (by decide) rfl rfl ?_
          refine bp_nx (X := fun h1 => MoX M h0 h1 0 i fa fm tl lk al ind sk dp lv fr en nf nn dg nu kd pn pe T xs L ps L1 p1 nt tb fd) (hB0.s0 rfl) (fun h1 hB1 => ?_)
          refine bp_aload_n (q := 37) 20 rfl rfl rfl rfl ?_
          refine bp_getI (q := 40) (ci := 9) (j := 0) 21 rfl rfl fl_Mo_52_9 hB1.kb rfl ?_
          rw [hB1.i0]
          refine bp_if_eq (q := 43) (tgt := 45) 22 rfl rfl (by decide) (fun z40 => ?_) (fun z => absurd z (by decide))
          refine bp_iload_n (q := 46) 25 rfl rfl rfl rfl ?_
          obtain ⟨p, hp, rfl⟩ : ∃ p, p < ps.length ∧ x = nI p := by
            obtain ⟨j, h1, h2⟩ := nI_of z2
            subst h2
            exact ⟨j, (nI_ltI h1 (by omega)).mp z12, rfl⟩
          obtain ⟨w, hw, rfl⟩ : ∃ w, w < 4 ∧ y = nI w := by
            obtain ⟨j, -, h2, h3, -⟩ := wi_cl (x := 0) (y := 3) (by decide) (by decide) (wi_tt z20 (Int32.not_lt.mpr z25))
            exact ⟨j, by omega, h3⟩
          refine bp_if_ne (q := 49) (tgt := 58) 26 rfl rfl (by decide) (fun z46 => ?_) (fun z46 => ?_)
          · refine bp_iload_n (q := 59) 32 rfl rfl rfl rfl ?_
            refine bp_iconst (v := 1) (q := 60) 33 rfl rfl (by decide) ?_
            refine bp_icmp_ne (q := 63) (tgt := 72) 34 rfl rfl (by decide) (fun z60 => ?_) (fun z60 => ?_)
            · refine bp_iload_n (q := 73) 40 rfl rfl rfl rfl ?_
              refine bp_iconst (v := 2) (q := 74) 41 rfl rfl (by decide) ?_
              refine bp_icmp_ne (q := 77) (tgt := 85) 42 rfl rfl (by decide) (fun z74 => ?_) (fun z74 => ?_)
              · refine bp_aload_n (q := 86) 47 rfl rfl rfl rfl ?_
                refine bp_iload_n (q := 87) 48 rfl rfl rfl rfl ?_
                refine bp_callV (q := 90) (ci := 9) 49 rfl rfl cw_Mo_lettersOf lk_Mo_414 rfl hB1.kb wd1737 wd86 rfl rfl (Nat.le_of_ble_eq_true rfl) ⟨Nat.le_of_ble_eq_true rfl, Nat.le_of_ble_eq_true rfl⟩ (s_Mo_lettersOf (ro := false) hB1 okp (by omega) ?_)
                refine bp_iret 50 rfl rfl rfl ⟨_, rfl, ?_⟩
                have q := hQ3 p w rfl rfl hp hw _ hB1
                have y46 : ¬ w = 0 := fun e => z46 (by rw [e]; rfl)
                have y60 : ¬ w = 1 := fun e => z60 (by rw [e]; rfl)
                have y74 : ¬ w = 2 := fun e => z74 (by rw [e]; rfl)
                rw [mpV, if_neg y46, if_neg y60, if_neg y74] at q
                exact q
              · refine bp_aload_n (q := 78) 43 rfl rfl rfl rfl ?_
                refine bp_iload_n (q := 79) 44 rfl rfl rfl rfl ?_
                refine bp_callV (q := 82) (ci := 9) 45 rfl rfl cw_Mo_runsOf lk_Mo_411 rfl hB1.kb wd1721 wd85 rfl rfl (Nat.le_of_ble_eq_true rfl) ⟨Nat.le_of_ble_eq_true rfl, Nat.le_of_ble_eq_true rfl⟩ (s_Mo_runsOf (ro := false) hB1 okp (by omega) ?_)
                refine bp_goto (tgt := 90) 46 rfl (by decide) ?_
                refine bp_iret 50 rfl rfl rfl ⟨_, rfl, ?_⟩
                have q := hQ3 p w rfl rfl hp hw _ hB1
                have y46 : ¬ w = 0 := fun e => z46 (by rw [e]; rfl)
                have y60 : ¬ w = 1 := fun e => z60 (by rw [e]; rfl)
                have y74 : w = 2 := (nI_eq_iff (b := 2) (by omega) (by decide)).mp z74
                rw [mpV, if_neg y46, if_neg y60, if_pos y74] at q
                exact q
            · refine bp_aload_n (q := 64) 35 rfl rfl rfl rfl ?_
              refine bp_getR (x := M 11) (q := 67) (ci := 9) (j := 11) 36 rfl rfl fl_Mo_36_9 hB1.kb rfl hB1.r11 ?_
              refine bp_iload_n (q := 68) 37 rfl rfl rfl rfl ?_
              refine bp_iald (q := 69) 38 rfl rfl hB1.k11 (vp_inL hB1.l11 (by omega) (by decide)) ?_
              rw [nI_clamp (by omega), hB1.d0 hp]
              refine bp_goto (tgt := 90) 39 rfl (by decide) ?_
              refine bp_iret 50 rfl rfl rfl ⟨_, rfl, ?_⟩
              have q := hQ3 p w rfl rfl hp hw _ hB1
              have y46 : ¬ w = 0 := fun e => z46 (by rw [e]; rfl)
              have y60 : w = 1 := (nI_eq_iff (b := 1) (by omega) (by decide)).mp z60
              rw [mpV, if_neg y46, if_pos y60] at q
              exact q
          · refine bp_aload_n (q := 50) 27 rfl rfl rfl rfl ?_
            refine bp_getR (x := M 10) (q := 53) (ci := 9) (j := 10) 28 rfl rfl fl_Mo_33_9 hB1.kb rfl hB1.r10 ?_
            refine bp_iload_n (q := 54) 29 rfl rfl rfl rfl ?_
            refine bp_iald (q := 55) 30 rfl rfl hB1.k10 (vp_inL hB1.l10 (by omega) (by decide)) ?_
            rw [nI_clamp (by omega), hB1.a0 hp]
            refine bp_goto (tgt := 90) 31 rfl (by decide) ?_
            refine bp_iret 50 rfl rfl rfl ⟨_, rfl, ?_⟩
            have q := hQ3 p w rfl rfl hp hw _ hB1
            have y46 : w = 0 := (nI_eq_iff (b := 0) (by omega) (by decide)).mp z46
            rw [mpV, if_pos y46] at q
            exact q
        · refine bp_iconst (v := 2) (q := 29) 16 rfl rfl (by decide) ?_
          refine bp_goto (tgt := 33) 17 rfl (by decide) ?_
          refine bp_putI (q := 36) (ci := 9) (j := 0) 19 rfl rfl fl_Mo_52_9 cl9 hB0.kb (fun r hr => by cases hr; rfl) (by decide) rfl rfl ?_
          refine bp_nx (X := fun h1 => MoX M h0 h1 2 i fa fm tl lk al ind sk dp lv fr en nf nn dg nu kd pn pe T xs L ps L1 p1 nt tb fd) (hB0.s0 rfl) (fun h1 hB1 => ?_)
          refine bp_aload_n (q := 37) 20 rfl rfl rfl rfl ?_
          refine bp_getI (q := 40) (ci := 9) (j := 0) 21 rfl rfl fl_Mo_52_9 hB1.kb rfl ?_
          rw [hB1.i0]
          refine bp_if_eq (q := 43) (tgt := 45) 22 rfl rfl (by decide) (fun z => absurd z (by decide)) (fun z40 => ?_)
          refine bp_iconst (v := 0) (q := 44) 23 rfl rfl (by decide) ?_
          refine bp_iret 24 rfl rfl rfl ⟨_, rfl, ?_⟩
          obtain ⟨p, hp, e⟩ : ∃ p, p < ps.length ∧ x = nI p := (by obtain ⟨j, h1, h2⟩ := nI_of z2; subst h2; exact ⟨j, (nI_ltI h1 (by omega)).mp z12, rfl⟩)
          exact hQ2 p hp e (Or.inr (Int32.lt_iff_toInt_lt.mp (Int32.not_le.mp z25))) _ hB1
    · refine bp_iconst (v := 1) (q := 16) 9 rfl rfl (by decide) ?_
      refine bp_goto (tgt := 33) 10 rfl (by decide) ?_
      refine bp_putI (q := 36) (ci := 9) (j := 0) 19 rfl rfl fl_Mo_52_9 cl9 hB0.kb (fun r hr => by cases hr; rfl) (by decide) rfl rfl ?_
      refine bp_nx (X := fun h1 => MoX M h0 h1 1 i fa fm tl lk al ind sk dp lv fr en nf nn dg nu kd pn pe T xs L ps L1 p1 nt tb fd) (hB0.s0 rfl) (fun h1 hB1 => ?_)
      refine bp_aload_n (q := 37) 20 rfl rfl rfl rfl ?_
      refine bp_getI (q := 40) (ci := 9) (j := 0) 21 rfl rfl fl_Mo_52_9 hB1.kb rfl ?_
      rw [hB1.i0]
      refine bp_if_eq (q := 43) (tgt := 45) 22 rfl rfl (by decide) (fun z => absurd z (by decide)) (fun z40 => ?_)
      refine bp_iconst (v := 0) (q := 44) 23 rfl rfl (by decide) ?_
      exact bp_iret 24 rfl rfl rfl ⟨_, rfl, hQ1 (Or.inr (Int32.not_lt.mp z12)) _ hB1⟩
end MO10
