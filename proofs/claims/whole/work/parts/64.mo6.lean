/-! the reference writes a page: its loops -/
section MO6
variable {l : Launch} {G : bp_G} {H0 : Heap} {M : Nat → Nat} {h0 h : bp_H} {tw : Int32} {i : Nat} {fa : Int32} {fm : Int32} {tl : Int32} {lk : Nat} {al : Nat} {ind : Nat} {sk : Nat} {dp : Nat} {lv : Nat} {fr : Bool} {en : Nat} {nf : Nat} {nn : Nat} {dg : Nat} {nu : Int32} {kd : Nat} {pn : Int32} {pe : Nat} {T : List Nat} {xs : List Nat} {L : List (Nat × Nat)} {ps : List (Nat × Nat × Nat)} {L1 : List (Nat × Nat)} {p1 : List (Nat × Nat × Nat)} {nt : List (Nat → Nat)} {tb : List Nat} {fd : List Nat} {c s : Nat} {Q : Option Value → bp_H → Nat → Nat → Prop}
set_option maxRecDepth 100000 in
set_option maxHeartbeats 4000000 in
theorem lp_Mo_bin {p : Nat} (okp : okP L ps) (hp : p < ps.length) : ∀ (m k : Nat) (h : bp_H) (ys : List Nat), m + k = L.length → MoX M h0 h tw i fa fm tl lk al ind sk dp lv fr en nf nn dg nu kd pn pe T ys L ps L1 p1 nt tb fd → ys.length + (mrun (bwS (enO (lkL L))) bwL (fun _ => [125]) L ps p m k).length + 4 ≤ 18160 → (∀ h' (v2 : Option Value), MoX M h0 h' tw i fa fm tl lk al ind sk dp lv fr en nf nn dg nu kd pn pe T ((ys ++ mrun (bwS (enO (lkL L))) bwL (fun _ => [125]) L ps p m k)) L ps L1 p1 nt tb fd → bp_A l G H0 (3, 68, false, false) M_Mo_writeBraced h' c s 266 [some (.ref (M 0)), some (.int (nI p)), v2] [] (fun o h' c' s' => ∃ v, o = .returned v ∧ Q v h' c' s')) → bp_A l G H0 (3, 68, false, false) M_Mo_writeBraced h c s 193 [some (.ref (M 0)), some (.int (nI p)), some (.int (nI k))] [] (fun o h' c' s' => ∃ v, o = .returned v ∧ Q v h' c' s') := by
  have hL4 := okp.1
  have h16 := okp.2.1
  intro m
  induction m with
  | zero =>
    intro k h ys hk_ hB0 hm hK
    refine bp_iload_n (q := 194) 100 rfl rfl rfl rfl ?_
    refine bp_aload_n (q := 195) 101 rfl rfl rfl rfl ?_
    refine bp_getR (x := M 5) (q := 198) (ci := 9) (j := 5) 102 rfl rfl fl_Mo_17_9 hB0.kb rfl hB0.r5 ?_
    refine bp_iconst (v := 0) (q := 199) 103 rfl rfl (by decide) ?_
    refine bp_iald (q := 200) 104 rfl rfl hB0.k5 (by rw [hB0.l5]; exact vp_in_nI (n := 0) (by decide) (by decide)) ?_
    rw [show bp_I _ (M 5) ((0 : Int32).toNatClampNeg) = nI L.length from hB0.m0]
    refine bp_icmp_ge (q := 203) (tgt := 266) 105 rfl rfl (by decide) (fun z200 => ?_) (fun z200 => ?_)
    · exact hK h _ (by rw [mrun, List.append_nil]; exact hB0)
    · exact absurd (nI_le (by omega) (by omega)) z200
  | succ m ih =>
    intro k h ys hk_ hB0 hm hK
    have hk : k < L.length := by omega
    have hlk := (okp.2.2.2 k hk).2
    have hcd := (okp.2.2.2 k hk).1
    have l1 : ys.length ≤ 18156 := by omega
    have hm2 := hm
    rw [mrun, List.length_append] at hm2
    have l2 : pIx ps k = p → ys.length + (if fR L ps k then bwS (enO (lkL L)) ((lkL L).getD k 0) else []).length + (bwL ((cdL L).getD k 0)).length + (if lR L ps k then [125] else []).length + 4 ≤ 18160 := fun q => by
      unfold mk1 at hm2
      rw [if_pos q] at hm2
      simp only [List.length_append] at hm2
      omega
    refine bp_iload_n (q := 194) 100 rfl rfl rfl rfl ?_
    refine bp_aload_n (q := 195) 101 rfl rfl rfl rfl ?_
    refine bp_getR (x := M 5) (q := 198) (ci := 9) (j := 5) 102 rfl rfl fl_Mo_17_9 hB0.kb rfl hB0.r5 ?_
    refine bp_iconst (v := 0) (q := 199) 103 rfl rfl (by decide) ?_
    refine bp_iald (q := 200) 104 rfl rfl hB0.k5 (by rw [hB0.l5]; exact vp_in_nI (n := 0) (by decide) (by decide)) ?_
    rw [show bp_I _ (M 5) ((0 : Int32).toNatClampNeg) = nI L.length from hB0.m0]
    refine bp_icmp_ge (q := 203) (tgt := 266) 105 rfl rfl (by decide) (fun z200 => ?_) (fun z200 => ?_)
    · exact absurd z200 (nI_ge hk (by omega))
    · refine bp_aload_n (q := 204) 106 rfl rfl rfl rfl ?_
      refine bp_getR (x := M 9) (q := 207) (ci := 9) (j := 9) 107 rfl rfl fl_Mo_30_9 hB0.kb rfl hB0.r9 ?_
      refine bp_iload_n (q := 208) 108 rfl rfl rfl rfl ?_
      refine bp_iald (q := 209) 109 rfl rfl hB0.k9 (by rw [hB0.l9]; exact vp_in_nI (by omega) (by decide)) ?_
      rw [nI_clamp (by omega), hB0.q0 hk]
      refine bp_iload_n (q := 210) 110 rfl rfl rfl rfl ?_
      refine bp_icmp_ne (q := 213) (tgt := 260) 111 rfl rfl (by decide) (fun z210 => ?_) (fun z210 => ?_)
      · refine bp_iinc (v := nI (k + 1)) (q := 263) 137 rfl rfl rfl (nI_1 k) (by decide) (bp_up2 rfl) ?_
        refine bp_goto (tgt := 193) 138 rfl (by decide) ?_
        have yp : ¬ pIx ps k = p := fun q => z210 (by rw [q])
        have e_ : ys = ys ++ mk1 (bwS (enO (lkL L))) bwL (fun _ => [125]) L ps p k := by simp [mk1, yp]
        rw [e_] at hB0
        refine ih (k + 1) _ _ (by omega) hB0 (by rw [List.length_append]; have := hm; rw [mrun, List.length_append] at this; omega) (fun h9 v9 hB9 => hK h9 v9 ?_)
        rw [mrun, ← List.append_assoc]
        exact hB9
      · refine bp_aload_n (q := 214) 112 rfl rfl rfl rfl ?_
        refine bp_iload_n (q := 215) 113 rfl rfl rfl rfl ?_
        refine bp_callV (q := 218) (ci := 9) 114 rfl rfl cw_Mo_firstOfRun lk_Mo_340 rfl hB0.kb wd1663 wd78 rfl rfl (Nat.le_of_ble_eq_true rfl) ⟨Nat.le_of_ble_eq_true rfl, Nat.le_of_ble_eq_true rfl⟩ (s_Mo_firstOfRun (ro := false) hB0 okp hk ?_)
        refine bp_if_eq (q := 221) (tgt := 231) 115 rfl rfl (by decide) (fun z218 => ?_) (fun z218 => ?_)
        · refine bp_aload_n (q := 232) 122 rfl rfl rfl rfl ?_
          refine bp_aload_n (q := 233) 123 rfl rfl rfl rfl ?_
          refine bp_getR (x := M 7) (q := 236) (ci := 9) (j := 7) 124 rfl rfl fl_Mo_24_9 hB0.kb rfl hB0.r7 ?_
          refine bp_iload_n (q := 237) 125 rfl rfl rfl rfl ?_
          refine bp_iald (q := 238) 126 rfl rfl hB0.k7 (by rw [hB0.l7]; exact vp_in_nI (by omega) (by decide)) ?_
          rw [nI_clamp (by omega), hB0.c0 hk]
          have yp : pIx ps k = p := (nI_eq_iff (by have := pIx_le ps k; omega) (by omega)).mp z210
          have l3 := l2 yp
          rw [if_neg (by rw [bI0.mp z218]; decide)] at l3
          refine bp_callV (q := 241) (ci := 9) 127 rfl rfl cw_Mo_putBracedLetter lk_Mo_388 rfl hB0.kb wd1676 wd80 rfl rfl (Nat.le_of_ble_eq_true rfl) ⟨Nat.le_of_ble_eq_true rfl, Nat.le_of_ble_eq_true rfl⟩ (s_Mo_putBracedLetter (u := (cdL L).getD k 0) hB0 hcd.1 hcd.2 (by (try simp only [List.length_append]); (try simp only [List.length_nil] at l3); omega) (fun h1 hB1 => ?_))
          refine bp_aload_n (q := 242) 128 rfl rfl rfl rfl ?_
          refine bp_aload_n (q := 243) 129 rfl rfl rfl rfl ?_
          refine bp_iload_n (q := 244) 130 rfl rfl rfl rfl ?_
          refine bp_callV (q := 247) (ci := 9) 131 rfl rfl cw_Mo_lastOfRun lk_Mo_391 rfl hB1.kb wd1685 wd81 rfl rfl (Nat.le_of_ble_eq_true rfl) ⟨Nat.le_of_ble_eq_true rfl, Nat.le_of_ble_eq_true rfl⟩ (s_Mo_lastOfRun (ro := false) hB1 okp hk ?_)
          refine bp_if_eq (q := 250) (tgt := 256) 132 rfl rfl (by decide) (fun z247 => ?_) (fun z247 => ?_)
          · refine bp_lconst (v := 0) (q := 257) 135 rfl rfl (by decide) ?_
            refine bp_callV (q := 260) (ci := 9) 136 rfl rfl cw_Mo_putText lk_Mo_345 rfl hB1.kb wd1647 wd76 rfl rfl (Nat.le_of_ble_eq_true rfl) ⟨Nat.le_of_ble_eq_true rfl, Nat.le_of_ble_eq_true rfl⟩ (s_Mo_putText hB1 ltx_0 (by (try simp only [List.length_append]); (try simp only [List.length_nil] at l3); (try simp only [List.length_cons, List.length_nil]); omega) (fun h2 hB2 => ?_))
            refine bp_iinc (v := nI (k + 1)) (q := 263) 137 rfl rfl rfl (nI_1 k) (by decide) (bp_up2 rfl) ?_
            refine bp_goto (tgt := 193) 138 rfl (by decide) ?_
            have yp : pIx ps k = p := (nI_eq_iff (by have := pIx_le ps k; omega) (by omega)).mp z210
            have yf := bI0.mp z218
            have yl := bI0.mp z247
            have e_ : ys ++ bwL ((cdL L).getD k 0) ++ [] = ys ++ mk1 (bwS (enO (lkL L))) bwL (fun _ => [125]) L ps p k := by simp [mk1, yp, yf, yl]
            rw [e_] at hB2
            refine ih (k + 1) _ _ (by omega) hB2 (by rw [List.length_append]; have := hm; rw [mrun, List.length_append] at this; omega) (fun h9 v9 hB9 => hK h9 v9 ?_)
            rw [mrun, ← List.append_assoc]
            exact hB9
          · refine bp_ldc2 (q := 253) 133 rfl rfl wd1687 ?_
            refine bp_goto (tgt := 257) 134 rfl (by decide) ?_
            refine bp_callV (q := 260) (ci := 9) 136 rfl rfl cw_Mo_putText lk_Mo_345 rfl hB1.kb wd1647 wd76 rfl rfl (Nat.le_of_ble_eq_true rfl) ⟨Nat.le_of_ble_eq_true rfl, Nat.le_of_ble_eq_true rfl⟩ (s_Mo_putText hB1 lt_394 (by (try simp only [List.length_append]); (try simp only [List.length_nil] at l3); (try simp only [List.length_cons, List.length_nil]); omega) (fun h2 hB2 => ?_))
            refine bp_iinc (v := nI (k + 1)) (q := 263) 137 rfl rfl rfl (nI_1 k) (by decide) (bp_up2 rfl) ?_
            refine bp_goto (tgt := 193) 138 rfl (by decide) ?_
            have yp : pIx ps k = p := (nI_eq_iff (by have := pIx_le ps k; omega) (by omega)).mp z210
            have yf := bI0.mp z218
            have yl := bI1 z247
            have e_ : ys ++ bwL ((cdL L).getD k 0) ++ [125] = ys ++ mk1 (bwS (enO (lkL L))) bwL (fun _ => [125]) L ps p k := by simp [mk1, yp, yf, yl]
            rw [e_] at hB2
            refine ih (k + 1) _ _ (by omega) hB2 (by rw [List.length_append]; have := hm; rw [mrun, List.length_append] at this; omega) (fun h9 v9 hB9 => hK h9 v9 ?_)
            rw [mrun, ← List.append_assoc]
            exact hB9
        · refine bp_aload_n (q := 222) 116 rfl rfl rfl rfl ?_
          refine bp_aload_n (q := 223) 117 rfl rfl rfl rfl ?_
          refine bp_getR (x := M 8) (q := 226) (ci := 9) (j := 8) 118 rfl rfl fl_Mo_27_9 hB0.kb rfl hB0.r8 ?_
          refine bp_iload_n (q := 227) 119 rfl rfl rfl rfl ?_
          refine bp_iald (q := 228) 120 rfl rfl hB0.k8 (by rw [hB0.l8]; exact vp_in_nI (by omega) (by decide)) ?_
          rw [nI_clamp (by omega), hB0.g0 hk]
          refine bp_callV (q := 231) (ci := 9) 121 rfl rfl cw_Mo_putBracedHead lk_Mo_385 rfl hB0.kb wd1667 wd79 rfl rfl (Nat.le_of_ble_eq_true rfl) ⟨Nat.le_of_ble_eq_true rfl, Nat.le_of_ble_eq_true rfl⟩ (s_Mo_putBracedHead (k := (lkL L).getD k 0) hB0 hlk okp (fun _ => usl_mem hk) (by omega) (fun h1 hB1 => ?_))
          refine bp_aload_n (q := 232) 122 rfl rfl rfl rfl ?_
          refine bp_aload_n (q := 233) 123 rfl rfl rfl rfl ?_
          refine bp_getR (x := M 7) (q := 236) (ci := 9) (j := 7) 124 rfl rfl fl_Mo_24_9 hB1.kb rfl hB1.r7 ?_
          refine bp_iload_n (q := 237) 125 rfl rfl rfl rfl ?_
          refine bp_iald (q := 238) 126 rfl rfl hB1.k7 (by rw [hB1.l7]; exact vp_in_nI (by omega) (by decide)) ?_
          rw [nI_clamp (by omega), hB1.c0 hk]
          have yp : pIx ps k = p := (nI_eq_iff (by have := pIx_le ps k; omega) (by omega)).mp z210
          have l3 := l2 yp
          rw [if_pos (bI1 z218)] at l3
          refine bp_callV (q := 241) (ci := 9) 127 rfl rfl cw_Mo_putBracedLetter lk_Mo_388 rfl hB1.kb wd1676 wd80 rfl rfl (Nat.le_of_ble_eq_true rfl) ⟨Nat.le_of_ble_eq_true rfl, Nat.le_of_ble_eq_true rfl⟩ (s_Mo_putBracedLetter (u := (cdL L).getD k 0) hB1 hcd.1 hcd.2 (by (try simp only [List.length_append]); (try simp only [List.length_nil] at l3); omega) (fun h2 hB2 => ?_))
          refine bp_aload_n (q := 242) 128 rfl rfl rfl rfl ?_
          refine bp_aload_n (q := 243) 129 rfl rfl rfl rfl ?_
          refine bp_iload_n (q := 244) 130 rfl rfl rfl rfl ?_
          refine bp_callV (q := 247) (ci := 9) 131 rfl rfl cw_Mo_lastOfRun lk_Mo_391 rfl hB2.kb wd1685 wd81 rfl rfl (Nat.le_of_ble_eq_true rfl) ⟨Nat.le_of_ble_eq_true rfl, Nat.le_of_ble_eq_true rfl⟩ (s_Mo_lastOfRun (ro := false) hB2 okp hk ?_)
          refine bp_if_eq (q := 250) (tgt := 256) 132 rfl rfl (by decide) (fun z247 => ?_) (fun z247 => ?_)
          · refine bp_lconst (v := 0) (q := 257) 135 rfl rfl (by decide) ?_
            refine bp_callV (q := 260) (ci := 9) 136 rfl rfl cw_Mo_putText lk_Mo_345 rfl hB2.kb wd1647 wd76 rfl rfl (Nat.le_of_ble_eq_true rfl) ⟨Nat.le_of_ble_eq_true rfl, Nat.le_of_ble_eq_true rfl⟩ (s_Mo_putText hB2 ltx_0 (by (try simp only [List.length_append]); (try simp only [List.length_nil] at l3); (try simp only [List.length_cons, List.length_nil]); omega) (fun h3 hB3 => ?_))
            refine bp_iinc (v := nI (k + 1)) (q := 263) 137 rfl rfl rfl (nI_1 k) (by decide) (bp_up2 rfl) ?_
            refine bp_goto (tgt := 193) 138 rfl (by decide) ?_
            have yp : pIx ps k = p := (nI_eq_iff (by have := pIx_le ps k; omega) (by omega)).mp z210
            have yf := bI1 z218
            have yl := bI0.mp z247
            have e_ : ys ++ bwS (enO (lkL L)) ((lkL L).getD k 0) ++ bwL ((cdL L).getD k 0) ++ [] = ys ++ mk1 (bwS (enO (lkL L))) bwL (fun _ => [125]) L ps p k := by simp [mk1, yp, yf, yl]
            rw [e_] at hB3
            refine ih (k + 1) _ _ (by omega) hB3 (by rw [List.length_append]; have := hm; rw [mrun, List.length_append] at this; omega) (fun h9 v9 hB9 => hK h9 v9 ?_)
            rw [mrun, ← List.append_assoc]
            exact hB9
          · refine bp_ldc2 (q := 253) 133 rfl rfl wd1687 ?_
            refine bp_goto (tgt := 257) 134 rfl (by decide) ?_
            refine bp_callV (q := 260) (ci := 9) 136 rfl rfl cw_Mo_putText lk_Mo_345 rfl hB2.kb wd1647 wd76 rfl rfl (Nat.le_of_ble_eq_true rfl) ⟨Nat.le_of_ble_eq_true rfl, Nat.le_of_ble_eq_true rfl⟩ (s_Mo_putText hB2 lt_394 (by (try simp only [List.length_append]); (try simp only [List.length_nil] at l3); (try simp only [List.length_cons, List.length_nil]); omega) (fun h3 hB3 => ?_))
            refine bp_iinc (v := nI (k + 1)) (q := 263) 137 rfl rfl rfl (nI_1 k) (by decide) (bp_up2 rfl) ?_
            refine bp_goto (tgt := 193) 138 rfl (by decide) ?_
            have yp : pIx ps k = p := (nI_eq_iff (by have := pIx_le ps k; omega) (by omega)).mp z210
            have yf := bI1 z218
            have yl := bI1 z247
            have e_ : ys ++ bwS (enO (lkL L)) ((lkL L).getD k 0) ++ bwL ((cdL L).getD k 0) ++ [125] = ys ++ mk1 (bwS (enO (lkL L))) bwL (fun _ => [125]) L ps p k := by simp [mk1, yp, yf, yl]
            rw [e_] at hB3
            refine ih (k + 1) _ _ (by omega) hB3 (by rw [List.length_append]; have := hm; rw [mrun, List.length_append] at this; omega) (fun h9 v9 hB9 => hK h9 v9 ?_)
            rw [mrun, ← List.append_assoc]
            exact hB9
set_option maxRecDepth 100000 in
set_option maxHeartbeats 4000000 in
theorem hd_Mo_t {p : Nat} {ys : List Nat} {v2 : Option Value} (okp : okP L ps) (hp : p < ps.length) (hB0 : MoX M h0 h tw i fa fm tl lk al ind sk dp lv fr en nf nn dg nu kd pn pe T ys L ps L1 p1 nt tb fd) (hl : ys.length + 40 ≤ 18200) (hK : ∀ h', MoX M h0 h' tw i fa fm tl lk al ind sk dp lv fr en nf nn dg nu kd pn pe T ((ys ++ twP (p_a ps p) (p_i ps p))) L ps L1 p1 nt tb fd → bp_A l G H0 (3, 67, false, false) M_Mo_writeTagged h' c s 120 [some (.ref (M 0)), some (.int (nI p)), v2] [] (fun o h' c' s' => ∃ v, o = .returned v ∧ Q v h' c' s')) : bp_A l G H0 (3, 67, false, false) M_Mo_writeTagged h c s 22 [some (.ref (M 0)), some (.int (nI p)), v2] [] (fun o h' c' s' => ∃ v, o = .returned v ∧ Q v h' c' s') := by
  have h16 := okp.2.1
  have hj := okp.2.2.1 p hp
  have n1 := nd_len (p_i ps p)
  refine bp_aload_n (q := 23) 14 rfl rfl rfl rfl ?_
  refine bp_ldc2 (q := 26) 15 rfl rfl wd1605 ?_
  refine bp_callV (q := 29) (ci := 9) 16 rfl rfl cw_Mo_putText lk_Mo_345 rfl hB0.kb wd1647 wd76 rfl rfl (Nat.le_of_ble_eq_true rfl) ⟨Nat.le_of_ble_eq_true rfl, Nat.le_of_ble_eq_true rfl⟩ (s_Mo_putText hB0 lt_276 (by (try simp only [List.length_append, List.length_cons, List.length_nil]); omega) (fun h1 hB1 => ?_))
  refine bp_aload_n (q := 30) 17 rfl rfl rfl rfl ?_
  refine bp_aload_n (q := 31) 18 rfl rfl rfl rfl ?_
  refine bp_getR (x := M 10) (q := 34) (ci := 9) (j := 10) 19 rfl rfl fl_Mo_33_9 hB1.kb rfl hB1.r10 ?_
  refine bp_iload_n (q := 35) 20 rfl rfl rfl rfl ?_
  refine bp_iald (q := 36) 21 rfl rfl hB1.k10 (by rw [hB1.l10]; exact vp_in_nI (by omega) (by decide)) ?_
  rw [nI_clamp (by omega), hB1.a0 hp]
  refine bp_if_gt (q := 39) (tgt := 48) 22 rfl rfl (by decide) (fun z36 => ?_) (fun z36 => ?_)
  · refine bp_ldc2 (q := 51) 28 rfl rfl wd1425 ?_
    refine bp_goto (tgt := 55) 29 rfl (by decide) ?_
    refine bp_callV (q := 58) (ci := 9) 31 rfl rfl cw_Mo_putText lk_Mo_345 rfl hB1.kb wd1647 wd76 rfl rfl (Nat.le_of_ble_eq_true rfl) ⟨Nat.le_of_ble_eq_true rfl, Nat.le_of_ble_eq_true rfl⟩ (s_Mo_putText hB1 lt_59 (by (try simp only [List.length_append, List.length_cons, List.length_nil]); omega) (fun h2 hB2 => ?_))
    refine bp_aload_n (q := 59) 32 rfl rfl rfl rfl ?_
    refine bp_aload_n (q := 60) 33 rfl rfl rfl rfl ?_
    refine bp_getR (x := M 10) (q := 63) (ci := 9) (j := 10) 34 rfl rfl fl_Mo_33_9 hB2.kb rfl hB2.r10 ?_
    refine bp_iload_n (q := 64) 35 rfl rfl rfl rfl ?_
    refine bp_iald (q := 65) 36 rfl rfl hB2.k10 (by rw [hB2.l10]; exact vp_in_nI (by omega) (by decide)) ?_
    rw [nI_clamp (by omega), hB2.a0 hp]
    refine bp_iconst (v := 1) (q := 66) 37 rfl rfl (by decide) ?_
    refine bp_icmp_ne (q := 69) (tgt := 75) 38 rfl rfl (by decide) (fun z66 => ?_) (fun z66 => ?_)
    · refine bp_aload_n (q := 76) 41 rfl rfl rfl rfl ?_
      refine bp_getR (x := M 10) (q := 79) (ci := 9) (j := 10) 42 rfl rfl fl_Mo_33_9 hB2.kb rfl hB2.r10 ?_
      refine bp_iload_n (q := 80) 43 rfl rfl rfl rfl ?_
      refine bp_iald (q := 81) 44 rfl rfl hB2.k10 (by rw [hB2.l10]; exact vp_in_nI (by omega) (by decide)) ?_
      rw [nI_clamp (by omega), hB2.a0 hp]
      refine bp_iconst (v := 2) (q := 82) 45 rfl rfl (by decide) ?_
      refine bp_icmp_ne (q := 85) (tgt := 91) 46 rfl rfl (by decide) (fun z82 => ?_) (fun z82 => ?_)
      · refine bp_lconst (v := 0) (q := 92) 49 rfl rfl (by decide) ?_
        refine bp_callV (q := 95) (ci := 9) 50 rfl rfl cw_Mo_putText lk_Mo_345 rfl hB2.kb wd1647 wd76 rfl rfl (Nat.le_of_ble_eq_true rfl) ⟨Nat.le_of_ble_eq_true rfl, Nat.le_of_ble_eq_true rfl⟩ (s_Mo_putText hB2 ltx_0 (by (try simp only [List.length_append, List.length_cons, List.length_nil]); omega) (fun h3 hB3 => ?_))
        refine bp_aload_n (q := 96) 51 rfl rfl rfl rfl ?_
        refine bp_getR (x := M 11) (q := 99) (ci := 9) (j := 11) 52 rfl rfl fl_Mo_36_9 hB3.kb rfl hB3.r11 ?_
        refine bp_iload_n (q := 100) 53 rfl rfl rfl rfl ?_
        refine bp_iald (q := 101) 54 rfl rfl hB3.k11 (by rw [hB3.l11]; exact vp_in_nI (by omega) (by decide)) ?_
        rw [nI_clamp (by omega), hB3.d0 hp]
        refine bp_if_le (q := 104) (tgt := 114) 55 rfl rfl (by decide) (fun z101 => ?_) (fun z101 => ?_)
        · refine bp_aload_n (q := 115) 62 rfl rfl rfl rfl ?_
          refine bp_bipush (v := 62) (q := 117) 63 rfl rfl (by decide) ?_
          refine bp_callV (q := 120) (ci := 9) 64 rfl rfl cw_Mo_put lk_Mo_332 rfl hB3.kb wd1635 wd73 rfl rfl (Nat.le_of_ble_eq_true rfl) ⟨Nat.le_of_ble_eq_true rfl, Nat.le_of_ble_eq_true rfl⟩ (s_Mo_put (v := 62) hB3 (by omega) (by (try simp only [List.length_append, List.length_cons, List.length_nil]); omega) (fun h4 hB4 => ?_))
          have y36 : ¬ p_a ps p = 0 := by have := (nI_lt_iff (a := 0) (by decide) (by omega)).mp z36; omega
          have y66 : ¬ p_a ps p = 1 := fun q => z66 (by rw [q]; rfl)
          have y82 : ¬ p_a ps p = 2 := fun q => z82 (by rw [q]; rfl)
          have y101 : p_i ps p = 0 := by have := (nI_le_iff (b := 0) (by omega) (by decide)).mp z101; omega
          exfalso
          omega
        · refine bp_aload_n (q := 105) 56 rfl rfl rfl rfl ?_
          refine bp_aload_n (q := 106) 57 rfl rfl rfl rfl ?_
          refine bp_getR (x := M 11) (q := 109) (ci := 9) (j := 11) 58 rfl rfl fl_Mo_36_9 hB3.kb rfl hB3.r11 ?_
          refine bp_iload_n (q := 110) 59 rfl rfl rfl rfl ?_
          refine bp_iald (q := 111) 60 rfl rfl hB3.k11 (by rw [hB3.l11]; exact vp_in_nI (by omega) (by decide)) ?_
          rw [nI_clamp (by omega), hB3.d0 hp]
          refine bp_callV (q := 114) (ci := 9) 61 rfl rfl cw_Mo_putNumber lk_Mo_355 rfl hB3.kb wd1659 wd77 rfl rfl (Nat.le_of_ble_eq_true rfl) ⟨Nat.le_of_ble_eq_true rfl, Nat.le_of_ble_eq_true rfl⟩ (s_Mo_putNumber (n := p_i ps p) hB3 (by omega) (by (try simp only [List.length_append, List.length_cons, List.length_nil]); omega) (fun h4 hB4 => ?_))
          refine bp_aload_n (q := 115) 62 rfl rfl rfl rfl ?_
          refine bp_bipush (v := 62) (q := 117) 63 rfl rfl (by decide) ?_
          refine bp_callV (q := 120) (ci := 9) 64 rfl rfl cw_Mo_put lk_Mo_332 rfl hB4.kb wd1635 wd73 rfl rfl (Nat.le_of_ble_eq_true rfl) ⟨Nat.le_of_ble_eq_true rfl, Nat.le_of_ble_eq_true rfl⟩ (s_Mo_put (v := 62) hB4 (by omega) (by (try simp only [List.length_append, List.length_cons, List.length_nil]); omega) (fun h5 hB5 => ?_))
          have y36 : ¬ p_a ps p = 0 := by have := (nI_lt_iff (a := 0) (by decide) (by omega)).mp z36; omega
          have y66 : ¬ p_a ps p = 1 := fun q => z66 (by rw [q]; rfl)
          have y82 : ¬ p_a ps p = 2 := fun q => z82 (by rw [q]; rfl)
          have y101 : ¬ p_i ps p = 0 := by have := mt (nI_le_iff (a := p_i ps p) (b := 0) (by omega) (by decide)).mpr z101; omega
          exfalso
          omega
      · refine bp_ldc2 (q := 88) 47 rfl rfl wd1694 ?_
        refine bp_goto (tgt := 92) 48 rfl (by decide) ?_
        refine bp_callV (q := 95) (ci := 9) 50 rfl rfl cw_Mo_putText lk_Mo_345 rfl hB2.kb wd1647 wd76 rfl rfl (Nat.le_of_ble_eq_true rfl) ⟨Nat.le_of_ble_eq_true rfl, Nat.le_of_ble_eq_true rfl⟩ (s_Mo_putText hB2 lt_400 (by (try simp only [List.length_append, List.length_cons, List.length_nil]); omega) (fun h3 hB3 => ?_))
        refine bp_aload_n (q := 96) 51 rfl rfl rfl rfl ?_
        refine bp_getR (x := M 11) (q := 99) (ci := 9) (j := 11) 52 rfl rfl fl_Mo_36_9 hB3.kb rfl hB3.r11 ?_
        refine bp_iload_n (q := 100) 53 rfl rfl rfl rfl ?_
        refine bp_iald (q := 101) 54 rfl rfl hB3.k11 (by rw [hB3.l11]; exact vp_in_nI (by omega) (by decide)) ?_
        rw [nI_clamp (by omega), hB3.d0 hp]
        refine bp_if_le (q := 104) (tgt := 114) 55 rfl rfl (by decide) (fun z101 => ?_) (fun z101 => ?_)
        · refine bp_aload_n (q := 115) 62 rfl rfl rfl rfl ?_
          refine bp_bipush (v := 62) (q := 117) 63 rfl rfl (by decide) ?_
          refine bp_callV (q := 120) (ci := 9) 64 rfl rfl cw_Mo_put lk_Mo_332 rfl hB3.kb wd1635 wd73 rfl rfl (Nat.le_of_ble_eq_true rfl) ⟨Nat.le_of_ble_eq_true rfl, Nat.le_of_ble_eq_true rfl⟩ (s_Mo_put (v := 62) hB3 (by omega) (by (try simp only [List.length_append, List.length_cons, List.length_nil]); omega) (fun h4 hB4 => ?_))
          have y36 : ¬ p_a ps p = 0 := by have := (nI_lt_iff (a := 0) (by decide) (by omega)).mp z36; omega
          have y66 : ¬ p_a ps p = 1 := fun q => z66 (by rw [q]; rfl)
          have y82 : p_a ps p = 2 := (nI_eq_iff (b := 2) (by omega) (by decide)).mp z82
          have y101 : p_i ps p = 0 := by have := (nI_le_iff (b := 0) (by omega) (by decide)).mp z101; omega
          have e_ : ys ++ [60, 112] ++ [32] ++ [82] ++ [62] = ys ++ twP (p_a ps p) (p_i ps p) := by simp [twP, y36, y66, y82, y101]
          rw [e_] at hB4
          exact hK _ hB4
        · refine bp_aload_n (q := 105) 56 rfl rfl rfl rfl ?_
          refine bp_aload_n (q := 106) 57 rfl rfl rfl rfl ?_
          refine bp_getR (x := M 11) (q := 109) (ci := 9) (j := 11) 58 rfl rfl fl_Mo_36_9 hB3.kb rfl hB3.r11 ?_
          refine bp_iload_n (q := 110) 59 rfl rfl rfl rfl ?_
          refine bp_iald (q := 111) 60 rfl rfl hB3.k11 (by rw [hB3.l11]; exact vp_in_nI (by omega) (by decide)) ?_
          rw [nI_clamp (by omega), hB3.d0 hp]
          refine bp_callV (q := 114) (ci := 9) 61 rfl rfl cw_Mo_putNumber lk_Mo_355 rfl hB3.kb wd1659 wd77 rfl rfl (Nat.le_of_ble_eq_true rfl) ⟨Nat.le_of_ble_eq_true rfl, Nat.le_of_ble_eq_true rfl⟩ (s_Mo_putNumber (n := p_i ps p) hB3 (by omega) (by (try simp only [List.length_append, List.length_cons, List.length_nil]); omega) (fun h4 hB4 => ?_))
          refine bp_aload_n (q := 115) 62 rfl rfl rfl rfl ?_
          refine bp_bipush (v := 62) (q := 117) 63 rfl rfl (by decide) ?_
          refine bp_callV (q := 120) (ci := 9) 64 rfl rfl cw_Mo_put lk_Mo_332 rfl hB4.kb wd1635 wd73 rfl rfl (Nat.le_of_ble_eq_true rfl) ⟨Nat.le_of_ble_eq_true rfl, Nat.le_of_ble_eq_true rfl⟩ (s_Mo_put (v := 62) hB4 (by omega) (by (try simp only [List.length_append, List.length_cons, List.length_nil]); omega) (fun h5 hB5 => ?_))
          have y36 : ¬ p_a ps p = 0 := by have := (nI_lt_iff (a := 0) (by decide) (by omega)).mp z36; omega
          have y66 : ¬ p_a ps p = 1 := fun q => z66 (by rw [q]; rfl)
          have y82 : p_a ps p = 2 := (nI_eq_iff (b := 2) (by omega) (by decide)).mp z82
          have y101 : ¬ p_i ps p = 0 := by have := mt (nI_le_iff (a := p_i ps p) (b := 0) (by omega) (by decide)).mpr z101; omega
          have e_ : ys ++ [60, 112] ++ [32] ++ [82] ++ nd (p_i ps p) ++ [62] = ys ++ twP (p_a ps p) (p_i ps p) := by simp [twP, y36, y66, y82, y101]
          rw [e_] at hB5
          exact hK _ hB5
    · refine bp_ldc2 (q := 72) 39 rfl rfl wd1693 ?_
      refine bp_goto (tgt := 92) 40 rfl (by decide) ?_
      refine bp_callV (q := 95) (ci := 9) 50 rfl rfl cw_Mo_putText lk_Mo_345 rfl hB2.kb wd1647 wd76 rfl rfl (Nat.le_of_ble_eq_true rfl) ⟨Nat.le_of_ble_eq_true rfl, Nat.le_of_ble_eq_true rfl⟩ (s_Mo_putText hB2 lt_398 (by (try simp only [List.length_append, List.length_cons, List.length_nil]); omega) (fun h3 hB3 => ?_))
      refine bp_aload_n (q := 96) 51 rfl rfl rfl rfl ?_
      refine bp_getR (x := M 11) (q := 99) (ci := 9) (j := 11) 52 rfl rfl fl_Mo_36_9 hB3.kb rfl hB3.r11 ?_
      refine bp_iload_n (q := 100) 53 rfl rfl rfl rfl ?_
      refine bp_iald (q := 101) 54 rfl rfl hB3.k11 (by rw [hB3.l11]; exact vp_in_nI (by omega) (by decide)) ?_
      rw [nI_clamp (by omega), hB3.d0 hp]
      refine bp_if_le (q := 104) (tgt := 114) 55 rfl rfl (by decide) (fun z101 => ?_) (fun z101 => ?_)
      · refine bp_aload_n (q := 115) 62 rfl rfl rfl rfl ?_
        refine bp_bipush (v := 62) (q := 117) 63 rfl rfl (by decide) ?_
        refine bp_callV (q := 120) (ci := 9) 64 rfl rfl cw_Mo_put lk_Mo_332 rfl hB3.kb wd1635 wd73 rfl rfl (Nat.le_of_ble_eq_true rfl) ⟨Nat.le_of_ble_eq_true rfl, Nat.le_of_ble_eq_true rfl⟩ (s_Mo_put (v := 62) hB3 (by omega) (by (try simp only [List.length_append, List.length_cons, List.length_nil]); omega) (fun h4 hB4 => ?_))
        have y36 : ¬ p_a ps p = 0 := by have := (nI_lt_iff (a := 0) (by decide) (by omega)).mp z36; omega
        have y66 : p_a ps p = 1 := (nI_eq_iff (b := 1) (by omega) (by decide)).mp z66
        have y101 : p_i ps p = 0 := by have := (nI_le_iff (b := 0) (by omega) (by decide)).mp z101; omega
        have e_ : ys ++ [60, 112] ++ [32] ++ [67] ++ [62] = ys ++ twP (p_a ps p) (p_i ps p) := by simp [twP, y36, y66, y101]
        rw [e_] at hB4
        exact hK _ hB4
      · refine bp_aload_n (q := 105) 56 rfl rfl rfl rfl ?_
        refine bp_aload_n (q := 106) 57 rfl rfl rfl rfl ?_
        refine bp_getR (x := M 11) (q := 109) (ci := 9) (j := 11) 58 rfl rfl fl_Mo_36_9 hB3.kb rfl hB3.r11 ?_
        refine bp_iload_n (q := 110) 59 rfl rfl rfl rfl ?_
        refine bp_iald (q := 111) 60 rfl rfl hB3.k11 (by rw [hB3.l11]; exact vp_in_nI (by omega) (by decide)) ?_
        rw [nI_clamp (by omega), hB3.d0 hp]
        refine bp_callV (q := 114) (ci := 9) 61 rfl rfl cw_Mo_putNumber lk_Mo_355 rfl hB3.kb wd1659 wd77 rfl rfl (Nat.le_of_ble_eq_true rfl) ⟨Nat.le_of_ble_eq_true rfl, Nat.le_of_ble_eq_true rfl⟩ (s_Mo_putNumber (n := p_i ps p) hB3 (by omega) (by (try simp only [List.length_append, List.length_cons, List.length_nil]); omega) (fun h4 hB4 => ?_))
        refine bp_aload_n (q := 115) 62 rfl rfl rfl rfl ?_
        refine bp_bipush (v := 62) (q := 117) 63 rfl rfl (by decide) ?_
        refine bp_callV (q := 120) (ci := 9) 64 rfl rfl cw_Mo_put lk_Mo_332 rfl hB4.kb wd1635 wd73 rfl rfl (Nat.le_of_ble_eq_true rfl) ⟨Nat.le_of_ble_eq_true rfl, Nat.le_of_ble_eq_true rfl⟩ (s_Mo_put (v := 62) hB4 (by omega) (by (try simp only [List.length_append, List.length_cons, List.length_nil]); omega) (fun h5 hB5 => ?_))
        have y36 : ¬ p_a ps p = 0 := by have := (nI_lt_iff (a := 0) (by decide) (by omega)).mp z36; omega
        have y66 : p_a ps p = 1 := (nI_eq_iff (b := 1) (by omega) (by decide)).mp z66
        have y101 : ¬ p_i ps p = 0 := by have := mt (nI_le_iff (a := p_i ps p) (b := 0) (by omega) (by decide)).mpr z101; omega
        have e_ : ys ++ [60, 112] ++ [32] ++ [67] ++ nd (p_i ps p) ++ [62] = ys ++ twP (p_a ps p) (p_i ps p) := by simp [twP, y36, y66, y101]
        rw [e_] at hB5
        exact hK _ hB5
  · refine bp_aload_n (q := 40) 23 rfl rfl rfl rfl ?_
    refine bp_getR (x := M 11) (q := 43) (ci := 9) (j := 11) 24 rfl rfl fl_Mo_36_9 hB1.kb rfl hB1.r11 ?_
    refine bp_iload_n (q := 44) 25 rfl rfl rfl rfl ?_
    refine bp_iald (q := 45) 26 rfl rfl hB1.k11 (by rw [hB1.l11]; exact vp_in_nI (by omega) (by decide)) ?_
    rw [nI_clamp (by omega), hB1.d0 hp]
    refine bp_if_le (q := 48) (tgt := 54) 27 rfl rfl (by decide) (fun z45 => ?_) (fun z45 => ?_)
    · refine bp_lconst (v := 0) (q := 55) 30 rfl rfl (by decide) ?_
      refine bp_callV (q := 58) (ci := 9) 31 rfl rfl cw_Mo_putText lk_Mo_345 rfl hB1.kb wd1647 wd76 rfl rfl (Nat.le_of_ble_eq_true rfl) ⟨Nat.le_of_ble_eq_true rfl, Nat.le_of_ble_eq_true rfl⟩ (s_Mo_putText hB1 ltx_0 (by (try simp only [List.length_append, List.length_cons, List.length_nil]); omega) (fun h2 hB2 => ?_))
      refine bp_aload_n (q := 59) 32 rfl rfl rfl rfl ?_
      refine bp_aload_n (q := 60) 33 rfl rfl rfl rfl ?_
      refine bp_getR (x := M 10) (q := 63) (ci := 9) (j := 10) 34 rfl rfl fl_Mo_33_9 hB2.kb rfl hB2.r10 ?_
      refine bp_iload_n (q := 64) 35 rfl rfl rfl rfl ?_
      refine bp_iald (q := 65) 36 rfl rfl hB2.k10 (by rw [hB2.l10]; exact vp_in_nI (by omega) (by decide)) ?_
      rw [nI_clamp (by omega), hB2.a0 hp]
      refine bp_iconst (v := 1) (q := 66) 37 rfl rfl (by decide) ?_
      refine bp_icmp_ne (q := 69) (tgt := 75) 38 rfl rfl (by decide) (fun z66 => ?_) (fun z66 => ?_)
      · refine bp_aload_n (q := 76) 41 rfl rfl rfl rfl ?_
        refine bp_getR (x := M 10) (q := 79) (ci := 9) (j := 10) 42 rfl rfl fl_Mo_33_9 hB2.kb rfl hB2.r10 ?_
        refine bp_iload_n (q := 80) 43 rfl rfl rfl rfl ?_
        refine bp_iald (q := 81) 44 rfl rfl hB2.k10 (by rw [hB2.l10]; exact vp_in_nI (by omega) (by decide)) ?_
        rw [nI_clamp (by omega), hB2.a0 hp]
        refine bp_iconst (v := 2) (q := 82) 45 rfl rfl (by decide) ?_
        refine bp_icmp_ne (q := 85) (tgt := 91) 46 rfl rfl (by decide) (fun z82 => ?_) (fun z82 => ?_)
        · refine bp_lconst (v := 0) (q := 92) 49 rfl rfl (by decide) ?_
          refine bp_callV (q := 95) (ci := 9) 50 rfl rfl cw_Mo_putText lk_Mo_345 rfl hB2.kb wd1647 wd76 rfl rfl (Nat.le_of_ble_eq_true rfl) ⟨Nat.le_of_ble_eq_true rfl, Nat.le_of_ble_eq_true rfl⟩ (s_Mo_putText hB2 ltx_0 (by (try simp only [List.length_append, List.length_cons, List.length_nil]); omega) (fun h3 hB3 => ?_))
          refine bp_aload_n (q := 96) 51 rfl rfl rfl rfl ?_
          refine bp_getR (x := M 11) (q := 99) (ci := 9) (j := 11) 52 rfl rfl fl_Mo_36_9 hB3.kb rfl hB3.r11 ?_
          refine bp_iload_n (q := 100) 53 rfl rfl rfl rfl ?_
          refine bp_iald (q := 101) 54 rfl rfl hB3.k11 (by rw [hB3.l11]; exact vp_in_nI (by omega) (by decide)) ?_
          rw [nI_clamp (by omega), hB3.d0 hp]
          refine bp_if_le (q := 104) (tgt := 114) 55 rfl rfl (by decide) (fun z101 => ?_) (fun z101 => ?_)
          · refine bp_aload_n (q := 115) 62 rfl rfl rfl rfl ?_
            refine bp_bipush (v := 62) (q := 117) 63 rfl rfl (by decide) ?_
            refine bp_callV (q := 120) (ci := 9) 64 rfl rfl cw_Mo_put lk_Mo_332 rfl hB3.kb wd1635 wd73 rfl rfl (Nat.le_of_ble_eq_true rfl) ⟨Nat.le_of_ble_eq_true rfl, Nat.le_of_ble_eq_true rfl⟩ (s_Mo_put (v := 62) hB3 (by omega) (by (try simp only [List.length_append, List.length_cons, List.length_nil]); omega) (fun h4 hB4 => ?_))
            have y36 : p_a ps p = 0 := by have := mt (nI_lt_iff (a := 0) (b := p_a ps p) (by decide) (by omega)).mpr z36; omega
            have y45 : p_i ps p = 0 := by have := (nI_le_iff (b := 0) (by omega) (by decide)).mp z45; omega
            have y66 : ¬ p_a ps p = 1 := fun q => z66 (by rw [q]; rfl)
            have y82 : ¬ p_a ps p = 2 := fun q => z82 (by rw [q]; rfl)
            have y101 : p_i ps p = 0 := by have := (nI_le_iff (b := 0) (by omega) (by decide)).mp z101; omega
            have e_ : ys ++ [60, 112] ++ [] ++ [] ++ [62] = ys ++ twP (p_a ps p) (p_i ps p) := by simp [twP, y36, y45, y66, y82, y101]
            rw [e_] at hB4
            exact hK _ hB4
          · refine bp_aload_n (q := 105) 56 rfl rfl rfl rfl ?_
            refine bp_aload_n (q := 106) 57 rfl rfl rfl rfl ?_
            refine bp_getR (x := M 11) (q := 109) (ci := 9) (j := 11) 58 rfl rfl fl_Mo_36_9 hB3.kb rfl hB3.r11 ?_
            refine bp_iload_n (q := 110) 59 rfl rfl rfl rfl ?_
            refine bp_iald (q := 111) 60 rfl rfl hB3.k11 (by rw [hB3.l11]; exact vp_in_nI (by omega) (by decide)) ?_
            rw [nI_clamp (by omega), hB3.d0 hp]
            refine bp_callV (q := 114) (ci := 9) 61 rfl rfl cw_Mo_putNumber lk_Mo_355 rfl hB3.kb wd1659 wd77 rfl rfl (Nat.le_of_ble_eq_true rfl) ⟨Nat.le_of_ble_eq_true rfl, Nat.le_of_ble_eq_true rfl⟩ (s_Mo_putNumber (n := p_i ps p) hB3 (by omega) (by (try simp only [List.length_append, List.length_cons, List.length_nil]); omega) (fun h4 hB4 => ?_))
            refine bp_aload_n (q := 115) 62 rfl rfl rfl rfl ?_
            refine bp_bipush (v := 62) (q := 117) 63 rfl rfl (by decide) ?_
            refine bp_callV (q := 120) (ci := 9) 64 rfl rfl cw_Mo_put lk_Mo_332 rfl hB4.kb wd1635 wd73 rfl rfl (Nat.le_of_ble_eq_true rfl) ⟨Nat.le_of_ble_eq_true rfl, Nat.le_of_ble_eq_true rfl⟩ (s_Mo_put (v := 62) hB4 (by omega) (by (try simp only [List.length_append, List.length_cons, List.length_nil]); omega) (fun h5 hB5 => ?_))
            have y36 : p_a ps p = 0 := by have := mt (nI_lt_iff (a := 0) (b := p_a ps p) (by decide) (by omega)).mpr z36; omega
            have y45 : p_i ps p = 0 := by have := (nI_le_iff (b := 0) (by omega) (by decide)).mp z45; omega
            have y66 : ¬ p_a ps p = 1 := fun q => z66 (by rw [q]; rfl)
            have y82 : ¬ p_a ps p = 2 := fun q => z82 (by rw [q]; rfl)
            have y101 : ¬ p_i ps p = 0 := by have := mt (nI_le_iff (a := p_i ps p) (b := 0) (by omega) (by decide)).mpr z101; omega
            exfalso
            omega
        · refine bp_ldc2 (q := 88) 47 rfl rfl wd1694 ?_
          refine bp_goto (tgt := 92) 48 rfl (by decide) ?_
          refine bp_callV (q := 95) (ci := 9) 50 rfl rfl cw_Mo_putText lk_Mo_345 rfl hB2.kb wd1647 wd76 rfl rfl (Nat.le_of_ble_eq_true rfl) ⟨Nat.le_of_ble_eq_true rfl, Nat.le_of_ble_eq_true rfl⟩ (s_Mo_putText hB2 lt_400 (by (try simp only [List.length_append, List.length_cons, List.length_nil]); omega) (fun h3 hB3 => ?_))
          refine bp_aload_n (q := 96) 51 rfl rfl rfl rfl ?_
          refine bp_getR (x := M 11) (q := 99) (ci := 9) (j := 11) 52 rfl rfl fl_Mo_36_9 hB3.kb rfl hB3.r11 ?_
          refine bp_iload_n (q := 100) 53 rfl rfl rfl rfl ?_
          refine bp_iald (q := 101) 54 rfl rfl hB3.k11 (by rw [hB3.l11]; exact vp_in_nI (by omega) (by decide)) ?_
          rw [nI_clamp (by omega), hB3.d0 hp]
          refine bp_if_le (q := 104) (tgt := 114) 55 rfl rfl (by decide) (fun z101 => ?_) (fun z101 => ?_)
          · refine bp_aload_n (q := 115) 62 rfl rfl rfl rfl ?_
            refine bp_bipush (v := 62) (q := 117) 63 rfl rfl (by decide) ?_
            refine bp_callV (q := 120) (ci := 9) 64 rfl rfl cw_Mo_put lk_Mo_332 rfl hB3.kb wd1635 wd73 rfl rfl (Nat.le_of_ble_eq_true rfl) ⟨Nat.le_of_ble_eq_true rfl, Nat.le_of_ble_eq_true rfl⟩ (s_Mo_put (v := 62) hB3 (by omega) (by (try simp only [List.length_append, List.length_cons, List.length_nil]); omega) (fun h4 hB4 => ?_))
            have y36 : p_a ps p = 0 := by have := mt (nI_lt_iff (a := 0) (b := p_a ps p) (by decide) (by omega)).mpr z36; omega
            have y45 : p_i ps p = 0 := by have := (nI_le_iff (b := 0) (by omega) (by decide)).mp z45; omega
            have y66 : ¬ p_a ps p = 1 := fun q => z66 (by rw [q]; rfl)
            have y82 : p_a ps p = 2 := (nI_eq_iff (b := 2) (by omega) (by decide)).mp z82
            have y101 : p_i ps p = 0 := by have := (nI_le_iff (b := 0) (by omega) (by decide)).mp z101; omega
            exfalso
            omega
          · refine bp_aload_n (q := 105) 56 rfl rfl rfl rfl ?_
            refine bp_aload_n (q := 106) 57 rfl rfl rfl rfl ?_
            refine bp_getR (x := M 11) (q := 109) (ci := 9) (j := 11) 58 rfl rfl fl_Mo_36_9 hB3.kb rfl hB3.r11 ?_
            refine bp_iload_n (q := 110) 59 rfl rfl rfl rfl ?_
            refine bp_iald (q := 111) 60 rfl rfl hB3.k11 (by rw [hB3.l11]; exact vp_in_nI (by omega) (by decide)) ?_
            rw [nI_clamp (by omega), hB3.d0 hp]
            refine bp_callV (q := 114) (ci := 9) 61 rfl rfl cw_Mo_putNumber lk_Mo_355 rfl hB3.kb wd1659 wd77 rfl rfl (Nat.le_of_ble_eq_true rfl) ⟨Nat.le_of_ble_eq_true rfl, Nat.le_of_ble_eq_true rfl⟩ (s_Mo_putNumber (n := p_i ps p) hB3 (by omega) (by (try simp only [List.length_append, List.length_cons, List.length_nil]); omega) (fun h4 hB4 => ?_))
            refine bp_aload_n (q := 115) 62 rfl rfl rfl rfl ?_
            refine bp_bipush (v := 62) (q := 117) 63 rfl rfl (by decide) ?_
            refine bp_callV (q := 120) (ci := 9) 64 rfl rfl cw_Mo_put lk_Mo_332 rfl hB4.kb wd1635 wd73 rfl rfl (Nat.le_of_ble_eq_true rfl) ⟨Nat.le_of_ble_eq_true rfl, Nat.le_of_ble_eq_true rfl⟩ (s_Mo_put (v := 62) hB4 (by omega) (by (try simp only [List.length_append, List.length_cons, List.length_nil]); omega) (fun h5 hB5 => ?_))
            have y36 : p_a ps p = 0 := by have := mt (nI_lt_iff (a := 0) (b := p_a ps p) (by decide) (by omega)).mpr z36; omega
            have y45 : p_i ps p = 0 := by have := (nI_le_iff (b := 0) (by omega) (by decide)).mp z45; omega
            have y66 : ¬ p_a ps p = 1 := fun q => z66 (by rw [q]; rfl)
            have y82 : p_a ps p = 2 := (nI_eq_iff (b := 2) (by omega) (by decide)).mp z82
            have y101 : ¬ p_i ps p = 0 := by have := mt (nI_le_iff (a := p_i ps p) (b := 0) (by omega) (by decide)).mpr z101; omega
            exfalso
            omega
      · refine bp_ldc2 (q := 72) 39 rfl rfl wd1693 ?_
        refine bp_goto (tgt := 92) 40 rfl (by decide) ?_
        refine bp_callV (q := 95) (ci := 9) 50 rfl rfl cw_Mo_putText lk_Mo_345 rfl hB2.kb wd1647 wd76 rfl rfl (Nat.le_of_ble_eq_true rfl) ⟨Nat.le_of_ble_eq_true rfl, Nat.le_of_ble_eq_true rfl⟩ (s_Mo_putText hB2 lt_398 (by (try simp only [List.length_append, List.length_cons, List.length_nil]); omega) (fun h3 hB3 => ?_))
        refine bp_aload_n (q := 96) 51 rfl rfl rfl rfl ?_
        refine bp_getR (x := M 11) (q := 99) (ci := 9) (j := 11) 52 rfl rfl fl_Mo_36_9 hB3.kb rfl hB3.r11 ?_
        refine bp_iload_n (q := 100) 53 rfl rfl rfl rfl ?_
        refine bp_iald (q := 101) 54 rfl rfl hB3.k11 (by rw [hB3.l11]; exact vp_in_nI (by omega) (by decide)) ?_
        rw [nI_clamp (by omega), hB3.d0 hp]
        refine bp_if_le (q := 104) (tgt := 114) 55 rfl rfl (by decide) (fun z101 => ?_) (fun z101 => ?_)
        · refine bp_aload_n (q := 115) 62 rfl rfl rfl rfl ?_
          refine bp_bipush (v := 62) (q := 117) 63 rfl rfl (by decide) ?_
          refine bp_callV (q := 120) (ci := 9) 64 rfl rfl cw_Mo_put lk_Mo_332 rfl hB3.kb wd1635 wd73 rfl rfl (Nat.le_of_ble_eq_true rfl) ⟨Nat.le_of_ble_eq_true rfl, Nat.le_of_ble_eq_true rfl⟩ (s_Mo_put (v := 62) hB3 (by omega) (by (try simp only [List.length_append, List.length_cons, List.length_nil]); omega) (fun h4 hB4 => ?_))
          have y36 : p_a ps p = 0 := by have := mt (nI_lt_iff (a := 0) (b := p_a ps p) (by decide) (by omega)).mpr z36; omega
          have y45 : p_i ps p = 0 := by have := (nI_le_iff (b := 0) (by omega) (by decide)).mp z45; omega
          have y66 : p_a ps p = 1 := (nI_eq_iff (b := 1) (by omega) (by decide)).mp z66
          have y101 : p_i ps p = 0 := by have := (nI_le_iff (b := 0) (by omega) (by decide)).mp z101; omega
          exfalso
          omega
        · refine bp_aload_n (q := 105) 56 rfl rfl rfl rfl ?_
          refine bp_aload_n (q := 106) 57 rfl rfl rfl rfl ?_
          refine bp_getR (x := M 11) (q := 109) (ci := 9) (j := 11) 58 rfl rfl fl_Mo_36_9 hB3.kb rfl hB3.r11 ?_
          refine bp_iload_n (q := 110) 59 rfl rfl rfl rfl ?_
          refine bp_iald (q := 111) 60 rfl rfl hB3.k11 (by rw [hB3.l11]; exact vp_in_nI (by omega) (by decide)) ?_
          rw [nI_clamp (by omega), hB3.d0 hp]
          refine bp_callV (q := 114) (ci := 9) 61 rfl rfl cw_Mo_putNumber lk_Mo_355 rfl hB3.kb wd1659 wd77 rfl rfl (Nat.le_of_ble_eq_true rfl) ⟨Nat.le_of_ble_eq_true rfl, Nat.le_of_ble_eq_true rfl⟩ (s_Mo_putNumber (n := p_i ps p) hB3 (by omega) (by (try simp only [List.length_append, List.length_cons, List.length_nil]); omega) (fun h4 hB4 => ?_))
          refine bp_aload_n (q := 115) 62 rfl rfl rfl rfl ?_
          refine bp_bipush (v := 62) (q := 117) 63 rfl rfl (by decide) ?_
          refine bp_callV (q := 120) (ci := 9) 64 rfl rfl cw_Mo_put lk_Mo_332 rfl hB4.kb wd1635 wd73 rfl rfl (Nat.le_of_ble_eq_true rfl) ⟨Nat.le_of_ble_eq_true rfl, Nat.le_of_ble_eq_true rfl⟩ (s_Mo_put (v := 62) hB4 (by omega) (by (try simp only [List.length_append, List.length_cons, List.length_nil]); omega) (fun h5 hB5 => ?_))
          have y36 : p_a ps p = 0 := by have := mt (nI_lt_iff (a := 0) (b := p_a ps p) (by decide) (by omega)).mpr z36; omega
          have y45 : p_i ps p = 0 := by have := (nI_le_iff (b := 0) (by omega) (by decide)).mp z45; omega
          have y66 : p_a ps p = 1 := (nI_eq_iff (b := 1) (by omega) (by decide)).mp z66
          have y101 : ¬ p_i ps p = 0 := by have := mt (nI_le_iff (a := p_i ps p) (b := 0) (by omega) (by decide)).mpr z101; omega
          exfalso
          omega
    · refine bp_ldc2 (q := 51) 28 rfl rfl wd1425 ?_
      refine bp_goto (tgt := 55) 29 rfl (by decide) ?_
      refine bp_callV (q := 58) (ci := 9) 31 rfl rfl cw_Mo_putText lk_Mo_345 rfl hB1.kb wd1647 wd76 rfl rfl (Nat.le_of_ble_eq_true rfl) ⟨Nat.le_of_ble_eq_true rfl, Nat.le_of_ble_eq_true rfl⟩ (s_Mo_putText hB1 lt_59 (by (try simp only [List.length_append, List.length_cons, List.length_nil]); omega) (fun h2 hB2 => ?_))
      refine bp_aload_n (q := 59) 32 rfl rfl rfl rfl ?_
      refine bp_aload_n (q := 60) 33 rfl rfl rfl rfl ?_
      refine bp_getR (x := M 10) (q := 63) (ci := 9) (j := 10) 34 rfl rfl fl_Mo_33_9 hB2.kb rfl hB2.r10 ?_
      refine bp_iload_n (q := 64) 35 rfl rfl rfl rfl ?_
      refine bp_iald (q := 65) 36 rfl rfl hB2.k10 (by rw [hB2.l10]; exact vp_in_nI (by omega) (by decide)) ?_
      rw [nI_clamp (by omega), hB2.a0 hp]
      refine bp_iconst (v := 1) (q := 66) 37 rfl rfl (by decide) ?_
      refine bp_icmp_ne (q := 69) (tgt := 75) 38 rfl rfl (by decide) (fun z66 => ?_) (fun z66 => ?_)
      · refine bp_aload_n (q := 76) 41 rfl rfl rfl rfl ?_
        refine bp_getR (x := M 10) (q := 79) (ci := 9) (j := 10) 42 rfl rfl fl_Mo_33_9 hB2.kb rfl hB2.r10 ?_
        refine bp_iload_n (q := 80) 43 rfl rfl rfl rfl ?_
        refine bp_iald (q := 81) 44 rfl rfl hB2.k10 (by rw [hB2.l10]; exact vp_in_nI (by omega) (by decide)) ?_
        rw [nI_clamp (by omega), hB2.a0 hp]
        refine bp_iconst (v := 2) (q := 82) 45 rfl rfl (by decide) ?_
        refine bp_icmp_ne (q := 85) (tgt := 91) 46 rfl rfl (by decide) (fun z82 => ?_) (fun z82 => ?_)
        · refine bp_lconst (v := 0) (q := 92) 49 rfl rfl (by decide) ?_
          refine bp_callV (q := 95) (ci := 9) 50 rfl rfl cw_Mo_putText lk_Mo_345 rfl hB2.kb wd1647 wd76 rfl rfl (Nat.le_of_ble_eq_true rfl) ⟨Nat.le_of_ble_eq_true rfl, Nat.le_of_ble_eq_true rfl⟩ (s_Mo_putText hB2 ltx_0 (by (try simp only [List.length_append, List.length_cons, List.length_nil]); omega) (fun h3 hB3 => ?_))
          refine bp_aload_n (q := 96) 51 rfl rfl rfl rfl ?_
          refine bp_getR (x := M 11) (q := 99) (ci := 9) (j := 11) 52 rfl rfl fl_Mo_36_9 hB3.kb rfl hB3.r11 ?_
          refine bp_iload_n (q := 100) 53 rfl rfl rfl rfl ?_
          refine bp_iald (q := 101) 54 rfl rfl hB3.k11 (by rw [hB3.l11]; exact vp_in_nI (by omega) (by decide)) ?_
          rw [nI_clamp (by omega), hB3.d0 hp]
          refine bp_if_le (q := 104) (tgt := 114) 55 rfl rfl (by decide) (fun z101 => ?_) (fun z101 => ?_)
          · refine bp_aload_n (q := 115) 62 rfl rfl rfl rfl ?_
            refine bp_bipush (v := 62) (q := 117) 63 rfl rfl (by decide) ?_
            refine bp_callV (q := 120) (ci := 9) 64 rfl rfl cw_Mo_put lk_Mo_332 rfl hB3.kb wd1635 wd73 rfl rfl (Nat.le_of_ble_eq_true rfl) ⟨Nat.le_of_ble_eq_true rfl, Nat.le_of_ble_eq_true rfl⟩ (s_Mo_put (v := 62) hB3 (by omega) (by (try simp only [List.length_append, List.length_cons, List.length_nil]); omega) (fun h4 hB4 => ?_))
            have y36 : p_a ps p = 0 := by have := mt (nI_lt_iff (a := 0) (b := p_a ps p) (by decide) (by omega)).mpr z36; omega
            have y45 : ¬ p_i ps p = 0 := by have := mt (nI_le_iff (a := p_i ps p) (b := 0) (by omega) (by decide)).mpr z45; omega
            have y66 : ¬ p_a ps p = 1 := fun q => z66 (by rw [q]; rfl)
            have y82 : ¬ p_a ps p = 2 := fun q => z82 (by rw [q]; rfl)
            have y101 : p_i ps p = 0 := by have := (nI_le_iff (b := 0) (by omega) (by decide)).mp z101; omega
            exfalso
            omega
          · refine bp_aload_n (q := 105) 56 rfl rfl rfl rfl ?_
            refine bp_aload_n (q := 106) 57 rfl rfl rfl rfl ?_
            refine bp_getR (x := M 11) (q := 109) (ci := 9) (j := 11) 58 rfl rfl fl_Mo_36_9 hB3.kb rfl hB3.r11 ?_
            refine bp_iload_n (q := 110) 59 rfl rfl rfl rfl ?_
            refine bp_iald (q := 111) 60 rfl rfl hB3.k11 (by rw [hB3.l11]; exact vp_in_nI (by omega) (by decide)) ?_
            rw [nI_clamp (by omega), hB3.d0 hp]
            refine bp_callV (q := 114) (ci := 9) 61 rfl rfl cw_Mo_putNumber lk_Mo_355 rfl hB3.kb wd1659 wd77 rfl rfl (Nat.le_of_ble_eq_true rfl) ⟨Nat.le_of_ble_eq_true rfl, Nat.le_of_ble_eq_true rfl⟩ (s_Mo_putNumber (n := p_i ps p) hB3 (by omega) (by (try simp only [List.length_append, List.length_cons, List.length_nil]); omega) (fun h4 hB4 => ?_))
            refine bp_aload_n (q := 115) 62 rfl rfl rfl rfl ?_
            refine bp_bipush (v := 62) (q := 117) 63 rfl rfl (by decide) ?_
            refine bp_callV (q := 120) (ci := 9) 64 rfl rfl cw_Mo_put lk_Mo_332 rfl hB4.kb wd1635 wd73 rfl rfl (Nat.le_of_ble_eq_true rfl) ⟨Nat.le_of_ble_eq_true rfl, Nat.le_of_ble_eq_true rfl⟩ (s_Mo_put (v := 62) hB4 (by omega) (by (try simp only [List.length_append, List.length_cons, List.length_nil]); omega) (fun h5 hB5 => ?_))
            have y36 : p_a ps p = 0 := by have := mt (nI_lt_iff (a := 0) (b := p_a ps p) (by decide) (by omega)).mpr z36; omega
            have y45 : ¬ p_i ps p = 0 := by have := mt (nI_le_iff (a := p_i ps p) (b := 0) (by omega) (by decide)).mpr z45; omega
            have y66 : ¬ p_a ps p = 1 := fun q => z66 (by rw [q]; rfl)
            have y82 : ¬ p_a ps p = 2 := fun q => z82 (by rw [q]; rfl)
            have y101 : ¬ p_i ps p = 0 := by have := mt (nI_le_iff (a := p_i ps p) (b := 0) (by omega) (by decide)).mpr z101; omega
            have e_ : ys ++ [60, 112] ++ [32] ++ [] ++ nd (p_i ps p) ++ [62] = ys ++ twP (p_a ps p) (p_i ps p) := by simp [twP, y36, y45, y66, y82, y101]
            rw [e_] at hB5
            exact hK _ hB5
        · refine bp_ldc2 (q := 88) 47 rfl rfl wd1694 ?_
          refine bp_goto (tgt := 92) 48 rfl (by decide) ?_
          refine bp_callV (q := 95) (ci := 9) 50 rfl rfl cw_Mo_putText lk_Mo_345 rfl hB2.kb wd1647 wd76 rfl rfl (Nat.le_of_ble_eq_true rfl) ⟨Nat.le_of_ble_eq_true rfl, Nat.le_of_ble_eq_true rfl⟩ (s_Mo_putText hB2 lt_400 (by (try simp only [List.length_append, List.length_cons, List.length_nil]); omega) (fun h3 hB3 => ?_))
          refine bp_aload_n (q := 96) 51 rfl rfl rfl rfl ?_
          refine bp_getR (x := M 11) (q := 99) (ci := 9) (j := 11) 52 rfl rfl fl_Mo_36_9 hB3.kb rfl hB3.r11 ?_
          refine bp_iload_n (q := 100) 53 rfl rfl rfl rfl ?_
          refine bp_iald (q := 101) 54 rfl rfl hB3.k11 (by rw [hB3.l11]; exact vp_in_nI (by omega) (by decide)) ?_
          rw [nI_clamp (by omega), hB3.d0 hp]
          refine bp_if_le (q := 104) (tgt := 114) 55 rfl rfl (by decide) (fun z101 => ?_) (fun z101 => ?_)
          · refine bp_aload_n (q := 115) 62 rfl rfl rfl rfl ?_
            refine bp_bipush (v := 62) (q := 117) 63 rfl rfl (by decide) ?_
            refine bp_callV (q := 120) (ci := 9) 64 rfl rfl cw_Mo_put lk_Mo_332 rfl hB3.kb wd1635 wd73 rfl rfl (Nat.le_of_ble_eq_true rfl) ⟨Nat.le_of_ble_eq_true rfl, Nat.le_of_ble_eq_true rfl⟩ (s_Mo_put (v := 62) hB3 (by omega) (by (try simp only [List.length_append, List.length_cons, List.length_nil]); omega) (fun h4 hB4 => ?_))
            have y36 : p_a ps p = 0 := by have := mt (nI_lt_iff (a := 0) (b := p_a ps p) (by decide) (by omega)).mpr z36; omega
            have y45 : ¬ p_i ps p = 0 := by have := mt (nI_le_iff (a := p_i ps p) (b := 0) (by omega) (by decide)).mpr z45; omega
            have y66 : ¬ p_a ps p = 1 := fun q => z66 (by rw [q]; rfl)
            have y82 : p_a ps p = 2 := (nI_eq_iff (b := 2) (by omega) (by decide)).mp z82
            have y101 : p_i ps p = 0 := by have := (nI_le_iff (b := 0) (by omega) (by decide)).mp z101; omega
            exfalso
            omega
          · refine bp_aload_n (q := 105) 56 rfl rfl rfl rfl ?_
            refine bp_aload_n (q := 106) 57 rfl rfl rfl rfl ?_
            refine bp_getR (x := M 11) (q := 109) (ci := 9) (j := 11) 58 rfl rfl fl_Mo_36_9 hB3.kb rfl hB3.r11 ?_
            refine bp_iload_n (q := 110) 59 rfl rfl rfl rfl ?_
            refine bp_iald (q := 111) 60 rfl rfl hB3.k11 (by rw [hB3.l11]; exact vp_in_nI (by omega) (by decide)) ?_
            rw [nI_clamp (by omega), hB3.d0 hp]
            refine bp_callV (q := 114) (ci := 9) 61 rfl rfl cw_Mo_putNumber lk_Mo_355 rfl hB3.kb wd1659 wd77 rfl rfl (Nat.le_of_ble_eq_true rfl) ⟨Nat.le_of_ble_eq_true rfl, Nat.le_of_ble_eq_true rfl⟩ (s_Mo_putNumber (n := p_i ps p) hB3 (by omega) (by (try simp only [List.length_append, List.length_cons, List.length_nil]); omega) (fun h4 hB4 => ?_))
            refine bp_aload_n (q := 115) 62 rfl rfl rfl rfl ?_
            refine bp_bipush (v := 62) (q := 117) 63 rfl rfl (by decide) ?_
            refine bp_callV (q := 120) (ci := 9) 64 rfl rfl cw_Mo_put lk_Mo_332 rfl hB4.kb wd1635 wd73 rfl rfl (Nat.le_of_ble_eq_true rfl) ⟨Nat.le_of_ble_eq_true rfl, Nat.le_of_ble_eq_true rfl⟩ (s_Mo_put (v := 62) hB4 (by omega) (by (try simp only [List.length_append, List.length_cons, List.length_nil]); omega) (fun h5 hB5 => ?_))
            have y36 : p_a ps p = 0 := by have := mt (nI_lt_iff (a := 0) (b := p_a ps p) (by decide) (by omega)).mpr z36; omega
            have y45 : ¬ p_i ps p = 0 := by have := mt (nI_le_iff (a := p_i ps p) (b := 0) (by omega) (by decide)).mpr z45; omega
            have y66 : ¬ p_a ps p = 1 := fun q => z66 (by rw [q]; rfl)
            have y82 : p_a ps p = 2 := (nI_eq_iff (b := 2) (by omega) (by decide)).mp z82
            have y101 : ¬ p_i ps p = 0 := by have := mt (nI_le_iff (a := p_i ps p) (b := 0) (by omega) (by decide)).mpr z101; omega
            exfalso
            omega
      · refine bp_ldc2 (q := 72) 39 rfl rfl wd1693 ?_
        refine bp_goto (tgt := 92) 40 rfl (by decide) ?_
        refine bp_callV (q := 95) (ci := 9) 50 rfl rfl cw_Mo_putText lk_Mo_345 rfl hB2.kb wd1647 wd76 rfl rfl (Nat.le_of_ble_eq_true rfl) ⟨Nat.le_of_ble_eq_true rfl, Nat.le_of_ble_eq_true rfl⟩ (s_Mo_putText hB2 lt_398 (by (try simp only [List.length_append, List.length_cons, List.length_nil]); omega) (fun h3 hB3 => ?_))
        refine bp_aload_n (q := 96) 51 rfl rfl rfl rfl ?_
        refine bp_getR (x := M 11) (q := 99) (ci := 9) (j := 11) 52 rfl rfl fl_Mo_36_9 hB3.kb rfl hB3.r11 ?_
        refine bp_iload_n (q := 100) 53 rfl rfl rfl rfl ?_
        refine bp_iald (q := 101) 54 rfl rfl hB3.k11 (by rw [hB3.l11]; exact vp_in_nI (by omega) (by decide)) ?_
        rw [nI_clamp (by omega), hB3.d0 hp]
        refine bp_if_le (q := 104) (tgt := 114) 55 rfl rfl (by decide) (fun z101 => ?_) (fun z101 => ?_)
        · refine bp_aload_n (q := 115) 62 rfl rfl rfl rfl ?_
          refine bp_bipush (v := 62) (q := 117) 63 rfl rfl (by decide) ?_
          refine bp_callV (q := 120) (ci := 9) 64 rfl rfl cw_Mo_put lk_Mo_332 rfl hB3.kb wd1635 wd73 rfl rfl (Nat.le_of_ble_eq_true rfl) ⟨Nat.le_of_ble_eq_true rfl, Nat.le_of_ble_eq_true rfl⟩ (s_Mo_put (v := 62) hB3 (by omega) (by (try simp only [List.length_append, List.length_cons, List.length_nil]); omega) (fun h4 hB4 => ?_))
          have y36 : p_a ps p = 0 := by have := mt (nI_lt_iff (a := 0) (b := p_a ps p) (by decide) (by omega)).mpr z36; omega
          have y45 : ¬ p_i ps p = 0 := by have := mt (nI_le_iff (a := p_i ps p) (b := 0) (by omega) (by decide)).mpr z45; omega
          have y66 : p_a ps p = 1 := (nI_eq_iff (b := 1) (by omega) (by decide)).mp z66
          have y101 : p_i ps p = 0 := by have := (nI_le_iff (b := 0) (by omega) (by decide)).mp z101; omega
          exfalso
          omega
        · refine bp_aload_n (q := 105) 56 rfl rfl rfl rfl ?_
          refine bp_aload_n (q := 106) 57 rfl rfl rfl rfl ?_
          refine bp_getR (x := M 11) (q := 109) (ci := 9) (j := 11) 58 rfl rfl fl_Mo_36_9 hB3.kb rfl hB3.r11 ?_
          refine bp_iload_n (q := 110) 59 rfl rfl rfl rfl ?_
          refine bp_iald (q := 111) 60 rfl rfl hB3.k11 (by rw [hB3.l11]; exact vp_in_nI (by omega) (by decide)) ?_
          rw [nI_clamp (by omega), hB3.d0 hp]
          refine bp_callV (q := 114) (ci := 9) 61 rfl rfl cw_Mo_putNumber lk_Mo_355 rfl hB3.kb wd1659 wd77 rfl rfl (Nat.le_of_ble_eq_true rfl) ⟨Nat.le_of_ble_eq_true rfl, Nat.le_of_ble_eq_true rfl⟩ (s_Mo_putNumber (n := p_i ps p) hB3 (by omega) (by (try simp only [List.length_append, List.length_cons, List.length_nil]); omega) (fun h4 hB4 => ?_))
          refine bp_aload_n (q := 115) 62 rfl rfl rfl rfl ?_
          refine bp_bipush (v := 62) (q := 117) 63 rfl rfl (by decide) ?_
          refine bp_callV (q := 120) (ci := 9) 64 rfl rfl cw_Mo_put lk_Mo_332 rfl hB4.kb wd1635 wd73 rfl rfl (Nat.le_of_ble_eq_true rfl) ⟨Nat.le_of_ble_eq_true rfl, Nat.le_of_ble_eq_true rfl⟩ (s_Mo_put (v := 62) hB4 (by omega) (by (try simp only [List.length_append, List.length_cons, List.length_nil]); omega) (fun h5 hB5 => ?_))
          have y36 : p_a ps p = 0 := by have := mt (nI_lt_iff (a := 0) (b := p_a ps p) (by decide) (by omega)).mpr z36; omega
          have y45 : ¬ p_i ps p = 0 := by have := mt (nI_le_iff (a := p_i ps p) (b := 0) (by omega) (by decide)).mpr z45; omega
          have y66 : p_a ps p = 1 := (nI_eq_iff (b := 1) (by omega) (by decide)).mp z66
          have y101 : ¬ p_i ps p = 0 := by have := mt (nI_le_iff (a := p_i ps p) (b := 0) (by omega) (by decide)).mpr z101; omega
          exfalso
          omega
set_option maxRecDepth 100000 in
set_option maxHeartbeats 4000000 in
theorem lp_Mo_tout (okp : okP L ps) : ∀ (m p : Nat) (h : bp_H) (ys : List Nat) {v2 : Option Value}, m + p = ps.length → MoX M h0 h tw i fa fm tl lk al ind sk dp lv fr en nf nn dg nu kd pn pe T ys L ps L1 p1 nt tb fd → ys.length + (mpag twP twS twL twE [60, 47, 112, 62] L ps m p).length ≤ 18160 → (∀ h' (v1 : Option Value × Option Value), MoX M h0 h' tw i fa fm tl lk al ind sk dp lv fr en nf nn dg nu kd pn pe T (ys ++ mpag twP twS twL twE [60, 47, 112, 62] L ps m p) L ps L1 p1 nt tb fd → bp_A l G H0 (3, 67, false, false) M_Mo_writeTagged h' c s 207 [some (.ref (M 0)), v1.1, v1.2] [] (fun o h' c' s' => ∃ v, o = .returned v ∧ Q v h' c' s')) → bp_A l G H0 (3, 67, false, false) M_Mo_writeTagged h c s 12 [some (.ref (M 0)), some (.int (nI p)), v2] [] (fun o h' c' s' => ∃ v, o = .returned v ∧ Q v h' c' s') := by
  have h16 := okp.2.1
  intro m
  induction m with
  | zero =>
    intro p h ys v2 hp_ hB0 hm hK
    refine bp_iload_n (q := 13) 8 rfl rfl rfl rfl ?_
    refine bp_aload_n (q := 14) 9 rfl rfl rfl rfl ?_
    refine bp_getR (x := M 6) (q := 17) (ci := 9) (j := 6) 10 rfl rfl fl_Mo_21_9 hB0.kb rfl hB0.r6 ?_
    refine bp_iconst (v := 0) (q := 18) 11 rfl rfl (by decide) ?_
    refine bp_iald (q := 19) 12 rfl rfl hB0.k6 (by rw [hB0.l6]; exact vp_in_nI (n := 0) (by decide) (by decide)) ?_
    rw [show bp_I _ (M 6) ((0 : Int32).toNatClampNeg) = nI ps.length from hB0.n0]
    refine bp_icmp_ge (q := 22) (tgt := 207) 13 rfl rfl (by decide) (fun z19 => ?_) (fun z19 => ?_)
    · exact hK h (_, _) (by rw [mpag, List.append_nil]; exact hB0)
    · exact absurd (nI_le (by omega) (by omega)) z19
  | succ m ih =>
    intro p h ys v2 hp_ hB0 hm hK
    have hp : p < ps.length := by omega
    have hm2 := hm
    have hm3 := hm
    rw [mpag, List.length_append] at hm3
    unfold mpar at hm3
    simp only [List.length_append, List.length_cons, List.length_nil] at hm3
    refine bp_iload_n (q := 13) 8 rfl rfl rfl rfl ?_
    refine bp_aload_n (q := 14) 9 rfl rfl rfl rfl ?_
    refine bp_getR (x := M 6) (q := 17) (ci := 9) (j := 6) 10 rfl rfl fl_Mo_21_9 hB0.kb rfl hB0.r6 ?_
    refine bp_iconst (v := 0) (q := 18) 11 rfl rfl (by decide) ?_
    refine bp_iald (q := 19) 12 rfl rfl hB0.k6 (by rw [hB0.l6]; exact vp_in_nI (n := 0) (by decide) (by decide)) ?_
    rw [show bp_I _ (M 6) ((0 : Int32).toNatClampNeg) = nI ps.length from hB0.n0]
    refine bp_icmp_ge (q := 22) (tgt := 207) 13 rfl rfl (by decide) (fun z19 => ?_) (fun z19 => ?_)
    · exact absurd z19 (nI_ge hp (by omega))
    · refine hd_Mo_t okp hp hB0 (by omega) (fun h9 hB9 => ?_)
      refine bp_iconst (v := 0) (q := 121) 65 rfl rfl (by decide) ?_
      refine bp_istore_n (q := 122) 66 rfl rfl rfl (by decide) (bp_up2 rfl) ?_
      refine lp_Mo_tin okp hp L.length 0 h9 _ (Nat.add_zero _) hB9 (by (try simp only [List.length_append]); omega) (fun h8 v8 hB8 => ?_)
      refine bp_aload_n (q := 195) 107 rfl rfl rfl rfl ?_
      refine bp_ldc2 (q := 198) 108 rfl rfl wd1594 ?_
      refine bp_callV (q := 201) (ci := 9) 109 rfl rfl cw_Mo_putText lk_Mo_345 rfl hB8.kb wd1647 wd76 rfl rfl (Nat.le_of_ble_eq_true rfl) ⟨Nat.le_of_ble_eq_true rfl, Nat.le_of_ble_eq_true rfl⟩ (s_Mo_putText hB8 lt_308 (by (try simp only [List.length_append, List.length_cons, List.length_nil]); omega) (fun h9 hB9 => ?_))
      refine bp_iinc (v := nI (p + 1)) (q := 204) 110 rfl rfl rfl (nI_1 p) (by decide) (bp_up1 rfl) ?_
      refine bp_goto (tgt := 12) 111 rfl (by decide) ?_
      have e_ : ((ys ++ twP (p_a ps p) (p_i ps p)) ++ mrun twS twL twE L ps p L.length 0) ++ [60, 47, 112, 62] = ys ++ mpar twP twS twL twE [60, 47, 112, 62] L ps p := by unfold mpar; simp only [List.append_assoc]
      rw [e_] at hB9
      refine ih (p + 1) _ _ (by omega) hB9 (by rw [List.length_append]; rw [mpag, List.length_append] at hm2; omega) (fun h7 v7 hB7 => hK h7 v7 ?_)
      rw [mpag, ← List.append_assoc]
      exact hB7
set_option maxRecDepth 100000 in
set_option maxHeartbeats 4000000 in
theorem hd_Mo_b {p : Nat} {ys : List Nat} {v2 : Option Value} (okp : okP L ps) (hp : p < ps.length) (hB0 : MoX M h0 h tw i fa fm tl lk al ind sk dp lv fr en nf nn dg nu kd pn pe T ys L ps L1 p1 nt tb fd) (hl : ys.length + 40 ≤ 18200) (hK : ∀ h', MoX M h0 h' tw i fa fm tl lk al ind sk dp lv fr en nf nn dg nu kd pn pe T ((ys ++ bwP (p_a ps p) (p_i ps p))) L ps L1 p1 nt tb fd → bp_A l G H0 (3, 68, false, false) M_Mo_writeBraced h' c s 191 [some (.ref (M 0)), some (.int (nI p)), v2] [] (fun o h' c' s' => ∃ v, o = .returned v ∧ Q v h' c' s')) : bp_A l G H0 (3, 68, false, false) M_Mo_writeBraced h c s 121 [some (.ref (M 0)), some (.int (nI p)), v2] [] (fun o h' c' s' => ∃ v, o = .returned v ∧ Q v h' c' s') := by
  have h16 := okp.2.1
  have hj := okp.2.2.1 p hp
  have n1 := nd_len (p_i ps p)
  refine bp_aload_n (q := 122) 62 rfl rfl rfl rfl ?_
  refine bp_ldc2 (q := 125) 63 rfl rfl wd1653 ?_
  refine bp_callV (q := 128) (ci := 9) 64 rfl rfl cw_Mo_putText lk_Mo_345 rfl hB0.kb wd1647 wd76 rfl rfl (Nat.le_of_ble_eq_true rfl) ⟨Nat.le_of_ble_eq_true rfl, Nat.le_of_ble_eq_true rfl⟩ (s_Mo_putText hB0 lt_377 (by (try simp only [List.length_append, List.length_cons, List.length_nil]); omega) (fun h1 hB1 => ?_))
  refine bp_aload_n (q := 129) 65 rfl rfl rfl rfl ?_
  refine bp_aload_n (q := 130) 66 rfl rfl rfl rfl ?_
  refine bp_getR (x := M 10) (q := 133) (ci := 9) (j := 10) 67 rfl rfl fl_Mo_33_9 hB1.kb rfl hB1.r10 ?_
  refine bp_iload_n (q := 134) 68 rfl rfl rfl rfl ?_
  refine bp_iald (q := 135) 69 rfl rfl hB1.k10 (by rw [hB1.l10]; exact vp_in_nI (by omega) (by decide)) ?_
  rw [nI_clamp (by omega), hB1.a0 hp]
  refine bp_iconst (v := 1) (q := 136) 70 rfl rfl (by decide) ?_
  refine bp_icmp_ne (q := 139) (tgt := 145) 71 rfl rfl (by decide) (fun z136 => ?_) (fun z136 => ?_)
  · refine bp_aload_n (q := 146) 74 rfl rfl rfl rfl ?_
    refine bp_getR (x := M 10) (q := 149) (ci := 9) (j := 10) 75 rfl rfl fl_Mo_33_9 hB1.kb rfl hB1.r10 ?_
    refine bp_iload_n (q := 150) 76 rfl rfl rfl rfl ?_
    refine bp_iald (q := 151) 77 rfl rfl hB1.k10 (by rw [hB1.l10]; exact vp_in_nI (by omega) (by decide)) ?_
    rw [nI_clamp (by omega), hB1.a0 hp]
    refine bp_iconst (v := 2) (q := 152) 78 rfl rfl (by decide) ?_
    refine bp_icmp_ne (q := 155) (tgt := 161) 79 rfl rfl (by decide) (fun z152 => ?_) (fun z152 => ?_)
    · refine bp_lconst (v := 0) (q := 162) 82 rfl rfl (by decide) ?_
      refine bp_callV (q := 165) (ci := 9) 83 rfl rfl cw_Mo_putText lk_Mo_345 rfl hB1.kb wd1647 wd76 rfl rfl (Nat.le_of_ble_eq_true rfl) ⟨Nat.le_of_ble_eq_true rfl, Nat.le_of_ble_eq_true rfl⟩ (s_Mo_putText hB1 ltx_0 (by (try simp only [List.length_append, List.length_cons, List.length_nil]); omega) (fun h2 hB2 => ?_))
      refine bp_aload_n (q := 166) 84 rfl rfl rfl rfl ?_
      refine bp_getR (x := M 11) (q := 169) (ci := 9) (j := 11) 85 rfl rfl fl_Mo_36_9 hB2.kb rfl hB2.r11 ?_
      refine bp_iload_n (q := 170) 86 rfl rfl rfl rfl ?_
      refine bp_iald (q := 171) 87 rfl rfl hB2.k11 (by rw [hB2.l11]; exact vp_in_nI (by omega) (by decide)) ?_
      rw [nI_clamp (by omega), hB2.d0 hp]
      refine bp_if_le (q := 174) (tgt := 191) 88 rfl rfl (by decide) (fun z171 => ?_) (fun z171 => ?_)
      · have y136 : ¬ p_a ps p = 1 := fun q => z136 (by rw [q]; rfl)
        have y152 : ¬ p_a ps p = 2 := fun q => z152 (by rw [q]; rfl)
        have ya : p_a ps p = 0 := by omega
        have y171 : p_i ps p = 0 := by have := (nI_le_iff (b := 0) (by omega) (by decide)).mp z171; omega
        have e_ : ys ++ [92, 112, 97, 114, 100] ++ [] = ys ++ bwP (p_a ps p) (p_i ps p) := by simp [bwP, y136, y152, ya, y171]
        rw [e_] at hB2
        exact hK _ hB2
      · refine bp_aload_n (q := 175) 89 rfl rfl rfl rfl ?_
        refine bp_ldc2 (q := 178) 90 rfl rfl wd1656 ?_
        refine bp_callV (q := 181) (ci := 9) 91 rfl rfl cw_Mo_putText lk_Mo_345 rfl hB2.kb wd1647 wd76 rfl rfl (Nat.le_of_ble_eq_true rfl) ⟨Nat.le_of_ble_eq_true rfl, Nat.le_of_ble_eq_true rfl⟩ (s_Mo_putText hB2 lt_383 (by (try simp only [List.length_append, List.length_cons, List.length_nil]); omega) (fun h3 hB3 => ?_))
        refine bp_aload_n (q := 182) 92 rfl rfl rfl rfl ?_
        refine bp_aload_n (q := 183) 93 rfl rfl rfl rfl ?_
        refine bp_getR (x := M 11) (q := 186) (ci := 9) (j := 11) 94 rfl rfl fl_Mo_36_9 hB3.kb rfl hB3.r11 ?_
        refine bp_iload_n (q := 187) 95 rfl rfl rfl rfl ?_
        refine bp_iald (q := 188) 96 rfl rfl hB3.k11 (by rw [hB3.l11]; exact vp_in_nI (by omega) (by decide)) ?_
        rw [nI_clamp (by omega), hB3.d0 hp]
        refine bp_callV (q := 191) (ci := 9) 97 rfl rfl cw_Mo_putNumber lk_Mo_355 rfl hB3.kb wd1659 wd77 rfl rfl (Nat.le_of_ble_eq_true rfl) ⟨Nat.le_of_ble_eq_true rfl, Nat.le_of_ble_eq_true rfl⟩ (s_Mo_putNumber (n := p_i ps p) hB3 (by omega) (by (try simp only [List.length_append, List.length_cons, List.length_nil]); omega) (fun h4 hB4 => ?_))
        have y136 : ¬ p_a ps p = 1 := fun q => z136 (by rw [q]; rfl)
        have y152 : ¬ p_a ps p = 2 := fun q => z152 (by rw [q]; rfl)
        have ya : p_a ps p = 0 := by omega
        have y171 : ¬ p_i ps p = 0 := by have := mt (nI_le_iff (a := p_i ps p) (b := 0) (by omega) (by decide)).mpr z171; omega
        have e_ : ys ++ [92, 112, 97, 114, 100] ++ [] ++ [92, 108, 105] ++ nd (p_i ps p) = ys ++ bwP (p_a ps p) (p_i ps p) := by simp [bwP, y136, y152, ya, y171]
        rw [e_] at hB4
        exact hK _ hB4
    · refine bp_ldc2 (q := 158) 80 rfl rfl wd1655 ?_
      refine bp_goto (tgt := 162) 81 rfl (by decide) ?_
      refine bp_callV (q := 165) (ci := 9) 83 rfl rfl cw_Mo_putText lk_Mo_345 rfl hB1.kb wd1647 wd76 rfl rfl (Nat.le_of_ble_eq_true rfl) ⟨Nat.le_of_ble_eq_true rfl, Nat.le_of_ble_eq_true rfl⟩ (s_Mo_putText hB1 lt_381 (by (try simp only [List.length_append, List.length_cons, List.length_nil]); omega) (fun h2 hB2 => ?_))
      refine bp_aload_n (q := 166) 84 rfl rfl rfl rfl ?_
      refine bp_getR (x := M 11) (q := 169) (ci := 9) (j := 11) 85 rfl rfl fl_Mo_36_9 hB2.kb rfl hB2.r11 ?_
      refine bp_iload_n (q := 170) 86 rfl rfl rfl rfl ?_
      refine bp_iald (q := 171) 87 rfl rfl hB2.k11 (by rw [hB2.l11]; exact vp_in_nI (by omega) (by decide)) ?_
      rw [nI_clamp (by omega), hB2.d0 hp]
      refine bp_if_le (q := 174) (tgt := 191) 88 rfl rfl (by decide) (fun z171 => ?_) (fun z171 => ?_)
      · have y136 : ¬ p_a ps p = 1 := fun q => z136 (by rw [q]; rfl)
        have y152 : p_a ps p = 2 := (nI_eq_iff (b := 2) (by omega) (by decide)).mp z152
        have y171 : p_i ps p = 0 := by have := (nI_le_iff (b := 0) (by omega) (by decide)).mp z171; omega
        have e_ : ys ++ [92, 112, 97, 114, 100] ++ [92, 113, 114] = ys ++ bwP (p_a ps p) (p_i ps p) := by simp [bwP, y136, y152, y171]
        rw [e_] at hB2
        exact hK _ hB2
      · refine bp_aload_n (q := 175) 89 rfl rfl rfl rfl ?_
        refine bp_ldc2 (q := 178) 90 rfl rfl wd1656 ?_
        refine bp_callV (q := 181) (ci := 9) 91 rfl rfl cw_Mo_putText lk_Mo_345 rfl hB2.kb wd1647 wd76 rfl rfl (Nat.le_of_ble_eq_true rfl) ⟨Nat.le_of_ble_eq_true rfl, Nat.le_of_ble_eq_true rfl⟩ (s_Mo_putText hB2 lt_383 (by (try simp only [List.length_append, List.length_cons, List.length_nil]); omega) (fun h3 hB3 => ?_))
        refine bp_aload_n (q := 182) 92 rfl rfl rfl rfl ?_
        refine bp_aload_n (q := 183) 93 rfl rfl rfl rfl ?_
        refine bp_getR (x := M 11) (q := 186) (ci := 9) (j := 11) 94 rfl rfl fl_Mo_36_9 hB3.kb rfl hB3.r11 ?_
        refine bp_iload_n (q := 187) 95 rfl rfl rfl rfl ?_
        refine bp_iald (q := 188) 96 rfl rfl hB3.k11 (by rw [hB3.l11]; exact vp_in_nI (by omega) (by decide)) ?_
        rw [nI_clamp (by omega), hB3.d0 hp]
        refine bp_callV (q := 191) (ci := 9) 97 rfl rfl cw_Mo_putNumber lk_Mo_355 rfl hB3.kb wd1659 wd77 rfl rfl (Nat.le_of_ble_eq_true rfl) ⟨Nat.le_of_ble_eq_true rfl, Nat.le_of_ble_eq_true rfl⟩ (s_Mo_putNumber (n := p_i ps p) hB3 (by omega) (by (try simp only [List.length_append, List.length_cons, List.length_nil]); omega) (fun h4 hB4 => ?_))
        have y136 : ¬ p_a ps p = 1 := fun q => z136 (by rw [q]; rfl)
        have y152 : p_a ps p = 2 := (nI_eq_iff (b := 2) (by omega) (by decide)).mp z152
        have y171 : ¬ p_i ps p = 0 := by have := mt (nI_le_iff (a := p_i ps p) (b := 0) (by omega) (by decide)).mpr z171; omega
        have e_ : ys ++ [92, 112, 97, 114, 100] ++ [92, 113, 114] ++ [92, 108, 105] ++ nd (p_i ps p) = ys ++ bwP (p_a ps p) (p_i ps p) := by simp [bwP, y136, y152, y171]
        rw [e_] at hB4
        exact hK _ hB4
  · refine bp_ldc2 (q := 142) 72 rfl rfl wd1654 ?_
    refine bp_goto (tgt := 162) 73 rfl (by decide) ?_
    refine bp_callV (q := 165) (ci := 9) 83 rfl rfl cw_Mo_putText lk_Mo_345 rfl hB1.kb wd1647 wd76 rfl rfl (Nat.le_of_ble_eq_true rfl) ⟨Nat.le_of_ble_eq_true rfl, Nat.le_of_ble_eq_true rfl⟩ (s_Mo_putText hB1 lt_379 (by (try simp only [List.length_append, List.length_cons, List.length_nil]); omega) (fun h2 hB2 => ?_))
    refine bp_aload_n (q := 166) 84 rfl rfl rfl rfl ?_
    refine bp_getR (x := M 11) (q := 169) (ci := 9) (j := 11) 85 rfl rfl fl_Mo_36_9 hB2.kb rfl hB2.r11 ?_
    refine bp_iload_n (q := 170) 86 rfl rfl rfl rfl ?_
    refine bp_iald (q := 171) 87 rfl rfl hB2.k11 (by rw [hB2.l11]; exact vp_in_nI (by omega) (by decide)) ?_
    rw [nI_clamp (by omega), hB2.d0 hp]
    refine bp_if_le (q := 174) (tgt := 191) 88 rfl rfl (by decide) (fun z171 => ?_) (fun z171 => ?_)
    · have y136 : p_a ps p = 1 := (nI_eq_iff (b := 1) (by omega) (by decide)).mp z136
      have y171 : p_i ps p = 0 := by have := (nI_le_iff (b := 0) (by omega) (by decide)).mp z171; omega
      have e_ : ys ++ [92, 112, 97, 114, 100] ++ [92, 113, 99] = ys ++ bwP (p_a ps p) (p_i ps p) := by simp [bwP, y136, y171]
      rw [e_] at hB2
      exact hK _ hB2
    · refine bp_aload_n (q := 175) 89 rfl rfl rfl rfl ?_
      refine bp_ldc2 (q := 178) 90 rfl rfl wd1656 ?_
      refine bp_callV (q := 181) (ci := 9) 91 rfl rfl cw_Mo_putText lk_Mo_345 rfl hB2.kb wd1647 wd76 rfl rfl (Nat.le_of_ble_eq_true rfl) ⟨Nat.le_of_ble_eq_true rfl, Nat.le_of_ble_eq_true rfl⟩ (s_Mo_putText hB2 lt_383 (by (try simp only [List.length_append, List.length_cons, List.length_nil]); omega) (fun h3 hB3 => ?_))
      refine bp_aload_n (q := 182) 92 rfl rfl rfl rfl ?_
      refine bp_aload_n (q := 183) 93 rfl rfl rfl rfl ?_
      refine bp_getR (x := M 11) (q := 186) (ci := 9) (j := 11) 94 rfl rfl fl_Mo_36_9 hB3.kb rfl hB3.r11 ?_
      refine bp_iload_n (q := 187) 95 rfl rfl rfl rfl ?_
      refine bp_iald (q := 188) 96 rfl rfl hB3.k11 (by rw [hB3.l11]; exact vp_in_nI (by omega) (by decide)) ?_
      rw [nI_clamp (by omega), hB3.d0 hp]
      refine bp_callV (q := 191) (ci := 9) 97 rfl rfl cw_Mo_putNumber lk_Mo_355 rfl hB3.kb wd1659 wd77 rfl rfl (Nat.le_of_ble_eq_true rfl) ⟨Nat.le_of_ble_eq_true rfl, Nat.le_of_ble_eq_true rfl⟩ (s_Mo_putNumber (n := p_i ps p) hB3 (by omega) (by (try simp only [List.length_append, List.length_cons, List.length_nil]); omega) (fun h4 hB4 => ?_))
      have y136 : p_a ps p = 1 := (nI_eq_iff (b := 1) (by omega) (by decide)).mp z136
      have y171 : ¬ p_i ps p = 0 := by have := mt (nI_le_iff (a := p_i ps p) (b := 0) (by omega) (by decide)).mpr z171; omega
      have e_ : ys ++ [92, 112, 97, 114, 100] ++ [92, 113, 99] ++ [92, 108, 105] ++ nd (p_i ps p) = ys ++ bwP (p_a ps p) (p_i ps p) := by simp [bwP, y136, y171]
      rw [e_] at hB4
      exact hK _ hB4
set_option maxRecDepth 100000 in
set_option maxHeartbeats 4000000 in
theorem lp_Mo_bout (okp : okP L ps) : ∀ (m p : Nat) (h : bp_H) (ys : List Nat) {v2 : Option Value}, m + p = ps.length → MoX M h0 h tw i fa fm tl lk al ind sk dp lv fr en nf nn dg nu kd pn pe T ys L ps L1 p1 nt tb fd → ys.length + (mpag bwP (bwS (enO (lkL L))) bwL (fun _ => [125]) [92, 112, 97, 114] L ps m p).length ≤ 18160 → (∀ h' (v1 : Option Value × Option Value), MoX M h0 h' tw i fa fm tl lk al ind sk dp lv fr en nf nn dg nu kd pn pe T ((ys ++ mpag bwP (bwS (enO (lkL L))) bwL (fun _ => [125]) [92, 112, 97, 114] L ps m p)) L ps L1 p1 nt tb fd → bp_A l G H0 (3, 68, false, false) M_Mo_writeBraced h' c s 279 [some (.ref (M 0)), v1.1, v1.2] [] (fun o h' c' s' => ∃ v, o = .returned v ∧ Q v h' c' s')) → bp_A l G H0 (3, 68, false, false) M_Mo_writeBraced h c s 111 [some (.ref (M 0)), some (.int (nI p)), v2] [] (fun o h' c' s' => ∃ v, o = .returned v ∧ Q v h' c' s') := by
  have h16 := okp.2.1
  intro m
  induction m with
  | zero =>
    intro p h ys v2 hp_ hB0 hm hK
    refine bp_iload_n (q := 112) 56 rfl rfl rfl rfl ?_
    refine bp_aload_n (q := 113) 57 rfl rfl rfl rfl ?_
    refine bp_getR (x := M 6) (q := 116) (ci := 9) (j := 6) 58 rfl rfl fl_Mo_21_9 hB0.kb rfl hB0.r6 ?_
    refine bp_iconst (v := 0) (q := 117) 59 rfl rfl (by decide) ?_
    refine bp_iald (q := 118) 60 rfl rfl hB0.k6 (by rw [hB0.l6]; exact vp_in_nI (n := 0) (by decide) (by decide)) ?_
    rw [show bp_I _ (M 6) ((0 : Int32).toNatClampNeg) = nI ps.length from hB0.n0]
    refine bp_icmp_ge (q := 121) (tgt := 279) 61 rfl rfl (by decide) (fun z118 => ?_) (fun z118 => ?_)
    · exact hK h (_, _) (by rw [mpag, List.append_nil]; exact hB0)
    · exact absurd (nI_le (by omega) (by omega)) z118
  | succ m ih =>
    intro p h ys v2 hp_ hB0 hm hK
    have hp : p < ps.length := by omega
    have hm2 := hm
    have hm3 := hm
    rw [mpag, List.length_append] at hm3
    unfold mpar at hm3
    simp only [List.length_append, List.length_cons, List.length_nil] at hm3
    refine bp_iload_n (q := 112) 56 rfl rfl rfl rfl ?_
    refine bp_aload_n (q := 113) 57 rfl rfl rfl rfl ?_
    refine bp_getR (x := M 6) (q := 116) (ci := 9) (j := 6) 58 rfl rfl fl_Mo_21_9 hB0.kb rfl hB0.r6 ?_
    refine bp_iconst (v := 0) (q := 117) 59 rfl rfl (by decide) ?_
    refine bp_iald (q := 118) 60 rfl rfl hB0.k6 (by rw [hB0.l6]; exact vp_in_nI (n := 0) (by decide) (by decide)) ?_
    rw [show bp_I _ (M 6) ((0 : Int32).toNatClampNeg) = nI ps.length from hB0.n0]
    refine bp_icmp_ge (q := 121) (tgt := 279) 61 rfl rfl (by decide) (fun z118 => ?_) (fun z118 => ?_)
    · exact absurd z118 (nI_ge hp (by omega))
    · refine hd_Mo_b okp hp hB0 (by omega) (fun h9 hB9 => ?_)
      refine bp_iconst (v := 0) (q := 192) 98 rfl rfl (by decide) ?_
      refine bp_istore_n (q := 193) 99 rfl rfl rfl (by decide) (bp_up2 rfl) ?_
      refine lp_Mo_bin okp hp L.length 0 h9 _ (Nat.add_zero _) hB9 (by (try simp only [List.length_append]); omega) (fun h8 v8 hB8 => ?_)
      refine bp_aload_n (q := 267) 139 rfl rfl rfl rfl ?_
      refine bp_ldc2 (q := 270) 140 rfl rfl wd1688 ?_
      refine bp_callV (q := 273) (ci := 9) 141 rfl rfl cw_Mo_putText lk_Mo_345 rfl hB8.kb wd1647 wd76 rfl rfl (Nat.le_of_ble_eq_true rfl) ⟨Nat.le_of_ble_eq_true rfl, Nat.le_of_ble_eq_true rfl⟩ (s_Mo_putText hB8 lt_396 (by (try simp only [List.length_append, List.length_cons, List.length_nil]); omega) (fun h9 hB9 => ?_))
      refine bp_iinc (v := nI (p + 1)) (q := 276) 142 rfl rfl rfl (nI_1 p) (by decide) (bp_up1 rfl) ?_
      refine bp_goto (tgt := 111) 143 rfl (by decide) ?_
      have e_ : ((ys ++ bwP (p_a ps p) (p_i ps p)) ++ mrun (bwS (enO (lkL L))) bwL (fun _ => [125]) L ps p L.length 0) ++ [92, 112, 97, 114] = ys ++ mpar bwP (bwS (enO (lkL L))) bwL (fun _ => [125]) [92, 112, 97, 114] L ps p := by unfold mpar; simp only [List.append_assoc]
      rw [e_] at hB9
      refine ih (p + 1) _ _ (by omega) hB9 (by rw [List.length_append]; rw [mpag, List.length_append] at hm2; omega) (fun h7 v7 hB7 => hK h7 v7 ?_)
      rw [mpag, ← List.append_assoc]
      exact hB7
end MO6
