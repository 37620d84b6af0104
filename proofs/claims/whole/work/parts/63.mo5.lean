/-! the reference writes a page -/
section MO5
variable {l : Launch} {G : bp_G} {H0 : Heap} {M : Nat → Nat} {h0 h : bp_H} {tw : Int32} {i : Nat} {fa : Int32} {fm : Int32} {tl : Int32} {lk : Nat} {al : Nat} {ind : Nat} {sk : Nat} {dp : Nat} {lv : Nat} {fr : Bool} {en : Nat} {nf : Nat} {nn : Nat} {dg : Nat} {nu : Int32} {kd : Nat} {pn : Int32} {pe : Nat} {T : List Nat} {xs : List Nat} {L : List (Nat × Nat)} {ps : List (Nat × Nat × Nat)} {L1 : List (Nat × Nat)} {p1 : List (Nat × Nat × Nat)} {nt : List (Nat → Nat)} {tb : List Nat} {fd : List Nat} {c s : Nat} {Q : Option Value → bp_H → Nat → Nat → Prop}
set_option maxRecDepth 100000 in
set_option maxHeartbeats 4000000 in
theorem s_Mo_colourName {ro : Bool} {j : Nat} (hj : 1 ≤ j ∧ j < 8) (hQ : ∀ v, ltx v (cnT j) → Q (some (.long v)) h c s) : bp_AM l G H0 (0, 0, ro, ro) M_Mo_colourName h c s [.int (nI j)] Q := by
  refine bp_of (ls := [some (.int (nI j))]) (by decide) dt_Mo_colourName (Nat.le_of_ble_eq_true rfl) (fun q hq => hq) ro ?_
  refine bp_iload_n (q := 1) 0 rfl rfl rfl rfl ?_
  refine bp_iconst (v := 1) (q := 2) 1 rfl rfl (by decide) ?_
  refine bp_icmp_ne (q := 5) (tgt := 11) 2 rfl rfl (by decide) (fun z2 => ?_) (fun z2 => ?_)
  · refine bp_iload_n (q := 12) 5 rfl rfl rfl rfl ?_
    refine bp_iconst (v := 2) (q := 13) 6 rfl rfl (by decide) ?_
    refine bp_icmp_ne (q := 16) (tgt := 22) 7 rfl rfl (by decide) (fun z13 => ?_) (fun z13 => ?_)
    · refine bp_iload_n (q := 23) 10 rfl rfl rfl rfl ?_
      refine bp_iconst (v := 3) (q := 24) 11 rfl rfl (by decide) ?_
      refine bp_icmp_ne (q := 27) (tgt := 33) 12 rfl rfl (by decide) (fun z24 => ?_) (fun z24 => ?_)
      · refine bp_iload_n (q := 34) 15 rfl rfl rfl rfl ?_
        refine bp_iconst (v := 4) (q := 35) 16 rfl rfl (by decide) ?_
        refine bp_icmp_ne (q := 38) (tgt := 44) 17 rfl rfl (by decide) (fun z35 => ?_) (fun z35 => ?_)
        · refine bp_iload_n (q := 45) 20 rfl rfl rfl rfl ?_
          refine bp_iconst (v := 5) (q := 46) 21 rfl rfl (by decide) ?_
          refine bp_icmp_ne (q := 49) (tgt := 55) 22 rfl rfl (by decide) (fun z46 => ?_) (fun z46 => ?_)
          · refine bp_iload_n (q := 56) 25 rfl rfl rfl rfl ?_
            refine bp_bipush (v := 6) (q := 58) 26 rfl rfl (by decide) ?_
            refine bp_icmp_ne (q := 61) (tgt := 67) 27 rfl rfl (by decide) (fun z58 => ?_) (fun z58 => ?_)
            · refine bp_ldc2 (q := 70) 30 rfl rfl wd1539 ?_
              refine bp_lret 31 rfl rfl  ⟨_, rfl, ?_⟩
              have y1 : ¬ j = 1 := fun q => z2 (by rw [q]; rfl)
              have y2 : ¬ j = 2 := fun q => z13 (by rw [q]; rfl)
              have y3 : ¬ j = 3 := fun q => z24 (by rw [q]; rfl)
              have y4 : ¬ j = 4 := fun q => z35 (by rw [q]; rfl)
              have y5 : ¬ j = 5 := fun q => z46 (by rw [q]; rfl)
              have y6 : ¬ j = 6 := fun q => z58 (by rw [q]; rfl)
              have y : j = 7 := by omega
              exact hQ _ (by rw [y]; exact lt_257)
            · refine bp_ldc2 (q := 64) 28 rfl rfl wd1538 ?_
              refine bp_goto (tgt := 70) 29 rfl (by decide) ?_
              refine bp_lret 31 rfl rfl  ⟨_, rfl, ?_⟩
              have y : j = 6 := (nI_eq_iff (b := 6) (by omega) (by decide)).mp z58
              exact hQ _ (by rw [y]; exact lt_255)
          · refine bp_ldc2 (q := 52) 23 rfl rfl wd1537 ?_
            refine bp_goto (tgt := 70) 24 rfl (by decide) ?_
            refine bp_lret 31 rfl rfl  ⟨_, rfl, ?_⟩
            have y : j = 5 := (nI_eq_iff (b := 5) (by omega) (by decide)).mp z46
            exact hQ _ (by rw [y]; exact lt_253)
        · refine bp_ldc2 (q := 41) 18 rfl rfl wd1536 ?_
          refine bp_goto (tgt := 70) 19 rfl (by decide) ?_
          refine bp_lret 31 rfl rfl  ⟨_, rfl, ?_⟩
          have y : j = 4 := (nI_eq_iff (b := 4) (by omega) (by decide)).mp z35
          exact hQ _ (by rw [y]; exact lt_251)
      · refine bp_ldc2 (q := 30) 13 rfl rfl wd1535 ?_
        refine bp_goto (tgt := 70) 14 rfl (by decide) ?_
        refine bp_lret 31 rfl rfl  ⟨_, rfl, ?_⟩
        have y : j = 3 := (nI_eq_iff (b := 3) (by omega) (by decide)).mp z24
        exact hQ _ (by rw [y]; exact lt_249)
    · refine bp_ldc2 (q := 19) 8 rfl rfl wd1534 ?_
      refine bp_goto (tgt := 70) 9 rfl (by decide) ?_
      refine bp_lret 31 rfl rfl  ⟨_, rfl, ?_⟩
      have y : j = 2 := (nI_eq_iff (b := 2) (by omega) (by decide)).mp z13
      exact hQ _ (by rw [y]; exact lt_247)
  · refine bp_ldc2 (q := 8) 3 rfl rfl wd1533 ?_
    refine bp_goto (tgt := 70) 4 rfl (by decide) ?_
    refine bp_lret 31 rfl rfl  ⟨_, rfl, ?_⟩
    have y : j = 1 := (nI_eq_iff (b := 1) (by omega) (by decide)).mp z2
    exact hQ _ (by rw [y]; exact lt_245)
set_option maxRecDepth 100000 in
set_option maxHeartbeats 4000000 in
theorem lp_Mo_tin {p : Nat} (okp : okP L ps) (hp : p < ps.length) : ∀ (m k : Nat) (h : bp_H) (ys : List Nat), m + k = L.length → MoX M h0 h tw i fa fm tl lk al ind sk dp lv fr en nf nn dg nu kd pn pe T ys L ps L1 p1 nt tb fd → ys.length + (mrun twS twL twE L ps p m k).length + 4 ≤ 18160 → (∀ h' (v2 : Option Value), MoX M h0 h' tw i fa fm tl lk al ind sk dp lv fr en nf nn dg nu kd pn pe T (ys ++ mrun twS twL twE L ps p m k) L ps L1 p1 nt tb fd → bp_A l G H0 (3, 67, false, false) M_Mo_writeTagged h' c s 194 [some (.ref (M 0)), some (.int (nI p)), v2] [] (fun o h' c' s' => ∃ v, o = .returned v ∧ Q v h' c' s')) → bp_A l G H0 (3, 67, false, false) M_Mo_writeTagged h c s 122 [some (.ref (M 0)), some (.int (nI p)), some (.int (nI k))] [] (fun o h' c' s' => ∃ v, o = .returned v ∧ Q v h' c' s') := by
  have hL4 := okp.1
  have h16 := okp.2.1
  intro m
  induction m with
  | zero =>
    intro k h ys hk_ hB0 hm hK
    refine bp_iload_n (q := 123) 67 rfl rfl rfl rfl ?_
    refine bp_aload_n (q := 124) 68 rfl rfl rfl rfl ?_
    refine bp_getR (x := M 5) (q := 127) (ci := 9) (j := 5) 69 rfl rfl fl_Mo_17_9 hB0.kb rfl hB0.r5 ?_
    refine bp_iconst (v := 0) (q := 128) 70 rfl rfl (by decide) ?_
    refine bp_iald (q := 129) 71 rfl rfl hB0.k5 (by rw [hB0.l5]; exact vp_in_nI (n := 0) (by decide) (by decide)) ?_
    rw [show bp_I _ (M 5) ((0 : Int32).toNatClampNeg) = nI L.length from hB0.m0]
    refine bp_icmp_ge (q := 132) (tgt := 194) 72 rfl rfl (by decide) (fun z129 => ?_) (fun z129 => ?_)
    · exact hK h _ (by rw [mrun, List.append_nil]; exact hB0)
    · exact absurd (nI_le (by omega) (by omega)) z129
  | succ m ih =>
    intro k h ys hk_ hB0 hm hK
    have hk : k < L.length := by omega
    have hlk := (okp.2.2.2 k hk).2
    have hcd := (okp.2.2.2 k hk).1
    have l1 : ys.length ≤ 18156 := by omega
    have hm2 := hm
    rw [mrun, List.length_append] at hm2
    have l2 : pIx ps k = p → ys.length + (if fR L ps k then twS ((lkL L).getD k 0) else []).length + (twL ((cdL L).getD k 0)).length + (if lR L ps k then twE ((lkL L).getD k 0) else []).length + 4 ≤ 18160 := fun q => by
      unfold mk1 at hm2
      rw [if_pos q] at hm2
      simp only [List.length_append] at hm2
      omega
    refine bp_iload_n (q := 123) 67 rfl rfl rfl rfl ?_
    refine bp_aload_n (q := 124) 68 rfl rfl rfl rfl ?_
    refine bp_getR (x := M 5) (q := 127) (ci := 9) (j := 5) 69 rfl rfl fl_Mo_17_9 hB0.kb rfl hB0.r5 ?_
    refine bp_iconst (v := 0) (q := 128) 70 rfl rfl (by decide) ?_
    refine bp_iald (q := 129) 71 rfl rfl hB0.k5 (by rw [hB0.l5]; exact vp_in_nI (n := 0) (by decide) (by decide)) ?_
    rw [show bp_I _ (M 5) ((0 : Int32).toNatClampNeg) = nI L.length from hB0.m0]
    refine bp_icmp_ge (q := 132) (tgt := 194) 72 rfl rfl (by decide) (fun z129 => ?_) (fun z129 => ?_)
    · exact absurd z129 (nI_ge hk (by omega))
    · refine bp_aload_n (q := 133) 73 rfl rfl rfl rfl ?_
      refine bp_getR (x := M 9) (q := 136) (ci := 9) (j := 9) 74 rfl rfl fl_Mo_30_9 hB0.kb rfl hB0.r9 ?_
      refine bp_iload_n (q := 137) 75 rfl rfl rfl rfl ?_
      refine bp_iald (q := 138) 76 rfl rfl hB0.k9 (by rw [hB0.l9]; exact vp_in_nI (by omega) (by decide)) ?_
      rw [nI_clamp (by omega), hB0.q0 hk]
      refine bp_iload_n (q := 139) 77 rfl rfl rfl rfl ?_
      refine bp_icmp_ne (q := 142) (tgt := 188) 78 rfl rfl (by decide) (fun z139 => ?_) (fun z139 => ?_)
      · refine bp_iinc (v := nI (k + 1)) (q := 191) 105 rfl rfl rfl (nI_1 k) (by decide) (bp_up2 rfl) ?_
        refine bp_goto (tgt := 122) 106 rfl (by decide) ?_
        have yp : ¬ pIx ps k = p := fun q => z139 (by rw [q])
        have e_ : ys = ys ++ mk1 twS twL twE L ps p k := by simp [mk1, yp]
        rw [e_] at hB0
        refine ih (k + 1) _ _ (by omega) hB0 (by rw [List.length_append]; have := hm; rw [mrun, List.length_append] at this; omega) (fun h9 v9 hB9 => hK h9 v9 ?_)
        rw [mrun, ← List.append_assoc]
        exact hB9
      · refine bp_aload_n (q := 143) 79 rfl rfl rfl rfl ?_
        refine bp_iload_n (q := 144) 80 rfl rfl rfl rfl ?_
        refine bp_callV (q := 147) (ci := 9) 81 rfl rfl cw_Mo_firstOfRun lk_Mo_340 rfl hB0.kb wd1663 wd78 rfl rfl (Nat.le_of_ble_eq_true rfl) ⟨Nat.le_of_ble_eq_true rfl, Nat.le_of_ble_eq_true rfl⟩ (s_Mo_firstOfRun (ro := false) hB0 okp hk ?_)
        refine bp_if_eq (q := 150) (tgt := 160) 82 rfl rfl (by decide) (fun z147 => ?_) (fun z147 => ?_)
        · refine bp_aload_n (q := 161) 89 rfl rfl rfl rfl ?_
          refine bp_aload_n (q := 162) 90 rfl rfl rfl rfl ?_
          refine bp_getR (x := M 7) (q := 165) (ci := 9) (j := 7) 91 rfl rfl fl_Mo_24_9 hB0.kb rfl hB0.r7 ?_
          refine bp_iload_n (q := 166) 92 rfl rfl rfl rfl ?_
          refine bp_iald (q := 167) 93 rfl rfl hB0.k7 (by rw [hB0.l7]; exact vp_in_nI (by omega) (by decide)) ?_
          rw [nI_clamp (by omega), hB0.c0 hk]
          have yp : pIx ps k = p := (nI_eq_iff (by have := pIx_le ps k; omega) (by omega)).mp z139
          have l3 := l2 yp
          rw [if_neg (by rw [bI0.mp z147]; decide)] at l3
          refine bp_callV (q := 170) (ci := 9) 94 rfl rfl cw_Mo_putTaggedLetter lk_Mo_405 rfl hB0.kb wd1701 wd83 rfl rfl (Nat.le_of_ble_eq_true rfl) ⟨Nat.le_of_ble_eq_true rfl, Nat.le_of_ble_eq_true rfl⟩ (s_Mo_putTaggedLetter (u := (cdL L).getD k 0) hB0 hcd.1 hcd.2 (by (try simp only [List.length_append]); (try simp only [List.length_nil] at l3); omega) (fun h1 hB1 => ?_))
          refine bp_aload_n (q := 171) 95 rfl rfl rfl rfl ?_
          refine bp_iload_n (q := 172) 96 rfl rfl rfl rfl ?_
          refine bp_callV (q := 175) (ci := 9) 97 rfl rfl cw_Mo_lastOfRun lk_Mo_391 rfl hB1.kb wd1685 wd81 rfl rfl (Nat.le_of_ble_eq_true rfl) ⟨Nat.le_of_ble_eq_true rfl, Nat.le_of_ble_eq_true rfl⟩ (s_Mo_lastOfRun (ro := false) hB1 okp hk ?_)
          refine bp_if_eq (q := 178) (tgt := 188) 98 rfl rfl (by decide) (fun z175 => ?_) (fun z175 => ?_)
          · refine bp_iinc (v := nI (k + 1)) (q := 191) 105 rfl rfl rfl (nI_1 k) (by decide) (bp_up2 rfl) ?_
            refine bp_goto (tgt := 122) 106 rfl (by decide) ?_
            have yp : pIx ps k = p := (nI_eq_iff (by have := pIx_le ps k; omega) (by omega)).mp z139
            have yf := bI0.mp z147
            have yl := bI0.mp z175
            have e_ : ys ++ twL ((cdL L).getD k 0) = ys ++ mk1 twS twL twE L ps p k := by simp [mk1, yp, yf, yl]
            rw [e_] at hB1
            refine ih (k + 1) _ _ (by omega) hB1 (by rw [List.length_append]; have := hm; rw [mrun, List.length_append] at this; omega) (fun h9 v9 hB9 => hK h9 v9 ?_)
            rw [mrun, ← List.append_assoc]
            exact hB9
          · refine bp_aload_n (q := 179) 99 rfl rfl rfl rfl ?_
            refine bp_aload_n (q := 180) 100 rfl rfl rfl rfl ?_
            refine bp_getR (x := M 8) (q := 183) (ci := 9) (j := 8) 101 rfl rfl fl_Mo_27_9 hB1.kb rfl hB1.r8 ?_
            refine bp_iload_n (q := 184) 102 rfl rfl rfl rfl ?_
            refine bp_iald (q := 185) 103 rfl rfl hB1.k8 (by rw [hB1.l8]; exact vp_in_nI (by omega) (by decide)) ?_
            rw [nI_clamp (by omega), hB1.g0 hk]
            refine bp_callV (q := 188) (ci := 9) 104 rfl rfl cw_Mo_putEnds lk_Mo_408 rfl hB1.kb wd1705 wd84 rfl rfl (Nat.le_of_ble_eq_true rfl) ⟨Nat.le_of_ble_eq_true rfl, Nat.le_of_ble_eq_true rfl⟩ (s_Mo_putEnds (k := (lkL L).getD k 0) hB1 hlk (by rw [if_pos (bI1 z175)] at l3; (try simp only [List.length_append]); (try simp only [List.length_nil] at l3); omega) (fun h2 hB2 => ?_))
            refine bp_iinc (v := nI (k + 1)) (q := 191) 105 rfl rfl rfl (nI_1 k) (by decide) (bp_up2 rfl) ?_
            refine bp_goto (tgt := 122) 106 rfl (by decide) ?_
            have yp : pIx ps k = p := (nI_eq_iff (by have := pIx_le ps k; omega) (by omega)).mp z139
            have yf := bI0.mp z147
            have yl := bI1 z175
            have e_ : ys ++ twL ((cdL L).getD k 0) ++ twE ((lkL L).getD k 0) = ys ++ mk1 twS twL twE L ps p k := by simp [mk1, yp, yf, yl]
            rw [e_] at hB2
            refine ih (k + 1) _ _ (by omega) hB2 (by rw [List.length_append]; have := hm; rw [mrun, List.length_append] at this; omega) (fun h9 v9 hB9 => hK h9 v9 ?_)
            rw [mrun, ← List.append_assoc]
            exact hB9
        · refine bp_aload_n (q := 151) 83 rfl rfl rfl rfl ?_
          refine bp_aload_n (q := 152) 84 rfl rfl rfl rfl ?_
          refine bp_getR (x := M 8) (q := 155) (ci := 9) (j := 8) 85 rfl rfl fl_Mo_27_9 hB0.kb rfl hB0.r8 ?_
          refine bp_iload_n (q := 156) 86 rfl rfl rfl rfl ?_
          refine bp_iald (q := 157) 87 rfl rfl hB0.k8 (by rw [hB0.l8]; exact vp_in_nI (by omega) (by decide)) ?_
          rw [nI_clamp (by omega), hB0.g0 hk]
          refine bp_callV (q := 160) (ci := 9) 88 rfl rfl cw_Mo_putTags lk_Mo_402 rfl hB0.kb wd1697 wd82 rfl rfl (Nat.le_of_ble_eq_true rfl) ⟨Nat.le_of_ble_eq_true rfl, Nat.le_of_ble_eq_true rfl⟩ (s_Mo_putTags (k := (lkL L).getD k 0) hB0 hlk (by omega) (fun h1 hB1 => ?_))
          refine bp_aload_n (q := 161) 89 rfl rfl rfl rfl ?_
          refine bp_aload_n (q := 162) 90 rfl rfl rfl rfl ?_
          refine bp_getR (x := M 7) (q := 165) (ci := 9) (j := 7) 91 rfl rfl fl_Mo_24_9 hB1.kb rfl hB1.r7 ?_
          refine bp_iload_n (q := 166) 92 rfl rfl rfl rfl ?_
          refine bp_iald (q := 167) 93 rfl rfl hB1.k7 (by rw [hB1.l7]; exact vp_in_nI (by omega) (by decide)) ?_
          rw [nI_clamp (by omega), hB1.c0 hk]
          have yp : pIx ps k = p := (nI_eq_iff (by have := pIx_le ps k; omega) (by omega)).mp z139
          have l3 := l2 yp
          rw [if_pos (bI1 z147)] at l3
          refine bp_callV (q := 170) (ci := 9) 94 rfl rfl cw_Mo_putTaggedLetter lk_Mo_405 rfl hB1.kb wd1701 wd83 rfl rfl (Nat.le_of_ble_eq_true rfl) ⟨Nat.le_of_ble_eq_true rfl, Nat.le_of_ble_eq_true rfl⟩ (s_Mo_putTaggedLetter (u := (cdL L).getD k 0) hB1 hcd.1 hcd.2 (by (try simp only [List.length_append]); (try simp only [List.length_nil] at l3); omega) (fun h2 hB2 => ?_))
          refine bp_aload_n (q := 171) 95 rfl rfl rfl rfl ?_
          refine bp_iload_n (q := 172) 96 rfl rfl rfl rfl ?_
          refine bp_callV (q := 175) (ci := 9) 97 rfl rfl cw_Mo_lastOfRun lk_Mo_391 rfl hB2.kb wd1685 wd81 rfl rfl (Nat.le_of_ble_eq_true rfl) ⟨Nat.le_of_ble_eq_true rfl, Nat.le_of_ble_eq_true rfl⟩ (s_Mo_lastOfRun (ro := false) hB2 okp hk ?_)
          refine bp_if_eq (q := 178) (tgt := 188) 98 rfl rfl (by decide) (fun z175 => ?_) (fun z175 => ?_)
          · refine bp_iinc (v := nI (k + 1)) (q := 191) 105 rfl rfl rfl (nI_1 k) (by decide) (bp_up2 rfl) ?_
            refine bp_goto (tgt := 122) 106 rfl (by decide) ?_
            have yp : pIx ps k = p := (nI_eq_iff (by have := pIx_le ps k; omega) (by omega)).mp z139
            have yf := bI1 z147
            have yl := bI0.mp z175
            have e_ : ys ++ twS ((lkL L).getD k 0) ++ twL ((cdL L).getD k 0) = ys ++ mk1 twS twL twE L ps p k := by simp [mk1, yp, yf, yl]
            rw [e_] at hB2
            refine ih (k + 1) _ _ (by omega) hB2 (by rw [List.length_append]; have := hm; rw [mrun, List.length_append] at this; omega) (fun h9 v9 hB9 => hK h9 v9 ?_)
            rw [mrun, ← List.append_assoc]
            exact hB9
          · refine bp_aload_n (q := 179) 99 rfl rfl rfl rfl ?_
            refine bp_aload_n (q := 180) 100 rfl rfl rfl rfl ?_
            refine bp_getR (x := M 8) (q := 183) (ci := 9) (j := 8) 101 rfl rfl fl_Mo_27_9 hB2.kb rfl hB2.r8 ?_
            refine bp_iload_n (q := 184) 102 rfl rfl rfl rfl ?_
            refine bp_iald (q := 185) 103 rfl rfl hB2.k8 (by rw [hB2.l8]; exact vp_in_nI (by omega) (by decide)) ?_
            rw [nI_clamp (by omega), hB2.g0 hk]
            refine bp_callV (q := 188) (ci := 9) 104 rfl rfl cw_Mo_putEnds lk_Mo_408 rfl hB2.kb wd1705 wd84 rfl rfl (Nat.le_of_ble_eq_true rfl) ⟨Nat.le_of_ble_eq_true rfl, Nat.le_of_ble_eq_true rfl⟩ (s_Mo_putEnds (k := (lkL L).getD k 0) hB2 hlk (by rw [if_pos (bI1 z175)] at l3; (try simp only [List.length_append]); (try simp only [List.length_nil] at l3); omega) (fun h3 hB3 => ?_))
            refine bp_iinc (v := nI (k + 1)) (q := 191) 105 rfl rfl rfl (nI_1 k) (by decide) (bp_up2 rfl) ?_
            refine bp_goto (tgt := 122) 106 rfl (by decide) ?_
            have yp : pIx ps k = p := (nI_eq_iff (by have := pIx_le ps k; omega) (by omega)).mp z139
            have yf := bI1 z147
            have yl := bI1 z175
            have e_ : ys ++ twS ((lkL L).getD k 0) ++ twL ((cdL L).getD k 0) ++ twE ((lkL L).getD k 0) = ys ++ mk1 twS twL twE L ps p k := by simp [mk1, yp, yf, yl]
            rw [e_] at hB3
            refine ih (k + 1) _ _ (by omega) hB3 (by rw [List.length_append]; have := hm; rw [mrun, List.length_append] at this; omega) (fun h9 v9 hB9 => hK h9 v9 ?_)
            rw [mrun, ← List.append_assoc]
            exact hB9
end MO5
