/-! the reference's tagged reading, whole -/
def TGo (T : List Nat) (R : TS) (i k : Nat) (n : Int32) (e rs : Nat) (L1 : List (Nat × Nat)) (p1 : List (Nat × Nat × Nat)) : Prop := LAr T i k n e ∧ okU T (i, 0, -1, false, 0, rs, false, false, 0, 12, 0, L1, p1) ∧ TT T (i, 0, -1, false, 0, rs, false, false, 0, 12, 0, L1, p1) = R
/-- between paragraphs only a head may stand -/
theorem head_bad {T : List Nat} {i k e rs : Nat} {n : Int32} {L1 : List (Nat × Nat)} {p1 : List (Nat × Nat × Nat)} (hC : okC T) (h : LAr T i k n e) (hk0 : ¬ k = 0) (hk : ¬ k = 12) : tB (tThing T (i, 0, -1, false, 0, rs, false, false, 0, 12, 0, L1, p1)) (-9) i := by
  have hle := h.le
  by_cases c1 : k ≤ 5
  · exact (h.run (by omega) c1).no (Or.inl rfl)
  by_cases c2 : k ≤ 10
  · rw [(h.tagE (by omega) c2).2.2, if_neg (fun z => z.1 rfl), tTg_u, if_neg (by rw [Nat.zero_div]; decide)]
    exact ⟨rfl, rfl⟩
  by_cases c3 : k = 11
  · subst c3
    rw [h.parE.2.2, if_neg (fun z => z.1 rfl), tPe_u, if_pos (Or.inl rfl)]
    exact ⟨rfl, rfl⟩
  by_cases c5 : k = 13
  · subst c5
    exact (h.letter hC).1 (Or.inl rfl)
  · have : k = 14 := by omega
    subst this
    exact h.none_ hC
section MO31
variable {l : Launch} {G : bp_G} {H0 : Heap} {M : Nat → Nat} {h0 h : bp_H} {tw : Int32} {i : Nat} {fa : Int32} {fm : Int32} {tl : Int32} {lk : Nat} {al : Nat} {ind : Nat} {sk : Nat} {dp : Nat} {lv : Nat} {fr : Bool} {en : Nat} {nf : Nat} {nn : Nat} {dg : Nat} {nu : Int32} {kd : Nat} {pn : Int32} {pe : Nat} {T : List Nat} {xs : List Nat} {L : List (Nat × Nat)} {ps : List (Nat × Nat × Nat)} {L1 : List (Nat × Nat)} {p1 : List (Nat × Nat × Nat)} {nt : List (Nat → Nat)} {tb : List Nat} {fd : List Nat} {c s : Nat} {Q : Option Value → bp_H → Nat → Nat → Prop} {R : TS} {x y : Nat}
theorem rt_f (hQ : ∀ h', MoS M h0 h' tw (tMe R) T xs (if tFa R = 0 then tL R else L) (if tFa R = 0 then tPs R else ps) → Q (some (.int (if tFa R = 0 then nI (tPs R).length else tFa R))) h' c s) (hf : ¬ fa = 0) (h1 : tFa R = fa) (h2 : tMe R = fm) (hB : MoX M h0 h tw i fa fm fm lk al ind sk dp lv fr en nf nn dg nu kd pn pe T xs L ps L1 p1 nt tb fd) : Q (some (.int fa)) h c s := by
  have q := hQ h
  rw [h1, h2, if_neg hf, if_neg hf, if_neg hf] at q
  exact q (MoS.of hB)
theorem rt_k (hQ : ∀ h', MoS M h0 h' tw (tMe R) T xs (if tFa R = 0 then tL R else L) (if tFa R = 0 then tPs R else ps) → Q (some (.int (if tFa R = 0 then nI (tPs R).length else tFa R))) h' c s) (h0' : tFa R = 0) (h2 : tMe R = -1) (h3 : tL R = L1) (h4 : tPs R = p1) (hB : MoX M h0 h tw i fa fm (-1) lk al ind sk dp lv fr en nf nn dg nu kd pn pe T xs L1 p1 L1 p1 nt tb fd) : Q (some (.int (nI p1.length))) h c s := by
  have q := hQ h
  rw [h0', h2, if_pos rfl, if_pos rfl, if_pos rfl, h3, h4] at q
  exact q (MoS.of hB)
set_option maxRecDepth 100000 in
set_option maxHeartbeats 4000000 in
theorem lp_Mo_tgF {lo1 lo2 : Option Value} (hB0 : MoX M h0 h tw i fa fm tl lk al ind sk dp lv fr en nf nn dg nu kd pn pe T xs L ps L1 p1 nt tb fd) (hQ : ∀ h', MoS M h0 h' tw (tMe R) T xs (if tFa R = 0 then tL R else L) (if tFa R = 0 then tPs R else ps) → Q (some (.int (if tFa R = 0 then nI (tPs R).length else tFa R))) h' c s) (hf : ¬ fa = 0) (hr1 : tFa R = fa) (hr2 : tMe R = fm) : bp_A l G H0 (8, 187, false, false) M_Mo_readTagged h c s 8 [some (.ref (M 0)), lo1, lo2] [] (fun o h' c' s' => ∃ v, o = .returned v ∧ Q v h' c' s') := by
  refine bp_aload_n (q := 9) 4 rfl rfl rfl rfl ?_
  refine bp_getI (q := 12) (ci := 9) (j := 13) 5 rfl rfl fl_Mo_69_9 hB0.kb rfl ?_
  rw [hB0.i13]
  refine bp_if_ne (q := 15) (tgt := 141) 6 rfl rfl (by decide) (fun z12 => ?_) (fun z12 => ?_)
  · refine bp_aload_n (q := 142) 72 rfl rfl rfl rfl ?_
    refine bp_callV (q := 145) (ci := 9) 73 rfl rfl cw_Mo_finished lk_Mo_136 rfl hB0.kb wd1564 wd62 rfl rfl (Nat.le_of_ble_eq_true rfl) ⟨Nat.le_of_ble_eq_true rfl, Nat.le_of_ble_eq_true rfl⟩ (s_Mo_finished1 hB0 hf (fun h1 hB1 => ?_))
    exact bp_iret 74 rfl rfl rfl ⟨_, rfl, rt_f hQ hf hr1 hr2 hB1⟩
  · exact absurd z12 hf
set_option maxRecDepth 100000 in
set_option maxHeartbeats 4000000 in
theorem lp_Mo_tgG {lo1 lo2 : Option Value} (hB0 : MoX M h0 h tw i fa fm tl lk al ind sk dp lv fr en nf nn dg nu kd pn pe T xs L ps L1 p1 nt tb fd) (hQ : ∀ h', MoS M h0 h' tw (tMe R) T xs (if tFa R = 0 then tL R else L) (if tFa R = 0 then tPs R else ps) → Q (some (.int (if tFa R = 0 then nI (tPs R).length else tFa R))) h' c s) (hf : ¬ fa = 0) (hr1 : tFa R = fa) (hr2 : tMe R = fm) : bp_A l G H0 (8, 187, false, false) M_Mo_readTagged h c s 83 [some (.ref (M 0)), lo1, lo2] [] (fun o h' c' s' => ∃ v, o = .returned v ∧ Q v h' c' s') := by
  refine bp_aload_n (q := 84) 43 rfl rfl rfl rfl ?_
  refine bp_getI (q := 87) (ci := 9) (j := 13) 44 rfl rfl fl_Mo_69_9 hB0.kb rfl ?_
  rw [hB0.i13]
  refine bp_if_ne (q := 90) (tgt := 106) 45 rfl rfl (by decide) (fun z87 => ?_) (fun z87 => ?_)
  · refine bp_aload_n (q := 107) 53 rfl rfl rfl rfl ?_
    refine bp_getI (q := 110) (ci := 9) (j := 13) 54 rfl rfl fl_Mo_69_9 hB0.kb rfl ?_
    rw [hB0.i13]
    refine bp_if_ne (q := 113) (tgt := 138) 55 rfl rfl (by decide) (fun z110 => ?_) (fun z110 => ?_)
    · refine bp_goto (tgt := 8) 71 rfl (by decide) ?_
      exact lp_Mo_tgF hB0 hQ hf hr1 hr2
    · exact absurd z110 hf
  · exact absurd z87 hf
set_option maxRecDepth 100000 in
set_option maxHeartbeats 4000000 in
theorem lp_Mo_tg2 {v1 : Int32} {i0 : Nat} (hC : okC T) (hQ : ∀ h', MoS M h0 h' tw (tMe R) T xs (if tFa R = 0 then tL R else L) (if tFa R = 0 then tPs R else ps) → Q (some (.int (if tFa R = 0 then nI (tPs R).length else tFa R))) h' c s) (hx : x < 3) (hy : y < 10) (hp16 : p1.length < 16) (hO : ∀ (i k : Nat) (n : Int32) (e rs : Nat) (L1 : List (Nat × Nat)) (p1 : List (Nat × Nat × Nat)) (lo1 lo2 : Option Value) (h : bp_H), i0 < i → MoX M h0 h tw i 0 fm tl lk al ind sk dp lv fr en nf nn dg nu k n e T xs L ps L1 p1 nt tb fd → TGo T R i k n e rs L1 p1 → bp_A l G H0 (8, 187, false, false) M_Mo_readTagged h c s 8 [some (.ref (M 0)), lo1, lo2] [] (fun o h' c' s' => ∃ v, o = .returned v ∧ Q v h' c' s')) : ∀ (m : Nat) (i k : Nat) (n : Int32) (e rs : Nat) (L1 : List (Nat × Nat)) (h : bp_H), T.length ≤ m + i → MoX M h0 h tw i 0 fm tl lk al ind sk dp lv fr en nf nn dg nu k n e T xs L ps L1 p1 nt tb fd → TGd T R i k n e 0 rs false false 0 12 0 L1 p1 x y → (k = 13 → ¬ llk L1 (p1 ++ [(x, y, L1.length)]) = some 768) → i0 < i → bp_A l G H0 (8, 187, false, false) M_Mo_readTagged h c s 83 [some (.ref (M 0)), some (.int v1), some (.int (nI (10 * x + y)))] [] (fun o h' c' s' => ∃ v, o = .returned v ∧ Q v h' c' s') := by
  have hT4 := hC.1.1
  intro m
  induction m with
  | zero =>
    intro i k n e rs L1 h hm hB0 hG hinv hii
    have hk14 := hG.1.le
    refine bp_aload_n (q := 84) 43 rfl rfl rfl rfl ?_
    refine bp_getI (q := 87) (ci := 9) (j := 13) 44 rfl rfl fl_Mo_69_9 hB0.kb rfl ?_
    rw [hB0.i13]
    refine bp_if_ne (q := 90) (tgt := 106) 45 rfl rfl (by decide) (fun z => absurd z (by decide)) (fun z87 => ?_)
    refine bp_aload_n (q := 91) 46 rfl rfl rfl rfl ?_
    refine bp_getI (q := 94) (ci := 9) (j := 31) 47 rfl rfl fl_Mo_267_9 hB0.kb rfl ?_
    rw [hB0.i31]
    refine bp_bipush (v := 11) (q := 96) 48 rfl rfl (by decide) ?_
    refine bp_icmp_eq (q := 99) (tgt := 106) 49 rfl rfl (by decide) (fun z96 => ?_) (fun z96 => ?_)
    · have hk11 : k = 11 := (nI_eq_iff (b := 11) (by omega) (by decide)).mp z96
      have := hG.1.in (by omega)
      omega
    · refine bp_aload_n (q := 100) 50 rfl rfl rfl rfl ?_
      have hk11 : ¬ k = 11 := fun z => z96 (by rw [z]; rfl)
      refine bp_callV (q := 103) (ci := 9) 51 rfl rfl cw_Mo_readRun lk_Mo_326 rfl hB0.kb wd1619 wd71 rfl rfl (Nat.le_of_ble_eq_true rfl) ⟨Nat.le_of_ble_eq_true rfl, Nat.le_of_ble_eq_true rfl⟩ (s_Mo_readRun (x := x) (y := y) hB0 hC hG hk11 hinv (fun h1 i1 k1 n1 e1 rs1 L9 hB1 hG1 hinv1 hi1 => ?_) (fun h1 hbd => ?_))
      · refine bp_goto (tgt := 83) 52 rfl (by decide) ?_
        exact absurd hG1.2.1.1 (by show ¬ i1 ≤ T.length; omega)
      · obtain ⟨fa9, fm9, i9, kd9, pn9, pe9, L9, p9, hf, hB1, r1, r2⟩ := hbd
        refine bp_goto (tgt := 83) 52 rfl (by decide) ?_
        exact lp_Mo_tgG hB1 hQ hf r1 r2
  | succ m ih =>
    intro i k n e rs L1 h hm hB0 hG hinv hii
    have hk14 := hG.1.le
    refine bp_aload_n (q := 84) 43 rfl rfl rfl rfl ?_
    refine bp_getI (q := 87) (ci := 9) (j := 13) 44 rfl rfl fl_Mo_69_9 hB0.kb rfl ?_
    rw [hB0.i13]
    refine bp_if_ne (q := 90) (tgt := 106) 45 rfl rfl (by decide) (fun z => absurd z (by decide)) (fun z87 => ?_)
    refine bp_aload_n (q := 91) 46 rfl rfl rfl rfl ?_
    refine bp_getI (q := 94) (ci := 9) (j := 31) 47 rfl rfl fl_Mo_267_9 hB0.kb rfl ?_
    rw [hB0.i31]
    refine bp_bipush (v := 11) (q := 96) 48 rfl rfl (by decide) ?_
    refine bp_icmp_eq (q := 99) (tgt := 106) 49 rfl rfl (by decide) (fun z96 => ?_) (fun z96 => ?_)
    · refine bp_aload_n (q := 107) 53 rfl rfl rfl rfl ?_
      refine bp_getI (q := 110) (ci := 9) (j := 13) 54 rfl rfl fl_Mo_69_9 hB0.kb rfl ?_
      rw [hB0.i13]
      refine bp_if_ne (q := 113) (tgt := 138) 55 rfl rfl (by decide) (fun z => absurd z (by decide)) (fun z110 => ?_)
      refine bp_aload_n (q := 114) 56 rfl rfl rfl rfl ?_
      refine bp_iconst (v := 1) (q := 115) 57 rfl rfl (by decide) ?_
      refine bp_iload_n (q := 116) 58 rfl rfl rfl rfl ?_
      refine bp_bipush (v := 10) (q := 118) 59 rfl rfl (by decide) ?_
      refine bp_idiv (q := 119) 60 rfl rfl (by decide) ?_
      rw [show nI (10 * x + y) / 10 = nI x from by rw [show (10 : Int32) = nI 10 from rfl, nI_div (by omega) (by decide)]; congr 1; omega]
      refine bp_iload_n (q := 120) 61 rfl rfl rfl rfl ?_
      refine bp_bipush (v := 10) (q := 122) 62 rfl rfl (by decide) ?_
      refine bp_irem (q := 123) 63 rfl rfl (by decide) ?_
      rw [show nI (10 * x + y) - nI (10 * x + y) / 10 * 10 = nI y from by rw [show (10 : Int32) = nI 10 from rfl, nI_rem (by omega) (by decide)]; congr 1; omega]
      have hk11 : k = 11 := (nI_eq_iff (b := 11) (by omega) (by decide)).mp z96
      subst hk11
      obtain ⟨q1, q2, q3⟩ := hG.1.parE (fa := 0) (me := -1) (ip := true) (ot := 0) (rs := rs) (hl := false) (ed := false) (sy := 0) (sz := 12) (co := 0) (L := L1) (ps := p1 ++ [(x, y, L1.length)])
      have hi := hG.1.in (by decide)
      rw [if_neg (fun z => z.1 rfl), tPe_u, if_neg (by rintro (z | z); cases z; exact z rfl), ← q2] at q3
      have s1 := TT_step hC hG.2.1 rfl hi
      have m1 := okU_thing hC.1 hC.2 hG.2.1 rfl hi
      rw [q3] at s1 m1
      rw [hG.2.2] at s1
      have hie : i < e := m1.2.resolve_right (fun z => z rfl)
      have heT : e ≤ T.length := m1.1.1
      refine bp_callV (q := 126) (ci := 9) 64 rfl rfl cw_Mo_endParagraph lk_Mo_132 rfl hB0.kb wd1553 wd60 rfl rfl (Nat.le_of_ble_eq_true rfl) ⟨Nat.le_of_ble_eq_true rfl, Nat.le_of_ble_eq_true rfl⟩ (s_Mo_endParagraph1 (x := x) (y := y) (e := L1.length) hB0 hp16 (Nat.le_refl _) (fun h1 hB1 => ?_))
      refine bp_aload_n (q := 127) 65 rfl rfl rfl rfl ?_
      refine bp_aload_n (q := 128) 66 rfl rfl rfl rfl ?_
      refine bp_getI (q := 131) (ci := 9) (j := 33) 67 rfl rfl fl_Mo_270_9 hB1.kb rfl ?_
      rw [hB1.i33]
      refine bp_putI (q := 134) (ci := 9) (j := 12) 68 rfl rfl fl_Mo_90_9 cl9 hB1.kb (fun r hr => by cases hr; rfl) (by decide) rfl rfl ?_
      refine bp_nx (X := fun h2 => MoX M h0 h2 tw e 0 fm tl lk al ind sk dp lv fr en nf nn dg nu 11 n e T xs L ps L1 ((p1 ++ [(x, y, L1.length)])) nt tb fd) (hB1.s12 rfl) (fun h2 hB2 => ?_)
      refine bp_aload_n (q := 135) 69 rfl rfl rfl rfl ?_
      refine bp_callV (q := 138) (ci := 9) 70 rfl rfl cw_Mo_lookAhead lk_Mo_320 rfl hB2.kb wd1576 wd64 rfl rfl (Nat.le_of_ble_eq_true rfl) ⟨Nat.le_of_ble_eq_true rfl, Nat.le_of_ble_eq_true rfl⟩ (s_Mo_lookAhead hB2 hC.1 (by omega) (fun h3 k' n' e' hL' hB3 => ?_))
      refine bp_goto (tgt := 8) 71 rfl (by decide) ?_
      exact hO e k' n' e' rs L1 (p1 ++ [(x, y, L1.length)]) _ _ _ (by omega) hB3 ⟨hL', m1.1, s1.symm⟩
    · refine bp_aload_n (q := 100) 50 rfl rfl rfl rfl ?_
      have hk11 : ¬ k = 11 := fun z => z96 (by rw [z]; rfl)
      refine bp_callV (q := 103) (ci := 9) 51 rfl rfl cw_Mo_readRun lk_Mo_326 rfl hB0.kb wd1619 wd71 rfl rfl (Nat.le_of_ble_eq_true rfl) ⟨Nat.le_of_ble_eq_true rfl, Nat.le_of_ble_eq_true rfl⟩ (s_Mo_readRun (x := x) (y := y) hB0 hC hG hk11 hinv (fun h1 i1 k1 n1 e1 rs1 L9 hB1 hG1 hinv1 hi1 => ?_) (fun h1 hbd => ?_))
      · refine bp_goto (tgt := 83) 52 rfl (by decide) ?_
        exact ih i1 k1 n1 e1 rs1 L9 _ (by omega) hB1 hG1 hinv1 (by omega)
      · obtain ⟨fa9, fm9, i9, kd9, pn9, pe9, L9, p9, hf, hB1, r1, r2⟩ := hbd
        refine bp_goto (tgt := 83) 52 rfl (by decide) ?_
        exact lp_Mo_tgG hB1 hQ hf r1 r2
theorem hdK_le {T : List Nat} {i : Nat} : hdK T i ≤ i + 5 := by
  have b : ∀ k, bn1 k ≤ 1 := fun k => by unfold bn1; split <;> decide
  unfold hdK
  split
  · have := b (alA T (i + 3))
    have := b (inA T (i + 3 + bn1 (alA T (i + 3))))
    omega
  · omega
theorem llk_z {T : List Nat} {i rs x y : Nat} {L1 : List (Nat × Nat)} {p1 : List (Nat × Nat × Nat)} (h : okU T (i, 0, -1, false, 0, rs, false, false, 0, 12, 0, L1, p1)) : ¬ llk L1 (p1 ++ [(x, y, L1.length)]) = some 768 := by
  have z : pst p1 p1.length = L1.length := h.2.2.2.2.2.2.1
  rw [llk_u, if_neg (by omega)]; intro q; cases q
set_option maxRecDepth 100000 in
set_option maxHeartbeats 4000000 in
theorem lp_Mo_tg (hQ : ∀ h', MoS M h0 h' tw (tMe R) T xs (if tFa R = 0 then tL R else L) (if tFa R = 0 then tPs R else ps) → Q (some (.int (if tFa R = 0 then nI (tPs R).length else tFa R))) h' c s) (hC : okC T) : ∀ (m : Nat) (i k : Nat) (n : Int32) (e rs : Nat) (L1 : List (Nat × Nat)) (p1 : List (Nat × Nat × Nat)) (lo1 lo2 : Option Value) (h : bp_H), T.length ≤ m + i → MoX M h0 h tw i 0 fm tl lk al ind sk dp lv fr en nf nn dg nu k n e T xs L ps L1 p1 nt tb fd → TGo T R i k n e rs L1 p1 → bp_A l G H0 (8, 187, false, false) M_Mo_readTagged h c s 8 [some (.ref (M 0)), lo1, lo2] [] (fun o h' c' s' => ∃ v, o = .returned v ∧ Q v h' c' s') := by
  have hT4 := hC.1.1
  intro m
  induction m with
  | zero =>
    intro i k n e rs L1 p1 lo1 lo2 h hm hB0 hG
    have hk14 := hG.1.le
    refine bp_aload_n (q := 9) 4 rfl rfl rfl rfl ?_
    refine bp_getI (q := 12) (ci := 9) (j := 13) 5 rfl rfl fl_Mo_69_9 hB0.kb rfl ?_
    rw [hB0.i13]
    refine bp_if_ne (q := 15) (tgt := 141) 6 rfl rfl (by decide) (fun z => absurd z (by decide)) (fun z12 => ?_)
    refine bp_aload_n (q := 16) 7 rfl rfl rfl rfl ?_
    refine bp_getI (q := 19) (ci := 9) (j := 31) 8 rfl rfl fl_Mo_267_9 hB0.kb rfl ?_
    rw [hB0.i31]
    refine bp_if_eq (q := 22) (tgt := 141) 9 rfl rfl (by decide) (fun z19 => ?_) (fun z19 => ?_)
    · refine bp_aload_n (q := 142) 72 rfl rfl rfl rfl ?_
      refine bp_callV (q := 145) (ci := 9) 73 rfl rfl cw_Mo_finished lk_Mo_136 rfl hB0.kb wd1564 wd62 rfl rfl (Nat.le_of_ble_eq_true rfl) ⟨Nat.le_of_ble_eq_true rfl, Nat.le_of_ble_eq_true rfl⟩ (s_Mo_finished0 hB0 (fun h1 hB1 => ?_))
      refine bp_iret 74 rfl rfl rfl ⟨_, rfl, ?_⟩
      have hk0 : k = 0 := (nI_eq_iff (b := 0) (by omega) (by decide)).mp z19
      subst hk0
      have eR : R = (i, 0, -1, false, 0, rs, false, false, 0, 12, 0, L1, p1) := by rw [← hG.2.2, TT_fin rfl hG.1.c0, tFin_u, if_neg (by decide)]
      exact rt_k hQ (by rw [eR]; rfl) (by rw [eR]; rfl) (by rw [eR]; rfl) (by rw [eR]; rfl) hB1
    · have := hG.1.in (fun z => z19 (by rw [z]; rfl))
      omega
  | succ m ih =>
    intro i k n e rs L1 p1 lo1 lo2 h hm hB0 hG
    have hk14 := hG.1.le
    have hiT : i ≤ T.length := hG.2.1.1
    refine bp_aload_n (q := 9) 4 rfl rfl rfl rfl ?_
    refine bp_getI (q := 12) (ci := 9) (j := 13) 5 rfl rfl fl_Mo_69_9 hB0.kb rfl ?_
    rw [hB0.i13]
    refine bp_if_ne (q := 15) (tgt := 141) 6 rfl rfl (by decide) (fun z => absurd z (by decide)) (fun z12 => ?_)
    refine bp_aload_n (q := 16) 7 rfl rfl rfl rfl ?_
    refine bp_getI (q := 19) (ci := 9) (j := 31) 8 rfl rfl fl_Mo_267_9 hB0.kb rfl ?_
    rw [hB0.i31]
    refine bp_if_eq (q := 22) (tgt := 141) 9 rfl rfl (by decide) (fun z19 => ?_) (fun z19 => ?_)
    · refine bp_aload_n (q := 142) 72 rfl rfl rfl rfl ?_
      refine bp_callV (q := 145) (ci := 9) 73 rfl rfl cw_Mo_finished lk_Mo_136 rfl hB0.kb wd1564 wd62 rfl rfl (Nat.le_of_ble_eq_true rfl) ⟨Nat.le_of_ble_eq_true rfl, Nat.le_of_ble_eq_true rfl⟩ (s_Mo_finished0 hB0 (fun h1 hB1 => ?_))
      refine bp_iret 74 rfl rfl rfl ⟨_, rfl, ?_⟩
      have hk0 : k = 0 := (nI_eq_iff (b := 0) (by omega) (by decide)).mp z19
      subst hk0
      have eR : R = (i, 0, -1, false, 0, rs, false, false, 0, 12, 0, L1, p1) := by rw [← hG.2.2, TT_fin rfl hG.1.c0, tFin_u, if_neg (by decide)]
      exact rt_k hQ (by rw [eR]; rfl) (by rw [eR]; rfl) (by rw [eR]; rfl) (by rw [eR]; rfl) hB1
    · refine bp_aload_n (q := 23) 10 rfl rfl rfl rfl ?_
      refine bp_getI (q := 26) (ci := 9) (j := 12) 11 rfl rfl fl_Mo_90_9 hB0.kb rfl ?_
      rw [hB0.i12]
      refine bp_istore_n (q := 27) 12 rfl rfl rfl (by decide) (bp_up1 rfl) ?_
      refine bp_aload_n (q := 28) 13 rfl rfl rfl rfl ?_
      refine bp_aload_n (q := 29) 14 rfl rfl rfl rfl ?_
      refine bp_getI (q := 32) (ci := 9) (j := 31) 15 rfl rfl fl_Mo_267_9 hB0.kb rfl ?_
      rw [hB0.i31]
      refine bp_bipush (v := 12) (q := 34) 16 rfl rfl (by decide) ?_
      refine bp_icmp_eq (q := 37) (tgt := 41) 17 rfl rfl (by decide) (fun z34 => ?_) (fun z34 => ?_)
      · refine bp_iconst (v := 0) (q := 42) 20 rfl rfl (by decide) ?_
        refine bp_bipush (v := -9) (q := 44) 21 rfl rfl (by decide) ?_
        refine bp_aload_n (q := 45) 22 rfl rfl rfl rfl ?_
        refine bp_getI (q := 48) (ci := 9) (j := 12) 23 rfl rfl fl_Mo_90_9 hB0.kb rfl ?_
        rw [hB0.i12]
        have hk0 : ¬ k = 0 := fun z => z19 (by rw [z]; rfl)
        have hi := hG.1.in hk0
        refine bp_callV (q := 51) (ci := 9) 24 rfl rfl cw_Mo_failIf lk_Mo_118 rfl hB0.kb wd1449 wd44 rfl rfl (Nat.le_of_ble_eq_true rfl) ⟨Nat.le_of_ble_eq_true rfl, Nat.le_of_ble_eq_true rfl⟩ (s_Mo_failIfN hB0 rfl ?_)
        refine bp_aload_n (q := 52) 25 rfl rfl rfl rfl ?_
        have hk12 : k = 12 := (nI_eq_iff (b := 12) (by omega) (by decide)).mp z34
        subst hk12
        have hx := hdX_lt (T := T) (i := i)
        have hy := hdY_lt (T := T) (i := i)
        obtain ⟨q1, q2, q3⟩ := hG.1.head (fa := 0) (me := -1) (ip := false) (ot := 0) (rs := rs) (hl := false) (ed := false) (sy := 0) (sz := 12) (co := 0) (L := L1) (ps := p1)
        subst q1
        rw [if_neg (by decide)] at q3
        have s1 := TT_step hC hG.2.1 rfl hi
        have m1 := okU_thing hC.1 hC.2 hG.2.1 rfl hi
        rw [q3] at s1 m1
        rw [hG.2.2] at s1
        have hp4 := hB0.2.2.2.2.2.2.1.2.1
        refine bp_callV (q := 55) (ci := 9) 26 rfl rfl cw_Mo_accept lk_Mo_323 rfl hB0.kb wd1615 wd70 rfl rfl (Nat.le_of_ble_eq_true rfl) ⟨Nat.le_of_ble_eq_true rfl, Nat.le_of_ble_eq_true rfl⟩ (s_Mo_accept0 hB0 (nI_pos (by omega)) (fun h1 hB1 => ?_))
        refine bp_istore_n (q := 56) 27 rfl rfl rfl (by decide) (bp_up2 rfl) ?_
        refine bp_aload_n (q := 57) 28 rfl rfl rfl rfl ?_
        refine bp_aload_n (q := 58) 29 rfl rfl rfl rfl ?_
        refine bp_getR (x := M 6) (q := 61) (ci := 9) (j := 6) 30 rfl rfl fl_Mo_21_9 hB1.kb rfl hB1.r6 ?_
        refine bp_iconst (v := 1) (q := 62) 31 rfl rfl (by decide) ?_
        refine bp_iald (q := 63) 32 rfl rfl hB1.k6 (vp_inL (n := 1) hB1.l6 (by decide) (by decide)) ?_
        rw [show bp_I _ (M 6) ((1 : Int32).toNatClampNeg) = nI (p1).length from hB1.2.2.2.2.2.2.1.2.2.2.1]
        refine bp_bipush (v := 16) (q := 65) 33 rfl rfl (by decide) ?_
        refine bp_icmp_ne (q := 68) (tgt := 72) 34 rfl rfl (by decide) (fun z65 => ?_) (fun z65 => ?_)
        · refine bp_iconst (v := 0) (q := 73) 37 rfl rfl (by decide) ?_
          refine bp_bipush (v := -8) (q := 75) 38 rfl rfl (by decide) ?_
          refine bp_iload_n (q := 76) 39 rfl rfl rfl rfl ?_
          refine bp_callV (q := 79) (ci := 9) 40 rfl rfl cw_Mo_failIf lk_Mo_118 rfl hB1.kb wd1449 wd44 rfl rfl (Nat.le_of_ble_eq_true rfl) ⟨Nat.le_of_ble_eq_true rfl, Nat.le_of_ble_eq_true rfl⟩ (s_Mo_failIfN hB1 rfl ?_)
          refine bp_aload_n (q := 80) 41 rfl rfl rfl rfl ?_
          have hp16 : ¬ 16 ≤ p1.length := fun z => z65 (by rw [show p1.length = 16 by omega]; rfl)
          rw [if_neg hp16] at s1 m1
          have hie : i < e := m1.2.resolve_right (fun z => z rfl)
          have heT : e ≤ T.length := m1.1.1
          have hb : e < 1000 := by omega
          refine bp_callV (q := 83) (ci := 9) 42 rfl rfl cw_Mo_lookAhead lk_Mo_320 rfl hB1.kb wd1576 wd64 rfl rfl (Nat.le_of_ble_eq_true rfl) ⟨Nat.le_of_ble_eq_true rfl, Nat.le_of_ble_eq_true rfl⟩ (s_Mo_lookAhead hB1 hC.1 (by omega) (fun h2 k' n' e' hL' hB2 => ?_))
          exact lp_Mo_tg2 hC hQ hx hy (by omega) (fun i k n e rs L1 p1 lo1 lo2 h z1 z2 z3 => ih i k n e rs L1 p1 lo1 lo2 h (by omega) z2 z3) T.length e k' n' e' rs L1 _ (by omega) hB2 ⟨hL', m1.1, s1.symm⟩ (fun _ => llk_z hG.2.1) hie
        · refine bp_iconst (v := 1) (q := 69) 35 rfl rfl (by decide) ?_
          refine bp_goto (tgt := 73) 36 rfl (by decide) ?_
          refine bp_bipush (v := -8) (q := 75) 38 rfl rfl (by decide) ?_
          refine bp_iload_n (q := 76) 39 rfl rfl rfl rfl ?_
          refine bp_callV (q := 79) (ci := 9) 40 rfl rfl cw_Mo_failIf lk_Mo_118 rfl hB1.kb wd1449 wd44 rfl rfl (Nat.le_of_ble_eq_true rfl) ⟨Nat.le_of_ble_eq_true rfl, Nat.le_of_ble_eq_true rfl⟩ (s_Mo_failIf0 hB1 (by decide) rfl (fun h2 hB2 => ?_))
          refine bp_aload_n (q := 80) 41 rfl rfl rfl rfl ?_
          have hb : e < 1000 := by rw [q2]; have := hdK_le (T := T) (i := i); omega
          refine bp_callV (q := 83) (ci := 9) 42 rfl rfl cw_Mo_lookAhead lk_Mo_320 rfl hB2.kb wd1576 wd64 rfl rfl (Nat.le_of_ble_eq_true rfl) ⟨Nat.le_of_ble_eq_true rfl, Nat.le_of_ble_eq_true rfl⟩ (s_Mo_lookAhead hB2 hC.1 (by omega) (fun h3 k' n' e' hL' hB3 => ?_))
          have hp : p1.length = 16 := (nI_eq_iff (b := 16) (by omega) (by decide)).mp (by first | exact z65 | exact Classical.not_not.mp z65)
          rw [if_pos (by omega), TT_f (show (-8 : Int32) ≠ 0 by decide)] at s1
          exact lp_Mo_tgG hB3 hQ (by decide) (by rw [s1]; rfl) (by rw [s1]; rfl)
      · refine bp_iconst (v := 1) (q := 38) 18 rfl rfl (by decide) ?_
        refine bp_goto (tgt := 42) 19 rfl (by decide) ?_
        refine bp_bipush (v := -9) (q := 44) 21 rfl rfl (by decide) ?_
        refine bp_aload_n (q := 45) 22 rfl rfl rfl rfl ?_
        refine bp_getI (q := 48) (ci := 9) (j := 12) 23 rfl rfl fl_Mo_90_9 hB0.kb rfl ?_
        rw [hB0.i12]
        have hk0 : ¬ k = 0 := fun z => z19 (by rw [z]; rfl)
        have hi := hG.1.in hk0
        refine bp_callV (q := 51) (ci := 9) 24 rfl rfl cw_Mo_failIf lk_Mo_118 rfl hB0.kb wd1449 wd44 rfl rfl (Nat.le_of_ble_eq_true rfl) ⟨Nat.le_of_ble_eq_true rfl, Nat.le_of_ble_eq_true rfl⟩ (s_Mo_failIf0 hB0 (by decide) rfl (fun h1 hB1 => ?_))
        refine bp_aload_n (q := 52) 25 rfl rfl rfl rfl ?_
        refine bp_callV (q := 55) (ci := 9) 26 rfl rfl cw_Mo_accept lk_Mo_323 rfl hB1.kb wd1615 wd70 rfl rfl (Nat.le_of_ble_eq_true rfl) ⟨Nat.le_of_ble_eq_true rfl, Nat.le_of_ble_eq_true rfl⟩ (s_Mo_accept1 hB1 (by decide) (fun h2 hB2 => ?_))
        refine bp_istore_n (q := 56) 27 rfl rfl rfl (by decide) (bp_up2 rfl) ?_
        refine bp_aload_n (q := 57) 28 rfl rfl rfl rfl ?_
        refine bp_aload_n (q := 58) 29 rfl rfl rfl rfl ?_
        refine bp_getR (x := M 6) (q := 61) (ci := 9) (j := 6) 30 rfl rfl fl_Mo_21_9 hB2.kb rfl hB2.r6 ?_
        refine bp_iconst (v := 1) (q := 62) 31 rfl rfl (by decide) ?_
        refine bp_iald (q := 63) 32 rfl rfl hB2.k6 (vp_inL (n := 1) hB2.l6 (by decide) (by decide)) ?_
        rw [show bp_I _ (M 6) ((1 : Int32).toNatClampNeg) = nI (p1).length from hB2.2.2.2.2.2.2.1.2.2.2.1]
        refine bp_bipush (v := 16) (q := 65) 33 rfl rfl (by decide) ?_
        refine bp_icmp_ne (q := 68) (tgt := 72) 34 rfl rfl (by decide) (fun z65 => ?_) (fun z65 => ?_)
        · refine bp_iconst (v := 0) (q := 73) 37 rfl rfl (by decide) ?_
          refine bp_bipush (v := -8) (q := 75) 38 rfl rfl (by decide) ?_
          refine bp_iload_n (q := 76) 39 rfl rfl rfl rfl ?_
          refine bp_callV (q := 79) (ci := 9) 40 rfl rfl cw_Mo_failIf lk_Mo_118 rfl hB2.kb wd1449 wd44 rfl rfl (Nat.le_of_ble_eq_true rfl) ⟨Nat.le_of_ble_eq_true rfl, Nat.le_of_ble_eq_true rfl⟩ (s_Mo_failIf1 hB2 (by decide) ?_)
          refine bp_aload_n (q := 80) 41 rfl rfl rfl rfl ?_
          refine bp_callV (q := 83) (ci := 9) 42 rfl rfl cw_Mo_lookAhead lk_Mo_320 rfl hB2.kb wd1576 wd64 rfl rfl (Nat.le_of_ble_eq_true rfl) ⟨Nat.le_of_ble_eq_true rfl, Nat.le_of_ble_eq_true rfl⟩ (s_Mo_lookAhead hB2 hC.1 (by omega) (fun h3 k' n' e' hL' hB3 => ?_))
          have hk12 : ¬ k = 12 := fun z => z34 (by rw [z]; rfl)
          obtain ⟨r1, r2⟩ := TT_bad hC hG.2.1 rfl hi (head_bad hC hG.1 hk0 hk12) (by decide)
          rw [hG.2.2] at r1 r2
          exact lp_Mo_tgG hB3 hQ (by decide) r1 r2
        · refine bp_iconst (v := 1) (q := 69) 35 rfl rfl (by decide) ?_
          refine bp_goto (tgt := 73) 36 rfl (by decide) ?_
          refine bp_bipush (v := -8) (q := 75) 38 rfl rfl (by decide) ?_
          refine bp_iload_n (q := 76) 39 rfl rfl rfl rfl ?_
          refine bp_callV (q := 79) (ci := 9) 40 rfl rfl cw_Mo_failIf lk_Mo_118 rfl hB2.kb wd1449 wd44 rfl rfl (Nat.le_of_ble_eq_true rfl) ⟨Nat.le_of_ble_eq_true rfl, Nat.le_of_ble_eq_true rfl⟩ (s_Mo_failIf1 hB2 (by decide) ?_)
          refine bp_aload_n (q := 80) 41 rfl rfl rfl rfl ?_
          refine bp_callV (q := 83) (ci := 9) 42 rfl rfl cw_Mo_lookAhead lk_Mo_320 rfl hB2.kb wd1576 wd64 rfl rfl (Nat.le_of_ble_eq_true rfl) ⟨Nat.le_of_ble_eq_true rfl, Nat.le_of_ble_eq_true rfl⟩ (s_Mo_lookAhead hB2 hC.1 (by omega) (fun h3 k' n' e' hL' hB3 => ?_))
          have hk12 : ¬ k = 12 := fun z => z34 (by rw [z]; rfl)
          obtain ⟨r1, r2⟩ := TT_bad hC hG.2.1 rfl hi (head_bad hC hG.1 hk0 hk12) (by decide)
          rw [hG.2.2] at r1 r2
          exact lp_Mo_tgG hB3 hQ (by decide) r1 r2
set_option maxRecDepth 100000 in
set_option maxHeartbeats 4000000 in
theorem s_Mo_readTagged {rs : Nat} (hB0 : MoX M h0 h tw i fa fm tl lk al ind sk dp lv fr en nf nn dg nu kd pn pe T xs L ps L1 p1 nt tb fd) (hC : okC T) (hrs : rs ≤ 400) (hQ : ∀ h', MoS M h0 h' 0 (tMe (TT T (tStart rs))) T xs (if tFa (TT T (tStart rs)) = 0 then tL (TT T (tStart rs)) else L) (if tFa (TT T (tStart rs)) = 0 then tPs (TT T (tStart rs)) else ps) → Q (some (.int (if tFa (TT T (tStart rs)) = 0 then nI (tPs (TT T (tStart rs))).length else tFa (TT T (tStart rs))))) h' c s) : bp_AM l G H0 (8, 187, false, false) M_Mo_readTagged h c s [.ref (M 0)] Q := by
  refine bp_of (ls := [some (.ref (M 0)), none, none]) (by decide) dt_Mo_readTagged (Nat.le_of_ble_eq_true rfl) (fun q hq => hq) false ?_
  have hT4 := hC.1.1
  refine bp_aload_n (q := 1) 0 rfl rfl rfl rfl ?_
  refine bp_callV (q := 4) (ci := 9) 1 rfl rfl cw_Mo_beginReading lk_Mo_115 rfl hB0.kb wd1441 wd42 rfl rfl (Nat.le_of_ble_eq_true rfl) ⟨Nat.le_of_ble_eq_true rfl, Nat.le_of_ble_eq_true rfl⟩ (s_Mo_beginReading hB0 (fun h1 hB1 => ?_))
  refine bp_aload_n (q := 5) 2 rfl rfl rfl rfl ?_
  refine bp_callV (q := 8) (ci := 9) 3 rfl rfl cw_Mo_lookAhead lk_Mo_320 rfl hB1.kb wd1576 wd64 rfl rfl (Nat.le_of_ble_eq_true rfl) ⟨Nat.le_of_ble_eq_true rfl, Nat.le_of_ble_eq_true rfl⟩ (s_Mo_lookAhead hB1 hC.1 (by omega) (fun h2 k' n' e' hL' hB2 => ?_))
  exact lp_Mo_tg hQ hC T.length 0 k' n' e' rs [] [] _ _ _ (by omega) hB2 ⟨hL', okU_start hrs, rfl⟩
end MO31
