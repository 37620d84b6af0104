/-! the letters of a run, and the run -/
theorem mono_okP {L1 : List (Nat × Nat)} {p1 : List (Nat × Nat × Nat)} {q : Nat × Nat × Nat} (h : okP L1 (p1 ++ [q])) : mono p1 := fun j hj => by
  have z := h.mono j (by rw [List.length_append]; omega)
  rw [pst_sn (by omega)] at z
  unfold p_e at z ⊢
  rw [p_sn hj] at z
  exact z
section LK
variable {L1 : List (Nat × Nat)} {p1 : List (Nat × Nat × Nat)} {x y b : Nat}
theorem llk_n0 (h : L1.length = 0) : ¬ llk L1 (p1 ++ [(x, y, L1.length)]) = some b := by
  rw [llk_u, if_neg (by omega)]; intro z; cases z
theorem llk_np (h : okP L1 (p1 ++ [(x, y, L1.length)])) (h0 : 0 < L1.length) (hp : ¬ pIx p1 (L1.length - 1) = p1.length) : ¬ llk L1 (p1 ++ [(x, y, L1.length)]) = some b := by
  have pi := pIx_iff p1.length p1 rfl (mono_okP h) (L1.length - 1) p1.length (Nat.le_refl _)
  have pl := pIx_le p1 (L1.length - 1)
  rw [llk_u, if_neg (fun z => hp (Nat.le_antisymm pl (pi.mpr (by omega))))]; intro z; cases z
theorem llk_nl (hl : ¬ (lkL L1).getD (L1.length - 1) 0 = b) : ¬ llk L1 (p1 ++ [(x, y, L1.length)]) = some b := by
  rw [llk_u]
  intro z
  split at z
  · injection z with z; exact hl z
  · cases z
theorem llk_is (h : okP L1 (p1 ++ [(x, y, L1.length)])) (h0 : 0 < L1.length) (hp : pIx p1 (L1.length - 1) = p1.length) : llk L1 (p1 ++ [(x, y, L1.length)]) = some ((lkL L1).getD (L1.length - 1) 0) := by
  have pi := pIx_iff p1.length p1 rfl (mono_okP h) (L1.length - 1) p1.length (Nat.le_refl _)
  rw [llk_u, if_pos (by have := pi.mp (by omega); omega)]
end LK
section MO30
variable {l : Launch} {G : bp_G} {H0 : Heap} {M : Nat → Nat} {h0 h : bp_H} {tw : Int32} {i : Nat} {fa : Int32} {fm : Int32} {tl : Int32} {lk : Nat} {al : Nat} {ind : Nat} {sk : Nat} {dp : Nat} {lv : Nat} {fr : Bool} {en : Nat} {nf : Nat} {nn : Nat} {dg : Nat} {nu : Int32} {kd : Nat} {pn : Int32} {pe : Nat} {T : List Nat} {xs : List Nat} {L : List (Nat × Nat)} {ps : List (Nat × Nat × Nat)} {L1 : List (Nat × Nat)} {p1 : List (Nat × Nat × Nat)} {nt : List (Nat → Nat)} {tb : List Nat} {fd : List Nat} {c s : Nat} {Q : Option Value → bp_H → Nat → Nat → Prop} {R : TS} {x y : Nat}
theorem hl_2 {ot : Nat} : (if ot ≠ 0 then true else decide (ot ≠ 0)) = decide (ot ≠ 0) := by
  by_cases z : ot ≠ 0
  · rw [if_pos z, decide_eq_true z]
  · rw [if_neg z]
theorem hl_3 {ot : Nat} : (if ot ≠ 0 then true else false) = decide (ot ≠ 0) := by
  by_cases z : ot ≠ 0
  · rw [if_pos z, decide_eq_true z]
  · rw [if_neg z, decide_eq_false z]
set_option maxRecDepth 100000 in
set_option maxHeartbeats 4000000 in
theorem lp_Mo_rrL {v2 v5 : Int32} {ot sy sz co lst rs i0 : Nat} (hC : okC T) (hI : RTI ot sy sz co lst) (hQ1 : ∀ h' i' k' n' e' rs' L', MoX M h0 h' tw i' 0 fm tl lk al ind sk dp lv fr en nf nn dg nu k' n' e' T xs L ps L' p1 nt tb fd → TGd T R i' k' n' e' 0 rs' false false 0 12 0 L' p1 x y → (k' = 13 → ¬ llk L' (p1 ++ [(x, y, L'.length)]) = some 768) → i0 < i' → Q none h' c s) (hQ0 : ∀ h', TBd M h0 h' tw tl lk al ind sk dp lv fr en nf nn dg nu T xs L ps nt tb fd R → Q none h' c s) : ∀ (m : Nat) (i k : Nat) (n : Int32) (e : Nat) (L1 : List (Nat × Nat)) (lo7 lo8 : Option Value) (h : bp_H), T.length ≤ m + i → MoX M h0 h tw i 0 fm tl lk al ind sk dp lv fr en nf nn dg nu k n e T xs L ps L1 p1 nt tb fd → TGd T R i k n e ot rs (decide (ot ≠ 0)) false sy sz co L1 p1 x y → llk L1 (p1 ++ [(x, y, L1.length)]) = some (sy + 8 * co + 64 * sz) → i0 < i → bp_A l G H0 (7, 159, false, false) M_Mo_readRun h c s 88 [some (.ref (M 0)), some (.int (nI i0)), some (.int v2), some (.int (nI (cmL (sy + 8 * co + 64 * sz)))), some (.int (nI (2 * ot))), some (.int v5), some (.int 0), lo7, lo8] [] (fun o h' c' s' => ∃ v, o = .returned v ∧ Q v h' c' s') := by
  have hT4 := hC.1.1
  intro m
  induction m with
  | zero =>
    intro i k n e L1 lo7 lo8 h hm hB0 hG hll hii
    have hk14 := hG.1.le
    refine bp_aload_n (q := 89) 46 rfl rfl rfl rfl ?_
    refine bp_getI (q := 92) (ci := 9) (j := 13) 47 rfl rfl fl_Mo_69_9 hB0.kb rfl ?_
    rw [hB0.i13]
    refine bp_if_ne (q := 95) (tgt := 206) 48 rfl rfl (by decide) (fun z => absurd z (by decide)) (fun z92 => ?_)
    refine bp_aload_n (q := 96) 49 rfl rfl rfl rfl ?_
    refine bp_getI (q := 99) (ci := 9) (j := 31) 50 rfl rfl fl_Mo_267_9 hB0.kb rfl ?_
    rw [hB0.i31]
    refine bp_bipush (v := 13) (q := 101) 51 rfl rfl (by decide) ?_
    refine bp_icmp_ne (q := 104) (tgt := 206) 52 rfl rfl (by decide) (fun z101 => ?_) (fun z101 => ?_)
    · refine bp_iconst (v := 5) (q := 207) 109 rfl rfl (by decide) ?_
      refine bp_istore (q := 209) 110 rfl rfl (by decide) (bp_up7 rfl) ?_
      have hk13 : ¬ k = 13 := fun z => z101 (by rw [z]; rfl)
      have hG9 := hG
      refine lp_Mo_rrE (sy := sy) (sz := sz) (co := co) hC (by have := hI.1; omega) (fun z => by rw [hll]; intro q; injection q with q; exact hI.2.2.2.2.1 z (by have := hI.2.2.2.2.2.2.1; have := hI.2.2.2.2.2.2.2; have := hI.2.1; omega)) hQ1 hQ0 5 i k n e ot false rs _ (by decide) hB0 (Nat.mod_eq_of_lt (show ot < 32 by have := hI.1; omega)).symm ?_ (fun _ => hk13) hii
      by_cases z : ot = 0
      · refine Or.inl ⟨z, ?_⟩
        subst z
        have a1 := hI.2.1
        have a2 := hI.2.2.1 (by decide)
        have a3 := hI.2.2.2.1 (by decide)
        subst a1 a2 a3
        exact hG
      · rw [decide_eq_true z] at hG
        exact Or.inr ⟨z, hG, fun _ => hk13⟩
    · have hk13 : k = 13 := (nI_eq_iff (b := 13) (by omega) (by decide)).mp (by first | exact z101 | exact Classical.not_not.mp z101)
      have := hG.1.in (by omega)
      omega
  | succ m ih =>
    intro i k n e L1 lo7 lo8 h hm hB0 hG hll hii
    have hk14 := hG.1.le
    have hp16 := hB0.2.2.2.2.2.2.1.2.1
    have hiT : i ≤ T.length := hG.2.1.1
    refine bp_aload_n (q := 89) 46 rfl rfl rfl rfl ?_
    refine bp_getI (q := 92) (ci := 9) (j := 13) 47 rfl rfl fl_Mo_69_9 hB0.kb rfl ?_
    rw [hB0.i13]
    refine bp_if_ne (q := 95) (tgt := 206) 48 rfl rfl (by decide) (fun z => absurd z (by decide)) (fun z92 => ?_)
    refine bp_aload_n (q := 96) 49 rfl rfl rfl rfl ?_
    refine bp_getI (q := 99) (ci := 9) (j := 31) 50 rfl rfl fl_Mo_267_9 hB0.kb rfl ?_
    rw [hB0.i31]
    refine bp_bipush (v := 13) (q := 101) 51 rfl rfl (by decide) ?_
    refine bp_icmp_ne (q := 104) (tgt := 206) 52 rfl rfl (by decide) (fun z101 => ?_) (fun z101 => ?_)
    · refine bp_iconst (v := 5) (q := 207) 109 rfl rfl (by decide) ?_
      refine bp_istore (q := 209) 110 rfl rfl (by decide) (bp_up7 rfl) ?_
      have hk13 : ¬ k = 13 := fun z => z101 (by rw [z]; rfl)
      have hG9 := hG
      refine lp_Mo_rrE (sy := sy) (sz := sz) (co := co) hC (by have := hI.1; omega) (fun z => by rw [hll]; intro q; injection q with q; exact hI.2.2.2.2.1 z (by have := hI.2.2.2.2.2.2.1; have := hI.2.2.2.2.2.2.2; have := hI.2.1; omega)) hQ1 hQ0 5 i k n e ot false rs _ (by decide) hB0 (Nat.mod_eq_of_lt (show ot < 32 by have := hI.1; omega)).symm ?_ (fun _ => hk13) hii
      by_cases z : ot = 0
      · refine Or.inl ⟨z, ?_⟩
        subst z
        have a1 := hI.2.1
        have a2 := hI.2.2.1 (by decide)
        have a3 := hI.2.2.2.1 (by decide)
        subst a1 a2 a3
        exact hG
      · rw [decide_eq_true z] at hG
        exact Or.inr ⟨z, hG, fun _ => hk13⟩
    · refine bp_aload_n (q := 105) 53 rfl rfl rfl rfl ?_
      have hk13 : k = 13 := (nI_eq_iff (b := 13) (by omega) (by decide)).mp (by first | exact z101 | exact Classical.not_not.mp z101)
      subst hk13
      have hi := hG.1.in (by decide)
      have hU := hG.2.1
      have hLi : L1.length ≤ i := hU.2.2.2.2.2.2.2.1.1
      have okp : okP L1 (p1 ++ [(x, y, L1.length)]) := hU.2.2.2.2.2.2.2.2
      by_cases hn : n < 0
      · have hb := TT_bad hC hU rfl hi ((hG.1.letter hC).2.1 hn (by rintro (z | z) <;> cases z)) (by decide)
        rw [hG.2.2] at hb
        refine bp_callV (q := 108) (ci := 9) 54 rfl rfl cw_Mo_accept lk_Mo_323 rfl hB0.kb wd1615 wd70 rfl rfl (Nat.le_of_ble_eq_true rfl) ⟨Nat.le_of_ble_eq_true rfl, Nat.le_of_ble_eq_true rfl⟩ (s_Mo_acceptF hB0 hn (fun h1 hB1 => ?_))
        refine bp_istore (q := 110) 55 rfl rfl (by decide) (bp_up7 rfl) ?_
        refine bp_sipush (v := 399) (q := 113) 56 rfl rfl (by decide) ?_
        refine bp_aload_n (q := 114) 57 rfl rfl rfl rfl ?_
        refine bp_getR (x := M 5) (q := 117) (ci := 9) (j := 5) 58 rfl rfl fl_Mo_17_9 hB1.kb rfl hB1.r5 ?_
        refine bp_iconst (v := 1) (q := 118) 59 rfl rfl (by decide) ?_
        refine bp_iald (q := 119) 60 rfl rfl hB1.k5 (vp_inL (n := 1) hB1.l5 (by decide) (by decide)) ?_
        rw [show bp_I _ (M 5) ((1 : Int32).toNatClampNeg) = nI (L1).length from hB1.2.2.2.2.2.2.1.2.2.1]
        refine bp_iadd (q := 120) 61 rfl rfl ?_
        have hLm := hB1.2.2.2.2.2.2.1.1
        rw [show (399 : Int32) + nI L1.length = nI (399 + L1.length) from by rw [show (399 : Int32) = nI 399 from rfl, nI_add]]
        refine bp_istore (q := 122) 62 rfl rfl (by decide) (bp_up8 rfl) ?_
        refine bp_aload_n (q := 123) 63 rfl rfl rfl rfl ?_
        refine bp_iload (q := 125) 64 rfl rfl rfl ?_
        refine bp_if_eq (q := 128) (tgt := 168) 65 rfl rfl (by decide) (fun z125 => ?_) (fun z => absurd z (by decide))
        refine bp_iconst (v := 0) (q := 169) 88 rfl rfl (by decide) ?_
        refine bp_bipush (v := -10) (q := 171) 89 rfl rfl (by decide) ?_
        refine bp_iload_n (q := 172) 90 rfl rfl rfl rfl ?_
        refine bp_callV (q := 175) (ci := 9) 91 rfl rfl cw_Mo_failIf lk_Mo_118 rfl hB1.kb wd1449 wd44 rfl rfl (Nat.le_of_ble_eq_true rfl) ⟨Nat.le_of_ble_eq_true rfl, Nat.le_of_ble_eq_true rfl⟩ (s_Mo_failIf1 hB1 (by decide) ?_)
        refine bp_iconst (v := 0) (q := 176) 92 rfl rfl (by decide) ?_
        refine bp_istore (q := 178) 93 rfl rfl (by decide) (bp_up6 rfl) ?_
        refine bp_aload_n (q := 179) 94 rfl rfl rfl rfl ?_
        refine bp_getI (q := 182) (ci := 9) (j := 13) 95 rfl rfl fl_Mo_69_9 hB1.kb rfl ?_
        rw [hB1.i13]
        refine bp_if_ne (q := 185) (tgt := 203) 96 rfl rfl (by decide) (fun z182 => ?_) (fun z => absurd z (by decide))
        refine bp_goto (tgt := 88) 108 rfl (by decide) ?_
        exact lp_Mo_rrG hB1 (by decide) hb.1 hb.2 hQ0
      · obtain ⟨x0, nx, x1, x2, ex⟩ := (hG.1.letter (fa := 0) (me := -1) (ip := true) (ot := ot) (rs := rs) (hl := (decide (ot ≠ 0))) (ed := false) (sy := sy) (sz := sz) (co := co) (L := L1) (ps := p1 ++ [(x, y, L1.length)]) hC).2.2 hn (by rintro (z | z) <;> cases z)
        subst nx
        rw [tLt_u, if_neg (by rintro (z | z) <;> cases z)] at ex
        have s1 := TT_step hC hU rfl hi
        have m1 := okU_thing hC.1 hC.2 hU rfl hi
        rw [ex] at s1 m1
        rw [hG.2.2] at s1
        rw [if_neg (fun z => by have a := z.2.1; rw [decide_eq_true z.1] at a; cases a), pLast_sn] at s1 m1
        have hl2 : (if ot ≠ 0 then true else decide (ot ≠ 0)) = decide (ot ≠ 0) := hl_2
        refine bp_callV (q := 108) (ci := 9) 54 rfl rfl cw_Mo_accept lk_Mo_323 rfl hB0.kb wd1615 wd70 rfl rfl (Nat.le_of_ble_eq_true rfl) ⟨Nat.le_of_ble_eq_true rfl, Nat.le_of_ble_eq_true rfl⟩ (s_Mo_accept0 hB0 hn (fun h1 hB1 => ?_))
        refine bp_istore (q := 110) 55 rfl rfl (by decide) (bp_up7 rfl) ?_
        refine bp_sipush (v := 399) (q := 113) 56 rfl rfl (by decide) ?_
        refine bp_aload_n (q := 114) 57 rfl rfl rfl rfl ?_
        refine bp_getR (x := M 5) (q := 117) (ci := 9) (j := 5) 58 rfl rfl fl_Mo_17_9 hB1.kb rfl hB1.r5 ?_
        refine bp_iconst (v := 1) (q := 118) 59 rfl rfl (by decide) ?_
        refine bp_iald (q := 119) 60 rfl rfl hB1.k5 (vp_inL (n := 1) hB1.l5 (by decide) (by decide)) ?_
        rw [show bp_I _ (M 5) ((1 : Int32).toNatClampNeg) = nI (L1).length from hB1.2.2.2.2.2.2.1.2.2.1]
        refine bp_iadd (q := 120) 61 rfl rfl ?_
        have hLm := hB1.2.2.2.2.2.2.1.1
        rw [show (399 : Int32) + nI L1.length = nI (399 + L1.length) from by rw [show (399 : Int32) = nI 399 from rfl, nI_add]]
        refine bp_istore (q := 122) 62 rfl rfl (by decide) (bp_up8 rfl) ?_
        refine bp_aload_n (q := 123) 63 rfl rfl rfl rfl ?_
        refine bp_iload (q := 125) 64 rfl rfl rfl ?_
        refine bp_if_eq (q := 128) (tgt := 168) 65 rfl rfl (by decide) (fun z125 => ?_) (fun z => absurd z (by decide))
        refine bp_iconst (v := 0) (q := 169) 88 rfl rfl (by decide) ?_
        refine bp_bipush (v := -10) (q := 171) 89 rfl rfl (by decide) ?_
        refine bp_iload_n (q := 172) 90 rfl rfl rfl rfl ?_
        refine bp_callV (q := 175) (ci := 9) 91 rfl rfl cw_Mo_failIf lk_Mo_118 rfl hB1.kb wd1449 wd44 rfl rfl (Nat.le_of_ble_eq_true rfl) ⟨Nat.le_of_ble_eq_true rfl, Nat.le_of_ble_eq_true rfl⟩ (s_Mo_failIfN hB1 rfl ?_)
        refine bp_iconst (v := 0) (q := 176) 92 rfl rfl (by decide) ?_
        refine bp_istore (q := 178) 93 rfl rfl (by decide) (bp_up6 rfl) ?_
        refine bp_aload_n (q := 179) 94 rfl rfl rfl rfl ?_
        refine bp_getI (q := 182) (ci := 9) (j := 13) 95 rfl rfl fl_Mo_69_9 hB1.kb rfl ?_
        rw [hB1.i13]
        refine bp_if_ne (q := 185) (tgt := 203) 96 rfl rfl (by decide) (fun z => absurd z (by decide)) (fun z182 => ?_)
        refine bp_aload_n (q := 186) 97 rfl rfl rfl rfl ?_
        refine bp_iconst (v := 1) (q := 187) 98 rfl rfl (by decide) ?_
        refine bp_iload (q := 189) 99 rfl rfl rfl ?_
        refine bp_iload_n (q := 190) 100 rfl rfl rfl rfl ?_
        refine bp_aload_n (q := 191) 101 rfl rfl rfl rfl ?_
        refine bp_getR (x := M 6) (q := 194) (ci := 9) (j := 6) 102 rfl rfl fl_Mo_21_9 hB1.kb rfl hB1.r6 ?_
        refine bp_iconst (v := 1) (q := 195) 103 rfl rfl (by decide) ?_
        refine bp_iald (q := 196) 104 rfl rfl hB1.k6 (vp_inL (n := 1) hB1.l6 (by decide) (by decide)) ?_
        rw [show bp_I _ (M 6) ((1 : Int32).toNatClampNeg) = nI (p1).length from hB1.2.2.2.2.2.2.1.2.2.2.1]
        rw [hl2] at s1 m1
        have hie : i < e := m1.2.resolve_right (fun z => z rfl)
        have heT : e ≤ T.length := m1.1.1
        have hps : pst p1 p1.length ≤ L1.length := by have z := pst_le okp (j := p1.length) (by rw [List.length_append]; omega); rw [pst_sn (Nat.le_refl _)] at z; exact z
        have e9 : (L1 ++ [(x0, (sy + 8 * co + 64 * sz))]).length = L1.length + 1 := by rw [List.length_append]; rfl
        rw [← e9] at s1 m1
        refine bp_callV (q := 199) (ci := 9) 105 rfl rfl cw_Mo_addLetter lk_Mo_111 rfl hB1.kb wd1523 wd57 rfl rfl (Nat.le_of_ble_eq_true rfl) ⟨Nat.le_of_ble_eq_true rfl, Nat.le_of_ble_eq_true rfl⟩ (s_Mo_addLetter1 (u := x0) (y := (sy + 8 * co + 64 * sz)) (q := p1.length) (ps' := p1) hB1 (by omega) rfl (fun _ _ => ⟨rfl, rfl⟩) (fun _ _ => rfl) ((pIx_all (fun q hq => okp.ends q (List.mem_append_left _ hq))).symm) (fun h2 hB2 => ?_))
        refine bp_aload_n (q := 200) 106 rfl rfl rfl rfl ?_
        refine bp_callV (q := 203) (ci := 9) 107 rfl rfl cw_Mo_lookAhead lk_Mo_320 rfl hB2.kb wd1576 wd64 rfl rfl (Nat.le_of_ble_eq_true rfl) ⟨Nat.le_of_ble_eq_true rfl, Nat.le_of_ble_eq_true rfl⟩ (s_Mo_lookAhead hB2 hC.1 (by omega) (fun h3 k' n' e' hL' hB3 => ?_))
        refine bp_goto (tgt := 88) 108 rfl (by decide) ?_
        exact ih e k' n' e' _ _ _ _ (by omega) hB3 ⟨hL', m1.1, s1.symm⟩ (by rw [e9]; exact llk_put hps) (by omega)
set_option maxRecDepth 100000 in
set_option maxHeartbeats 4000000 in
theorem lp_Mo_rr1 {v2 v5 n : Int32} {ot sy sz co lst rs i0 e : Nat} (hC : okC T) (hI : RTI ot sy sz co lst) (hQ1 : ∀ h' i' k' n' e' rs' L', MoX M h0 h' tw i' 0 fm tl lk al ind sk dp lv fr en nf nn dg nu k' n' e' T xs L ps L' p1 nt tb fd → TGd T R i' k' n' e' 0 rs' false false 0 12 0 L' p1 x y → (k' = 13 → ¬ llk L' (p1 ++ [(x, y, L'.length)]) = some 768) → i0 < i' → Q none h' c s) (hQ0 : ∀ h', TBd M h0 h' tw tl lk al ind sk dp lv fr en nf nn dg nu T xs L ps nt tb fd R → Q none h' c s) (hB0 : MoX M h0 h tw i 0 fm tl lk al ind sk dp lv fr en nf nn dg nu 13 n e T xs L ps L1 p1 nt tb fd) (hG : TGd T R i 13 n e ot rs false false sy sz co L1 p1 x y) (hnz : ot ≠ 0 → rs = i0) (hinv : ot = 0 → ¬ llk L1 (p1 ++ [(x, y, L1.length)]) = some 768) (hii : i0 ≤ i) : bp_A l G H0 (7, 159, false, false) M_Mo_readRun h c s 88 [some (.ref (M 0)), some (.int (nI i0)), some (.int v2), some (.int (nI (cmL (sy + 8 * co + 64 * sz)))), some (.int (nI (2 * ot))), some (.int v5), some (.int 1), none, none] [] (fun o h' c' s' => ∃ v, o = .returned v ∧ Q v h' c' s') := by
  have hT4 := hC.1.1
  have hp16 := hB0.2.2.2.2.2.2.1.2.1
  have hiT : i ≤ T.length := hG.2.1.1
  refine bp_aload_n (q := 89) 46 rfl rfl rfl rfl ?_
  refine bp_getI (q := 92) (ci := 9) (j := 13) 47 rfl rfl fl_Mo_69_9 hB0.kb rfl ?_
  rw [hB0.i13]
  refine bp_if_ne (q := 95) (tgt := 206) 48 rfl rfl (by decide) (fun z => absurd z (by decide)) (fun z92 => ?_)
  refine bp_aload_n (q := 96) 49 rfl rfl rfl rfl ?_
  refine bp_getI (q := 99) (ci := 9) (j := 31) 50 rfl rfl fl_Mo_267_9 hB0.kb rfl ?_
  rw [hB0.i31]
  refine bp_bipush (v := 13) (q := 101) 51 rfl rfl (by decide) ?_
  refine bp_icmp_ne (q := 104) (tgt := 206) 52 rfl rfl (by decide) (fun z101 => ?_) (fun z101 => ?_)
  · exact absurd rfl z101
  · refine bp_aload_n (q := 105) 53 rfl rfl rfl rfl ?_
    have hi := hG.1.in (by decide)
    have hU := hG.2.1
    have hLi : L1.length ≤ i := hU.2.2.2.2.2.2.2.1.1
    have okp : okP L1 (p1 ++ [(x, y, L1.length)]) := hU.2.2.2.2.2.2.2.2
    by_cases hn : n < 0
    · have hb := TT_bad hC hU rfl hi ((hG.1.letter hC).2.1 hn (by rintro (z | z) <;> cases z)) (by decide)
      rw [hG.2.2] at hb
      refine bp_callV (q := 108) (ci := 9) 54 rfl rfl cw_Mo_accept lk_Mo_323 rfl hB0.kb wd1615 wd70 rfl rfl (Nat.le_of_ble_eq_true rfl) ⟨Nat.le_of_ble_eq_true rfl, Nat.le_of_ble_eq_true rfl⟩ (s_Mo_acceptF hB0 hn (fun h1 hB1 => ?_))
      refine bp_istore (q := 110) 55 rfl rfl (by decide) (bp_up7 rfl) ?_
      refine bp_sipush (v := 399) (q := 113) 56 rfl rfl (by decide) ?_
      refine bp_aload_n (q := 114) 57 rfl rfl rfl rfl ?_
      refine bp_getR (x := M 5) (q := 117) (ci := 9) (j := 5) 58 rfl rfl fl_Mo_17_9 hB1.kb rfl hB1.r5 ?_
      refine bp_iconst (v := 1) (q := 118) 59 rfl rfl (by decide) ?_
      refine bp_iald (q := 119) 60 rfl rfl hB1.k5 (vp_inL (n := 1) hB1.l5 (by decide) (by decide)) ?_
      rw [show bp_I _ (M 5) ((1 : Int32).toNatClampNeg) = nI (L1).length from hB1.2.2.2.2.2.2.1.2.2.1]
      refine bp_iadd (q := 120) 61 rfl rfl ?_
      have hLm := hB1.2.2.2.2.2.2.1.1
      rw [show (399 : Int32) + nI L1.length = nI (399 + L1.length) from by rw [show (399 : Int32) = nI 399 from rfl, nI_add]]
      refine bp_istore (q := 122) 62 rfl rfl (by decide) (bp_up8 rfl) ?_
      refine bp_aload_n (q := 123) 63 rfl rfl rfl rfl ?_
      refine bp_iload (q := 125) 64 rfl rfl rfl ?_
      refine bp_if_eq (q := 128) (tgt := 168) 65 rfl rfl (by decide) (fun z => absurd z (by decide)) (fun z125 => ?_)
      refine bp_aload_n (q := 129) 66 rfl rfl rfl rfl ?_
      refine bp_getR (x := M 5) (q := 132) (ci := 9) (j := 5) 67 rfl rfl fl_Mo_17_9 hB1.kb rfl hB1.r5 ?_
      refine bp_iconst (v := 1) (q := 133) 68 rfl rfl (by decide) ?_
      refine bp_iald (q := 134) 69 rfl rfl hB1.k5 (vp_inL (n := 1) hB1.l5 (by decide) (by decide)) ?_
      rw [show bp_I _ (M 5) ((1 : Int32).toNatClampNeg) = nI (L1).length from hB1.2.2.2.2.2.2.1.2.2.1]
      refine bp_if_le (q := 137) (tgt := 168) 70 rfl rfl (by decide) (fun z134 => ?_) (fun z134 => ?_)
      · refine bp_iconst (v := 0) (q := 169) 88 rfl rfl (by decide) ?_
        refine bp_bipush (v := -10) (q := 171) 89 rfl rfl (by decide) ?_
        refine bp_iload_n (q := 172) 90 rfl rfl rfl rfl ?_
        refine bp_callV (q := 175) (ci := 9) 91 rfl rfl cw_Mo_failIf lk_Mo_118 rfl hB1.kb wd1449 wd44 rfl rfl (Nat.le_of_ble_eq_true rfl) ⟨Nat.le_of_ble_eq_true rfl, Nat.le_of_ble_eq_true rfl⟩ (s_Mo_failIf1 hB1 (by decide) ?_)
        refine bp_iconst (v := 0) (q := 176) 92 rfl rfl (by decide) ?_
        refine bp_istore (q := 178) 93 rfl rfl (by decide) (bp_up6 rfl) ?_
        refine bp_aload_n (q := 179) 94 rfl rfl rfl rfl ?_
        refine bp_getI (q := 182) (ci := 9) (j := 13) 95 rfl rfl fl_Mo_69_9 hB1.kb rfl ?_
        rw [hB1.i13]
        refine bp_if_ne (q := 185) (tgt := 203) 96 rfl rfl (by decide) (fun z182 => ?_) (fun z => absurd z (by decide))
        refine bp_goto (tgt := 88) 108 rfl (by decide) ?_
        exact lp_Mo_rrG hB1 (by decide) hb.1 hb.2 hQ0
      · refine bp_aload_n (q := 138) 71 rfl rfl rfl rfl ?_
        refine bp_getR (x := M 9) (q := 141) (ci := 9) (j := 9) 72 rfl rfl fl_Mo_30_9 hB1.kb rfl hB1.r9 ?_
        refine bp_iload (q := 143) 73 rfl rfl rfl ?_
        have hL0 : 0 < L1.length := Nat.pos_of_ne_zero (fun e_ => absurd z134 (fun q_ => q_ (by rw [e_]; decide)))
        refine bp_iald (q := 144) 74 rfl rfl hB1.k9 (vp_inL hB1.l9 (by omega) (by decide)) ?_
        rw [nI_clamp (by omega), show bp_I _ (M 9) (399 + L1.length) = nI (pIx p1 (L1.length - 1)) from by have z := (hB1.2.2.2.2.2.2.1.2.2.2.2.1 (L1.length - 1) (by omega)).2.2; rw [show 400 * 1 + (L1.length - 1) = 399 + L1.length by omega] at z; exact z]
        refine bp_aload_n (q := 145) 75 rfl rfl rfl rfl ?_
        refine bp_getR (x := M 6) (q := 148) (ci := 9) (j := 6) 76 rfl rfl fl_Mo_21_9 hB1.kb rfl hB1.r6 ?_
        refine bp_iconst (v := 1) (q := 149) 77 rfl rfl (by decide) ?_
        refine bp_iald (q := 150) 78 rfl rfl hB1.k6 (vp_inL (n := 1) hB1.l6 (by decide) (by decide)) ?_
        rw [show bp_I _ (M 6) ((1 : Int32).toNatClampNeg) = nI (p1).length from hB1.2.2.2.2.2.2.1.2.2.2.1]
        refine bp_icmp_ne (q := 153) (tgt := 168) 79 rfl rfl (by decide) (fun z150 => ?_) (fun z150 => ?_)
        · refine bp_iconst (v := 0) (q := 169) 88 rfl rfl (by decide) ?_
          refine bp_bipush (v := -10) (q := 171) 89 rfl rfl (by decide) ?_
          refine bp_iload_n (q := 172) 90 rfl rfl rfl rfl ?_
          refine bp_callV (q := 175) (ci := 9) 91 rfl rfl cw_Mo_failIf lk_Mo_118 rfl hB1.kb wd1449 wd44 rfl rfl (Nat.le_of_ble_eq_true rfl) ⟨Nat.le_of_ble_eq_true rfl, Nat.le_of_ble_eq_true rfl⟩ (s_Mo_failIf1 hB1 (by decide) ?_)
          refine bp_iconst (v := 0) (q := 176) 92 rfl rfl (by decide) ?_
          refine bp_istore (q := 178) 93 rfl rfl (by decide) (bp_up6 rfl) ?_
          refine bp_aload_n (q := 179) 94 rfl rfl rfl rfl ?_
          refine bp_getI (q := 182) (ci := 9) (j := 13) 95 rfl rfl fl_Mo_69_9 hB1.kb rfl ?_
          rw [hB1.i13]
          refine bp_if_ne (q := 185) (tgt := 203) 96 rfl rfl (by decide) (fun z182 => ?_) (fun z => absurd z (by decide))
          refine bp_goto (tgt := 88) 108 rfl (by decide) ?_
          exact lp_Mo_rrG hB1 (by decide) hb.1 hb.2 hQ0
        · refine bp_aload_n (q := 154) 80 rfl rfl rfl rfl ?_
          refine bp_getR (x := M 8) (q := 157) (ci := 9) (j := 8) 81 rfl rfl fl_Mo_27_9 hB1.kb rfl hB1.r8 ?_
          refine bp_iload (q := 159) 82 rfl rfl rfl ?_
          refine bp_iald (q := 160) 83 rfl rfl hB1.k8 (vp_inL hB1.l8 (by omega) (by decide)) ?_
          rw [nI_clamp (by omega), show bp_I _ (M 8) (399 + L1.length) = nI (cmL ((lkL L1).getD (L1.length - 1) 0)) from by have z := (hB1.2.2.2.2.2.2.1.2.2.2.2.1 (L1.length - 1) (by omega)).2.1; rw [show 400 * 1 + (L1.length - 1) = 399 + L1.length by omega] at z; exact z]
          refine bp_iload_n (q := 161) 84 rfl rfl rfl rfl ?_
          refine bp_icmp_ne (q := 164) (tgt := 168) 85 rfl rfl (by decide) (fun z161 => ?_) (fun z161 => ?_)
          · refine bp_iconst (v := 0) (q := 169) 88 rfl rfl (by decide) ?_
            refine bp_bipush (v := -10) (q := 171) 89 rfl rfl (by decide) ?_
            refine bp_iload_n (q := 172) 90 rfl rfl rfl rfl ?_
            refine bp_callV (q := 175) (ci := 9) 91 rfl rfl cw_Mo_failIf lk_Mo_118 rfl hB1.kb wd1449 wd44 rfl rfl (Nat.le_of_ble_eq_true rfl) ⟨Nat.le_of_ble_eq_true rfl, Nat.le_of_ble_eq_true rfl⟩ (s_Mo_failIf1 hB1 (by decide) ?_)
            refine bp_iconst (v := 0) (q := 176) 92 rfl rfl (by decide) ?_
            refine bp_istore (q := 178) 93 rfl rfl (by decide) (bp_up6 rfl) ?_
            refine bp_aload_n (q := 179) 94 rfl rfl rfl rfl ?_
            refine bp_getI (q := 182) (ci := 9) (j := 13) 95 rfl rfl fl_Mo_69_9 hB1.kb rfl ?_
            rw [hB1.i13]
            refine bp_if_ne (q := 185) (tgt := 203) 96 rfl rfl (by decide) (fun z182 => ?_) (fun z => absurd z (by decide))
            refine bp_goto (tgt := 88) 108 rfl (by decide) ?_
            exact lp_Mo_rrG hB1 (by decide) hb.1 hb.2 hQ0
          · refine bp_iconst (v := 1) (q := 165) 86 rfl rfl (by decide) ?_
            refine bp_goto (tgt := 169) 87 rfl (by decide) ?_
            refine bp_bipush (v := -10) (q := 171) 89 rfl rfl (by decide) ?_
            refine bp_iload_n (q := 172) 90 rfl rfl rfl rfl ?_
            refine bp_callV (q := 175) (ci := 9) 91 rfl rfl cw_Mo_failIf lk_Mo_118 rfl hB1.kb wd1449 wd44 rfl rfl (Nat.le_of_ble_eq_true rfl) ⟨Nat.le_of_ble_eq_true rfl, Nat.le_of_ble_eq_true rfl⟩ (s_Mo_failIf1 hB1 (by decide) ?_)
            refine bp_iconst (v := 0) (q := 176) 92 rfl rfl (by decide) ?_
            refine bp_istore (q := 178) 93 rfl rfl (by decide) (bp_up6 rfl) ?_
            refine bp_aload_n (q := 179) 94 rfl rfl rfl rfl ?_
            refine bp_getI (q := 182) (ci := 9) (j := 13) 95 rfl rfl fl_Mo_69_9 hB1.kb rfl ?_
            rw [hB1.i13]
            refine bp_if_ne (q := 185) (tgt := 203) 96 rfl rfl (by decide) (fun z182 => ?_) (fun z => absurd z (by decide))
            refine bp_goto (tgt := 88) 108 rfl (by decide) ?_
            exact lp_Mo_rrG hB1 (by decide) hb.1 hb.2 hQ0
    · obtain ⟨x0, nx, x1, x2, ex⟩ := (hG.1.letter (fa := 0) (me := -1) (ip := true) (ot := ot) (rs := rs) (hl := false) (ed := false) (sy := sy) (sz := sz) (co := co) (L := L1) (ps := p1 ++ [(x, y, L1.length)]) hC).2.2 hn (by rintro (z | z) <;> cases z)
      subst nx
      rw [tLt_u, if_neg (by rintro (z | z) <;> cases z)] at ex
      have s1 := TT_step hC hU rfl hi
      have m1 := okU_thing hC.1 hC.2 hU rfl hi
      rw [ex] at s1 m1
      rw [hG.2.2] at s1
      refine bp_callV (q := 108) (ci := 9) 54 rfl rfl cw_Mo_accept lk_Mo_323 rfl hB0.kb wd1615 wd70 rfl rfl (Nat.le_of_ble_eq_true rfl) ⟨Nat.le_of_ble_eq_true rfl, Nat.le_of_ble_eq_true rfl⟩ (s_Mo_accept0 hB0 hn (fun h1 hB1 => ?_))
      refine bp_istore (q := 110) 55 rfl rfl (by decide) (bp_up7 rfl) ?_
      refine bp_sipush (v := 399) (q := 113) 56 rfl rfl (by decide) ?_
      refine bp_aload_n (q := 114) 57 rfl rfl rfl rfl ?_
      refine bp_getR (x := M 5) (q := 117) (ci := 9) (j := 5) 58 rfl rfl fl_Mo_17_9 hB1.kb rfl hB1.r5 ?_
      refine bp_iconst (v := 1) (q := 118) 59 rfl rfl (by decide) ?_
      refine bp_iald (q := 119) 60 rfl rfl hB1.k5 (vp_inL (n := 1) hB1.l5 (by decide) (by decide)) ?_
      rw [show bp_I _ (M 5) ((1 : Int32).toNatClampNeg) = nI (L1).length from hB1.2.2.2.2.2.2.1.2.2.1]
      refine bp_iadd (q := 120) 61 rfl rfl ?_
      have hLm := hB1.2.2.2.2.2.2.1.1
      rw [show (399 : Int32) + nI L1.length = nI (399 + L1.length) from by rw [show (399 : Int32) = nI 399 from rfl, nI_add]]
      refine bp_istore (q := 122) 62 rfl rfl (by decide) (bp_up8 rfl) ?_
      refine bp_aload_n (q := 123) 63 rfl rfl rfl rfl ?_
      refine bp_iload (q := 125) 64 rfl rfl rfl ?_
      refine bp_if_eq (q := 128) (tgt := 168) 65 rfl rfl (by decide) (fun z => absurd z (by decide)) (fun z125 => ?_)
      refine bp_aload_n (q := 129) 66 rfl rfl rfl rfl ?_
      refine bp_getR (x := M 5) (q := 132) (ci := 9) (j := 5) 67 rfl rfl fl_Mo_17_9 hB1.kb rfl hB1.r5 ?_
      refine bp_iconst (v := 1) (q := 133) 68 rfl rfl (by decide) ?_
      refine bp_iald (q := 134) 69 rfl rfl hB1.k5 (vp_inL (n := 1) hB1.l5 (by decide) (by decide)) ?_
      rw [show bp_I _ (M 5) ((1 : Int32).toNatClampNeg) = nI (L1).length from hB1.2.2.2.2.2.2.1.2.2.1]
      refine bp_if_le (q := 137) (tgt := 168) 70 rfl rfl (by decide) (fun z134 => ?_) (fun z134 => ?_)
      · refine bp_iconst (v := 0) (q := 169) 88 rfl rfl (by decide) ?_
        refine bp_bipush (v := -10) (q := 171) 89 rfl rfl (by decide) ?_
        refine bp_iload_n (q := 172) 90 rfl rfl rfl rfl ?_
        refine bp_callV (q := 175) (ci := 9) 91 rfl rfl cw_Mo_failIf lk_Mo_118 rfl hB1.kb wd1449 wd44 rfl rfl (Nat.le_of_ble_eq_true rfl) ⟨Nat.le_of_ble_eq_true rfl, Nat.le_of_ble_eq_true rfl⟩ (s_Mo_failIfN hB1 rfl ?_)
        refine bp_iconst (v := 0) (q := 176) 92 rfl rfl (by decide) ?_
        refine bp_istore (q := 178) 93 rfl rfl (by decide) (bp_up6 rfl) ?_
        refine bp_aload_n (q := 179) 94 rfl rfl rfl rfl ?_
        refine bp_getI (q := 182) (ci := 9) (j := 13) 95 rfl rfl fl_Mo_69_9 hB1.kb rfl ?_
        rw [hB1.i13]
        refine bp_if_ne (q := 185) (tgt := 203) 96 rfl rfl (by decide) (fun z => absurd z (by decide)) (fun z182 => ?_)
        refine bp_aload_n (q := 186) 97 rfl rfl rfl rfl ?_
        refine bp_iconst (v := 1) (q := 187) 98 rfl rfl (by decide) ?_
        refine bp_iload (q := 189) 99 rfl rfl rfl ?_
        refine bp_iload_n (q := 190) 100 rfl rfl rfl rfl ?_
        refine bp_aload_n (q := 191) 101 rfl rfl rfl rfl ?_
        refine bp_getR (x := M 6) (q := 194) (ci := 9) (j := 6) 102 rfl rfl fl_Mo_21_9 hB1.kb rfl hB1.r6 ?_
        refine bp_iconst (v := 1) (q := 195) 103 rfl rfl (by decide) ?_
        refine bp_iald (q := 196) 104 rfl rfl hB1.k6 (vp_inL (n := 1) hB1.l6 (by decide) (by decide)) ?_
        rw [show bp_I _ (M 6) ((1 : Int32).toNatClampNeg) = nI (p1).length from hB1.2.2.2.2.2.2.1.2.2.2.1]
        have hnc : ¬ llk L1 (p1 ++ [(x, y, L1.length)]) = some (sy + 8 * co + 64 * sz) := llk_n0 (by have := (nI_le_iff (a := L1.length) (b := 0) (by omega) (by decide)).mp z134; omega)
        rw [if_neg (fun z => hnc z.2.2), pLast_sn] at s1 m1
        have hl2 : (if ot ≠ 0 then true else false) = decide (ot ≠ 0) := hl_3
        rw [hl2] at s1 m1
        have hie : i < e := m1.2.resolve_right (fun z => z rfl)
        have heT : e ≤ T.length := m1.1.1
        have hps : pst p1 p1.length ≤ L1.length := by have z := pst_le okp (j := p1.length) (by rw [List.length_append]; omega); rw [pst_sn (Nat.le_refl _)] at z; exact z
        have e9 : (L1 ++ [(x0, (sy + 8 * co + 64 * sz))]).length = L1.length + 1 := by rw [List.length_append]; rfl
        rw [← e9] at s1 m1
        refine bp_callV (q := 199) (ci := 9) 105 rfl rfl cw_Mo_addLetter lk_Mo_111 rfl hB1.kb wd1523 wd57 rfl rfl (Nat.le_of_ble_eq_true rfl) ⟨Nat.le_of_ble_eq_true rfl, Nat.le_of_ble_eq_true rfl⟩ (s_Mo_addLetter1 (u := x0) (y := (sy + 8 * co + 64 * sz)) (q := p1.length) (ps' := p1) hB1 (by omega) rfl (fun _ _ => ⟨rfl, rfl⟩) (fun _ _ => rfl) ((pIx_all (fun q hq => okp.ends q (List.mem_append_left _ hq))).symm) (fun h2 hB2 => ?_))
        refine bp_aload_n (q := 200) 106 rfl rfl rfl rfl ?_
        refine bp_callV (q := 203) (ci := 9) 107 rfl rfl cw_Mo_lookAhead lk_Mo_320 rfl hB2.kb wd1576 wd64 rfl rfl (Nat.le_of_ble_eq_true rfl) ⟨Nat.le_of_ble_eq_true rfl, Nat.le_of_ble_eq_true rfl⟩ (s_Mo_lookAhead hB2 hC.1 (by omega) (fun h3 k' n' e' hL' hB3 => ?_))
        refine bp_goto (tgt := 88) 108 rfl (by decide) ?_
        exact lp_Mo_rrL hC hI hQ1 hQ0 T.length e k' n' e' _ _ _ _ (by omega) hB3 ⟨hL', m1.1, s1.symm⟩ (by rw [e9]; exact llk_put hps) (by omega)
      · refine bp_aload_n (q := 138) 71 rfl rfl rfl rfl ?_
        refine bp_getR (x := M 9) (q := 141) (ci := 9) (j := 9) 72 rfl rfl fl_Mo_30_9 hB1.kb rfl hB1.r9 ?_
        refine bp_iload (q := 143) 73 rfl rfl rfl ?_
        have hL0 : 0 < L1.length := Nat.pos_of_ne_zero (fun e_ => absurd z134 (fun q_ => q_ (by rw [e_]; decide)))
        refine bp_iald (q := 144) 74 rfl rfl hB1.k9 (vp_inL hB1.l9 (by omega) (by decide)) ?_
        rw [nI_clamp (by omega), show bp_I _ (M 9) (399 + L1.length) = nI (pIx p1 (L1.length - 1)) from by have z := (hB1.2.2.2.2.2.2.1.2.2.2.2.1 (L1.length - 1) (by omega)).2.2; rw [show 400 * 1 + (L1.length - 1) = 399 + L1.length by omega] at z; exact z]
        refine bp_aload_n (q := 145) 75 rfl rfl rfl rfl ?_
        refine bp_getR (x := M 6) (q := 148) (ci := 9) (j := 6) 76 rfl rfl fl_Mo_21_9 hB1.kb rfl hB1.r6 ?_
        refine bp_iconst (v := 1) (q := 149) 77 rfl rfl (by decide) ?_
        refine bp_iald (q := 150) 78 rfl rfl hB1.k6 (vp_inL (n := 1) hB1.l6 (by decide) (by decide)) ?_
        rw [show bp_I _ (M 6) ((1 : Int32).toNatClampNeg) = nI (p1).length from hB1.2.2.2.2.2.2.1.2.2.2.1]
        refine bp_icmp_ne (q := 153) (tgt := 168) 79 rfl rfl (by decide) (fun z150 => ?_) (fun z150 => ?_)
        · refine bp_iconst (v := 0) (q := 169) 88 rfl rfl (by decide) ?_
          refine bp_bipush (v := -10) (q := 171) 89 rfl rfl (by decide) ?_
          refine bp_iload_n (q := 172) 90 rfl rfl rfl rfl ?_
          refine bp_callV (q := 175) (ci := 9) 91 rfl rfl cw_Mo_failIf lk_Mo_118 rfl hB1.kb wd1449 wd44 rfl rfl (Nat.le_of_ble_eq_true rfl) ⟨Nat.le_of_ble_eq_true rfl, Nat.le_of_ble_eq_true rfl⟩ (s_Mo_failIfN hB1 rfl ?_)
          refine bp_iconst (v := 0) (q := 176) 92 rfl rfl (by decide) ?_
          refine bp_istore (q := 178) 93 rfl rfl (by decide) (bp_up6 rfl) ?_
          refine bp_aload_n (q := 179) 94 rfl rfl rfl rfl ?_
          refine bp_getI (q := 182) (ci := 9) (j := 13) 95 rfl rfl fl_Mo_69_9 hB1.kb rfl ?_
          rw [hB1.i13]
          refine bp_if_ne (q := 185) (tgt := 203) 96 rfl rfl (by decide) (fun z => absurd z (by decide)) (fun z182 => ?_)
          refine bp_aload_n (q := 186) 97 rfl rfl rfl rfl ?_
          refine bp_iconst (v := 1) (q := 187) 98 rfl rfl (by decide) ?_
          refine bp_iload (q := 189) 99 rfl rfl rfl ?_
          refine bp_iload_n (q := 190) 100 rfl rfl rfl rfl ?_
          refine bp_aload_n (q := 191) 101 rfl rfl rfl rfl ?_
          refine bp_getR (x := M 6) (q := 194) (ci := 9) (j := 6) 102 rfl rfl fl_Mo_21_9 hB1.kb rfl hB1.r6 ?_
          refine bp_iconst (v := 1) (q := 195) 103 rfl rfl (by decide) ?_
          refine bp_iald (q := 196) 104 rfl rfl hB1.k6 (vp_inL (n := 1) hB1.l6 (by decide) (by decide)) ?_
          rw [show bp_I _ (M 6) ((1 : Int32).toNatClampNeg) = nI (p1).length from hB1.2.2.2.2.2.2.1.2.2.2.1]
          have hnc : ¬ llk L1 (p1 ++ [(x, y, L1.length)]) = some (sy + 8 * co + 64 * sz) := llk_np okp hL0 (fun z => z150 (by rw [z]))
          rw [if_neg (fun z => hnc z.2.2), pLast_sn] at s1 m1
          have hl2 : (if ot ≠ 0 then true else false) = decide (ot ≠ 0) := hl_3
          rw [hl2] at s1 m1
          have hie : i < e := m1.2.resolve_right (fun z => z rfl)
          have heT : e ≤ T.length := m1.1.1
          have hps : pst p1 p1.length ≤ L1.length := by have z := pst_le okp (j := p1.length) (by rw [List.length_append]; omega); rw [pst_sn (Nat.le_refl _)] at z; exact z
          have e9 : (L1 ++ [(x0, (sy + 8 * co + 64 * sz))]).length = L1.length + 1 := by rw [List.length_append]; rfl
          rw [← e9] at s1 m1
          refine bp_callV (q := 199) (ci := 9) 105 rfl rfl cw_Mo_addLetter lk_Mo_111 rfl hB1.kb wd1523 wd57 rfl rfl (Nat.le_of_ble_eq_true rfl) ⟨Nat.le_of_ble_eq_true rfl, Nat.le_of_ble_eq_true rfl⟩ (s_Mo_addLetter1 (u := x0) (y := (sy + 8 * co + 64 * sz)) (q := p1.length) (ps' := p1) hB1 (by omega) rfl (fun _ _ => ⟨rfl, rfl⟩) (fun _ _ => rfl) ((pIx_all (fun q hq => okp.ends q (List.mem_append_left _ hq))).symm) (fun h2 hB2 => ?_))
          refine bp_aload_n (q := 200) 106 rfl rfl rfl rfl ?_
          refine bp_callV (q := 203) (ci := 9) 107 rfl rfl cw_Mo_lookAhead lk_Mo_320 rfl hB2.kb wd1576 wd64 rfl rfl (Nat.le_of_ble_eq_true rfl) ⟨Nat.le_of_ble_eq_true rfl, Nat.le_of_ble_eq_true rfl⟩ (s_Mo_lookAhead hB2 hC.1 (by omega) (fun h3 k' n' e' hL' hB3 => ?_))
          refine bp_goto (tgt := 88) 108 rfl (by decide) ?_
          exact lp_Mo_rrL hC hI hQ1 hQ0 T.length e k' n' e' _ _ _ _ (by omega) hB3 ⟨hL', m1.1, s1.symm⟩ (by rw [e9]; exact llk_put hps) (by omega)
        · refine bp_aload_n (q := 154) 80 rfl rfl rfl rfl ?_
          refine bp_getR (x := M 8) (q := 157) (ci := 9) (j := 8) 81 rfl rfl fl_Mo_27_9 hB1.kb rfl hB1.r8 ?_
          refine bp_iload (q := 159) 82 rfl rfl rfl ?_
          refine bp_iald (q := 160) 83 rfl rfl hB1.k8 (vp_inL hB1.l8 (by omega) (by decide)) ?_
          rw [nI_clamp (by omega), show bp_I _ (M 8) (399 + L1.length) = nI (cmL ((lkL L1).getD (L1.length - 1) 0)) from by have z := (hB1.2.2.2.2.2.2.1.2.2.2.2.1 (L1.length - 1) (by omega)).2.1; rw [show 400 * 1 + (L1.length - 1) = 399 + L1.length by omega] at z; exact z]
          refine bp_iload_n (q := 161) 84 rfl rfl rfl rfl ?_
          refine bp_icmp_ne (q := 164) (tgt := 168) 85 rfl rfl (by decide) (fun z161 => ?_) (fun z161 => ?_)
          · refine bp_iconst (v := 0) (q := 169) 88 rfl rfl (by decide) ?_
            refine bp_bipush (v := -10) (q := 171) 89 rfl rfl (by decide) ?_
            refine bp_iload_n (q := 172) 90 rfl rfl rfl rfl ?_
            refine bp_callV (q := 175) (ci := 9) 91 rfl rfl cw_Mo_failIf lk_Mo_118 rfl hB1.kb wd1449 wd44 rfl rfl (Nat.le_of_ble_eq_true rfl) ⟨Nat.le_of_ble_eq_true rfl, Nat.le_of_ble_eq_true rfl⟩ (s_Mo_failIfN hB1 rfl ?_)
            refine bp_iconst (v := 0) (q := 176) 92 rfl rfl (by decide) ?_
            refine bp_istore (q := 178) 93 rfl rfl (by decide) (bp_up6 rfl) ?_
            refine bp_aload_n (q := 179) 94 rfl rfl rfl rfl ?_
            refine bp_getI (q := 182) (ci := 9) (j := 13) 95 rfl rfl fl_Mo_69_9 hB1.kb rfl ?_
            rw [hB1.i13]
            refine bp_if_ne (q := 185) (tgt := 203) 96 rfl rfl (by decide) (fun z => absurd z (by decide)) (fun z182 => ?_)
            refine bp_aload_n (q := 186) 97 rfl rfl rfl rfl ?_
            refine bp_iconst (v := 1) (q := 187) 98 rfl rfl (by decide) ?_
            refine bp_iload (q := 189) 99 rfl rfl rfl ?_
            refine bp_iload_n (q := 190) 100 rfl rfl rfl rfl ?_
            refine bp_aload_n (q := 191) 101 rfl rfl rfl rfl ?_
            refine bp_getR (x := M 6) (q := 194) (ci := 9) (j := 6) 102 rfl rfl fl_Mo_21_9 hB1.kb rfl hB1.r6 ?_
            refine bp_iconst (v := 1) (q := 195) 103 rfl rfl (by decide) ?_
            refine bp_iald (q := 196) 104 rfl rfl hB1.k6 (vp_inL (n := 1) hB1.l6 (by decide) (by decide)) ?_
            rw [show bp_I _ (M 6) ((1 : Int32).toNatClampNeg) = nI (p1).length from hB1.2.2.2.2.2.2.1.2.2.2.1]
            have hnc : ¬ llk L1 (p1 ++ [(x, y, L1.length)]) = some (sy + 8 * co + 64 * sz) := llk_nl (fun z => z161 (by rw [z]))
            rw [if_neg (fun z => hnc z.2.2), pLast_sn] at s1 m1
            have hl2 : (if ot ≠ 0 then true else false) = decide (ot ≠ 0) := hl_3
            rw [hl2] at s1 m1
            have hie : i < e := m1.2.resolve_right (fun z => z rfl)
            have heT : e ≤ T.length := m1.1.1
            have hps : pst p1 p1.length ≤ L1.length := by have z := pst_le okp (j := p1.length) (by rw [List.length_append]; omega); rw [pst_sn (Nat.le_refl _)] at z; exact z
            have e9 : (L1 ++ [(x0, (sy + 8 * co + 64 * sz))]).length = L1.length + 1 := by rw [List.length_append]; rfl
            rw [← e9] at s1 m1
            refine bp_callV (q := 199) (ci := 9) 105 rfl rfl cw_Mo_addLetter lk_Mo_111 rfl hB1.kb wd1523 wd57 rfl rfl (Nat.le_of_ble_eq_true rfl) ⟨Nat.le_of_ble_eq_true rfl, Nat.le_of_ble_eq_true rfl⟩ (s_Mo_addLetter1 (u := x0) (y := (sy + 8 * co + 64 * sz)) (q := p1.length) (ps' := p1) hB1 (by omega) rfl (fun _ _ => ⟨rfl, rfl⟩) (fun _ _ => rfl) ((pIx_all (fun q hq => okp.ends q (List.mem_append_left _ hq))).symm) (fun h2 hB2 => ?_))
            refine bp_aload_n (q := 200) 106 rfl rfl rfl rfl ?_
            refine bp_callV (q := 203) (ci := 9) 107 rfl rfl cw_Mo_lookAhead lk_Mo_320 rfl hB2.kb wd1576 wd64 rfl rfl (Nat.le_of_ble_eq_true rfl) ⟨Nat.le_of_ble_eq_true rfl, Nat.le_of_ble_eq_true rfl⟩ (s_Mo_lookAhead hB2 hC.1 (by omega) (fun h3 k' n' e' hL' hB3 => ?_))
            refine bp_goto (tgt := 88) 108 rfl (by decide) ?_
            exact lp_Mo_rrL hC hI hQ1 hQ0 T.length e k' n' e' _ _ _ _ (by omega) hB3 ⟨hL', m1.1, s1.symm⟩ (by rw [e9]; exact llk_put hps) (by omega)
          · refine bp_iconst (v := 1) (q := 165) 86 rfl rfl (by decide) ?_
            refine bp_goto (tgt := 169) 87 rfl (by decide) ?_
            refine bp_bipush (v := -10) (q := 171) 89 rfl rfl (by decide) ?_
            refine bp_iload_n (q := 172) 90 rfl rfl rfl rfl ?_
            refine bp_callV (q := 175) (ci := 9) 91 rfl rfl cw_Mo_failIf lk_Mo_118 rfl hB1.kb wd1449 wd44 rfl rfl (Nat.le_of_ble_eq_true rfl) ⟨Nat.le_of_ble_eq_true rfl, Nat.le_of_ble_eq_true rfl⟩ (s_Mo_failIf0 hB1 (by decide) rfl (fun h2 hB2 => ?_))
            refine bp_iconst (v := 0) (q := 176) 92 rfl rfl (by decide) ?_
            refine bp_istore (q := 178) 93 rfl rfl (by decide) (bp_up6 rfl) ?_
            refine bp_aload_n (q := 179) 94 rfl rfl rfl rfl ?_
            refine bp_getI (q := 182) (ci := 9) (j := 13) 95 rfl rfl fl_Mo_69_9 hB2.kb rfl ?_
            rw [hB2.i13]
            refine bp_if_ne (q := 185) (tgt := 203) 96 rfl rfl (by decide) (fun z182 => ?_) (fun z => absurd z (by decide))
            refine bp_goto (tgt := 88) 108 rfl (by decide) ?_
            have hla : (lkL L1).getD (L1.length - 1) 0 = (sy + 8 * co + 64 * sz) := cmL_inj (okp.2.2.2 (L1.length - 1) (by omega)).2 (by have := hI.2.2.2.2.2.2.1; have := hI.2.2.2.2.2.2.2; have := hI.2.1; omega) ((nI_eq_iff (by unfold cmL; have := (okp.2.2.2 (L1.length - 1) (by omega)).2; omega) (by have := hI.2.2.2.2.2.2.1; have := hI.2.2.2.2.2.2.2; have := hI.2.1; unfold cmL; omega)).mp (by first | exact z161 | exact Classical.not_not.mp z161))
            have hpp : pIx p1 (L1.length - 1) = p1.length := (nI_eq_iff (by have := pIx_le p1 (L1.length - 1); have := hp16; omega) (by omega)).mp (by first | exact z150 | exact Classical.not_not.mp z150)
            have hcl : llk L1 (p1 ++ [(x, y, L1.length)]) = some (sy + 8 * co + 64 * sz) := by rw [llk_is okp hL0 hpp, hla]
            have hot0 : ot ≠ 0 := fun z => hinv z (by rw [hcl, hI.2.1, hI.2.2.1 (by omega), hI.2.2.2.1 (by omega), z])
            rw [if_pos ⟨hot0, rfl, hcl⟩] at s1
            rw [TT_f (show (-10 : Int32) ≠ 0 by decide)] at s1
            rw [hnz hot0] at s1
            exact lp_Mo_rrG hB2 (by decide) (by rw [s1]; rfl) (by rw [s1]; rfl) hQ0
set_option maxRecDepth 100000 in
set_option maxHeartbeats 4000000 in
theorem s_Mo_readRun {k e rs : Nat} {n : Int32} (hB0 : MoX M h0 h tw i 0 fm tl lk al ind sk dp lv fr en nf nn dg nu k n e T xs L ps L1 p1 nt tb fd) (hC : okC T) (hG : TGd T R i k n e 0 rs false false 0 12 0 L1 p1 x y) (h11 : ¬ k = 11) (hinv : k = 13 → ¬ llk L1 (p1 ++ [(x, y, L1.length)]) = some 768) (hQ1 : ∀ h' i' k' n' e' rs' L', MoX M h0 h' tw i' 0 fm tl lk al ind sk dp lv fr en nf nn dg nu k' n' e' T xs L ps L' p1 nt tb fd → TGd T R i' k' n' e' 0 rs' false false 0 12 0 L' p1 x y → (k' = 13 → ¬ llk L' (p1 ++ [(x, y, L'.length)]) = some 768) → i < i' → Q none h' c s) (hQ0 : ∀ h', TBd M h0 h' tw tl lk al ind sk dp lv fr en nf nn dg nu T xs L ps nt tb fd R → Q none h' c s) : bp_AM l G H0 (7, 159, false, false) M_Mo_readRun h c s [.ref (M 0)] Q := by
  refine bp_of (ls := [some (.ref (M 0)), none, none, none, none, none, none, none, none]) (by decide) dt_Mo_readRun (Nat.le_of_ble_eq_true rfl) (fun q hq => hq) false ?_
  have hT4 := hC.1.1
  refine bp_aload_n (q := 1) 0 rfl rfl rfl rfl ?_
  refine bp_getI (q := 4) (ci := 9) (j := 12) 1 rfl rfl fl_Mo_90_9 hB0.kb rfl ?_
  rw [hB0.i12]
  refine bp_istore_n (q := 5) 2 rfl rfl rfl (by decide) (bp_up1 rfl) ?_
  refine bp_aload_n (q := 6) 3 rfl rfl rfl rfl ?_
  refine bp_callV (q := 9) (ci := 9) 4 rfl rfl cw_Mo_readTags lk_Mo_329 rfl hB0.kb wd1623 wd72 rfl rfl (Nat.le_of_ble_eq_true rfl) ⟨Nat.le_of_ble_eq_true rfl, Nat.le_of_ble_eq_true rfl⟩ (s_Mo_readTags (x := x) (y := y) hB0 hC hG (fun h1 i1 k1 n1 e1 ot rs1 sy sz co lst hB1 hG1 hI hx hnz hz hge => ?_) (fun h1 v hbd => ?_))
  · have hk14 := hG1.1.le
    have hiT : i1 ≤ T.length := hG1.2.1.1
    have hI1 := hI.1
    have hI2 := hI.2.1
    have hI6 := hI.2.2.2.2.2.2.1
    have hI7 := hI.2.2.2.2.2.2.2
    refine bp_istore_n (q := 10) 5 rfl rfl rfl (by decide) (bp_up2 rfl) ?_
    refine bp_iload_n (q := 11) 6 rfl rfl rfl rfl ?_
    refine bp_bipush (v := 64) (q := 13) 7 rfl rfl (by decide) ?_
    refine bp_idiv (q := 14) 8 rfl rfl (by decide) ?_
    rw [show nI ((sy + 8 * sz + 1024 * co) * 64 + 2 * ot) / 64 = nI (cmL (sy + 8 * co + 64 * sz)) from by rw [show (64 : Int32) = nI 64 from rfl, nI_div (by omega) (by decide), cmL_lk (by omega) (by omega)]; congr 1; omega]
    refine bp_istore_n (q := 15) 9 rfl rfl rfl (by decide) (bp_up3 rfl) ?_
    refine bp_iload_n (q := 16) 10 rfl rfl rfl rfl ?_
    refine bp_bipush (v := 64) (q := 18) 11 rfl rfl (by decide) ?_
    refine bp_irem (q := 19) 12 rfl rfl (by decide) ?_
    rw [show nI ((sy + 8 * sz + 1024 * co) * 64 + 2 * ot) - nI ((sy + 8 * sz + 1024 * co) * 64 + 2 * ot) / 64 * 64 = nI (2 * ot) from by rw [show (64 : Int32) = nI 64 from rfl, nI_rem (by omega) (by decide)]; congr 1; omega]
    refine bp_istore (q := 21) 13 rfl rfl (by decide) (bp_up4 rfl) ?_
    refine bp_aload_n (q := 22) 14 rfl rfl rfl rfl ?_
    refine bp_getI (q := 25) (ci := 9) (j := 31) 15 rfl rfl fl_Mo_267_9 hB1.kb rfl ?_
    rw [hB1.i31]
    refine bp_bipush (v := 6) (q := 27) 16 rfl rfl (by decide) ?_
    refine bp_icmp_lt (q := 30) (tgt := 43) 17 rfl rfl (by decide) (fun z27 => ?_) (fun z27 => ?_)
    · refine bp_iconst (v := 0) (q := 44) 24 rfl rfl (by decide) ?_
      refine bp_istore (q := 46) 25 rfl rfl (by decide) (bp_up5 rfl) ?_
      refine bp_aload_n (q := 47) 26 rfl rfl rfl rfl ?_
      refine bp_aload_n (q := 48) 27 rfl rfl rfl rfl ?_
      refine bp_getI (q := 51) (ci := 9) (j := 31) 28 rfl rfl fl_Mo_267_9 hB1.kb rfl ?_
      rw [hB1.i31]
      refine bp_bipush (v := 13) (q := 53) 29 rfl rfl (by decide) ?_
      refine bp_icmp_eq (q := 56) (tgt := 60) 30 rfl rfl (by decide) (fun z53 => ?_) (fun z53 => ?_)
      · have := (nI_eq_iff (a := k1) (b := 13) (by omega) (by decide)).mp z53
        have := (nI_lt_iff (a := k1) (b := 6) (by omega) (by decide)).mp z27
        omega
      · refine bp_iconst (v := 1) (q := 57) 31 rfl rfl (by decide) ?_
        refine bp_goto (tgt := 61) 32 rfl (by decide) ?_
        refine bp_iload (q := 63) 34 rfl rfl rfl ?_
        refine bp_if_le (q := 66) (tgt := 76) 35 rfl rfl (by decide) (fun z63 => ?_) (fun z63 => ?_)
        · refine bp_bipush (v := -9) (q := 78) 40 rfl rfl (by decide) ?_
          refine bp_aload_n (q := 79) 41 rfl rfl rfl rfl ?_
          refine bp_getI (q := 82) (ci := 9) (j := 12) 42 rfl rfl fl_Mo_90_9 hB1.kb rfl ?_
          rw [hB1.i12]
          refine bp_callV (q := 85) (ci := 9) 43 rfl rfl cw_Mo_failIf lk_Mo_118 rfl hB1.kb wd1449 wd44 rfl rfl (Nat.le_of_ble_eq_true rfl) ⟨Nat.le_of_ble_eq_true rfl, Nat.le_of_ble_eq_true rfl⟩ (s_Mo_failIf0 hB1 (by decide) rfl (fun h2 hB2 => ?_))
          refine bp_iconst (v := 1) (q := 86) 44 rfl rfl (by decide) ?_
          refine bp_istore (q := 88) 45 rfl rfl (by decide) (bp_up6 rfl) ?_
          have hk13 : ¬ k1 = 13 := fun z => z53 (by rw [z]; rfl)
          obtain ⟨r1, r2⟩ := tags_bad hC hG1.1 hG1.2.1 hI hx hk13 (fun z w_ => h11 ((hz z).2.symm.trans w_))
          rw [hG1.2.2] at r1 r2
          have y63 : ot = 0 := by have := (nI_le_iff (a := 2 * ot) (b := 0) (by omega) (by decide)).mp z63; omega
          have y27 := (nI_lt_iff (a := k1) (b := 6) (by omega) (by decide)).mp z27
          rw [if_neg (by omega)] at r1
          exact lp_Mo_rrG hB2 (by decide) r1 r2 hQ0
        · refine bp_iload (q := 68) 36 rfl rfl rfl ?_
          refine bp_if_eq (q := 71) (tgt := 76) 37 rfl rfl (by decide) (fun z68 => ?_) (fun z => absurd z (by decide))
          refine bp_bipush (v := -9) (q := 78) 40 rfl rfl (by decide) ?_
          refine bp_aload_n (q := 79) 41 rfl rfl rfl rfl ?_
          refine bp_getI (q := 82) (ci := 9) (j := 12) 42 rfl rfl fl_Mo_90_9 hB1.kb rfl ?_
          rw [hB1.i12]
          refine bp_callV (q := 85) (ci := 9) 43 rfl rfl cw_Mo_failIf lk_Mo_118 rfl hB1.kb wd1449 wd44 rfl rfl (Nat.le_of_ble_eq_true rfl) ⟨Nat.le_of_ble_eq_true rfl, Nat.le_of_ble_eq_true rfl⟩ (s_Mo_failIf0 hB1 (by decide) rfl (fun h2 hB2 => ?_))
          refine bp_iconst (v := 1) (q := 86) 44 rfl rfl (by decide) ?_
          refine bp_istore (q := 88) 45 rfl rfl (by decide) (bp_up6 rfl) ?_
          have hk13 : ¬ k1 = 13 := fun z => z53 (by rw [z]; rfl)
          obtain ⟨r1, r2⟩ := tags_bad hC hG1.1 hG1.2.1 hI hx hk13 (fun z w_ => h11 ((hz z).2.symm.trans w_))
          rw [hG1.2.2] at r1 r2
          have y63 : ot ≠ 0 := fun e_ => z63 (by rw [e_]; decide)
          have y27 := (nI_lt_iff (a := k1) (b := 6) (by omega) (by decide)).mp z27
          rw [if_neg (by omega)] at r1
          exact lp_Mo_rrG hB2 (by decide) r1 r2 hQ0
    · refine bp_aload_n (q := 31) 18 rfl rfl rfl rfl ?_
      refine bp_getI (q := 34) (ci := 9) (j := 31) 19 rfl rfl fl_Mo_267_9 hB1.kb rfl ?_
      rw [hB1.i31]
      refine bp_bipush (v := 11) (q := 36) 20 rfl rfl (by decide) ?_
      refine bp_icmp_gt (q := 39) (tgt := 43) 21 rfl rfl (by decide) (fun z36 => ?_) (fun z36 => ?_)
      · refine bp_iconst (v := 0) (q := 44) 24 rfl rfl (by decide) ?_
        refine bp_istore (q := 46) 25 rfl rfl (by decide) (bp_up5 rfl) ?_
        refine bp_aload_n (q := 47) 26 rfl rfl rfl rfl ?_
        refine bp_aload_n (q := 48) 27 rfl rfl rfl rfl ?_
        refine bp_getI (q := 51) (ci := 9) (j := 31) 28 rfl rfl fl_Mo_267_9 hB1.kb rfl ?_
        rw [hB1.i31]
        refine bp_bipush (v := 13) (q := 53) 29 rfl rfl (by decide) ?_
        refine bp_icmp_eq (q := 56) (tgt := 60) 30 rfl rfl (by decide) (fun z53 => ?_) (fun z53 => ?_)
        · refine bp_iconst (v := 0) (q := 61) 33 rfl rfl (by decide) ?_
          refine bp_iload (q := 63) 34 rfl rfl rfl ?_
          refine bp_if_le (q := 66) (tgt := 76) 35 rfl rfl (by decide) (fun z63 => ?_) (fun z63 => ?_)
          · refine bp_bipush (v := -9) (q := 78) 40 rfl rfl (by decide) ?_
            refine bp_aload_n (q := 79) 41 rfl rfl rfl rfl ?_
            refine bp_getI (q := 82) (ci := 9) (j := 12) 42 rfl rfl fl_Mo_90_9 hB1.kb rfl ?_
            rw [hB1.i12]
            refine bp_callV (q := 85) (ci := 9) 43 rfl rfl cw_Mo_failIf lk_Mo_118 rfl hB1.kb wd1449 wd44 rfl rfl (Nat.le_of_ble_eq_true rfl) ⟨Nat.le_of_ble_eq_true rfl, Nat.le_of_ble_eq_true rfl⟩ (s_Mo_failIfN hB1 rfl ?_)
            refine bp_iconst (v := 1) (q := 86) 44 rfl rfl (by decide) ?_
            refine bp_istore (q := 88) 45 rfl rfl (by decide) (bp_up6 rfl) ?_
            have hk13 : k1 = 13 := (nI_eq_iff (b := 13) (by omega) (by decide)).mp z53
            subst hk13
            exact lp_Mo_rr1 hC hI hQ1 hQ0 hB1 hG1 hnz (fun z => hinv (hz z).2.symm) hge
          · refine bp_iload (q := 68) 36 rfl rfl rfl ?_
            refine bp_if_eq (q := 71) (tgt := 76) 37 rfl rfl (by decide) (fun z68 => ?_) (fun z => absurd z (by decide))
            refine bp_bipush (v := -9) (q := 78) 40 rfl rfl (by decide) ?_
            refine bp_aload_n (q := 79) 41 rfl rfl rfl rfl ?_
            refine bp_getI (q := 82) (ci := 9) (j := 12) 42 rfl rfl fl_Mo_90_9 hB1.kb rfl ?_
            rw [hB1.i12]
            refine bp_callV (q := 85) (ci := 9) 43 rfl rfl cw_Mo_failIf lk_Mo_118 rfl hB1.kb wd1449 wd44 rfl rfl (Nat.le_of_ble_eq_true rfl) ⟨Nat.le_of_ble_eq_true rfl, Nat.le_of_ble_eq_true rfl⟩ (s_Mo_failIfN hB1 rfl ?_)
            refine bp_iconst (v := 1) (q := 86) 44 rfl rfl (by decide) ?_
            refine bp_istore (q := 88) 45 rfl rfl (by decide) (bp_up6 rfl) ?_
            have hk13 : k1 = 13 := (nI_eq_iff (b := 13) (by omega) (by decide)).mp z53
            subst hk13
            exact lp_Mo_rr1 hC hI hQ1 hQ0 hB1 hG1 hnz (fun z => hinv (hz z).2.symm) hge
        · refine bp_iconst (v := 1) (q := 57) 31 rfl rfl (by decide) ?_
          refine bp_goto (tgt := 61) 32 rfl (by decide) ?_
          refine bp_iload (q := 63) 34 rfl rfl rfl ?_
          refine bp_if_le (q := 66) (tgt := 76) 35 rfl rfl (by decide) (fun z63 => ?_) (fun z63 => ?_)
          · refine bp_bipush (v := -9) (q := 78) 40 rfl rfl (by decide) ?_
            refine bp_aload_n (q := 79) 41 rfl rfl rfl rfl ?_
            refine bp_getI (q := 82) (ci := 9) (j := 12) 42 rfl rfl fl_Mo_90_9 hB1.kb rfl ?_
            rw [hB1.i12]
            refine bp_callV (q := 85) (ci := 9) 43 rfl rfl cw_Mo_failIf lk_Mo_118 rfl hB1.kb wd1449 wd44 rfl rfl (Nat.le_of_ble_eq_true rfl) ⟨Nat.le_of_ble_eq_true rfl, Nat.le_of_ble_eq_true rfl⟩ (s_Mo_failIf0 hB1 (by decide) rfl (fun h2 hB2 => ?_))
            refine bp_iconst (v := 1) (q := 86) 44 rfl rfl (by decide) ?_
            refine bp_istore (q := 88) 45 rfl rfl (by decide) (bp_up6 rfl) ?_
            have hk13 : ¬ k1 = 13 := fun z => z53 (by rw [z]; rfl)
            obtain ⟨r1, r2⟩ := tags_bad hC hG1.1 hG1.2.1 hI hx hk13 (fun z w_ => h11 ((hz z).2.symm.trans w_))
            rw [hG1.2.2] at r1 r2
            have y63 : ot = 0 := by have := (nI_le_iff (a := 2 * ot) (b := 0) (by omega) (by decide)).mp z63; omega
            have y27 : 6 ≤ k1 := Nat.not_lt.mp (fun e_ => z27 ((nI_lt_iff (a := k1) (b := 6) (by omega) (by decide)).mpr e_))
            have y36 := (nI_lt_iff (a := 11) (b := k1) (by decide) (by omega)).mp z36
            rw [if_neg (by omega)] at r1
            exact lp_Mo_rrG hB2 (by decide) r1 r2 hQ0
          · refine bp_iload (q := 68) 36 rfl rfl rfl ?_
            refine bp_if_eq (q := 71) (tgt := 76) 37 rfl rfl (by decide) (fun z68 => ?_) (fun z => absurd z (by decide))
            refine bp_bipush (v := -9) (q := 78) 40 rfl rfl (by decide) ?_
            refine bp_aload_n (q := 79) 41 rfl rfl rfl rfl ?_
            refine bp_getI (q := 82) (ci := 9) (j := 12) 42 rfl rfl fl_Mo_90_9 hB1.kb rfl ?_
            rw [hB1.i12]
            refine bp_callV (q := 85) (ci := 9) 43 rfl rfl cw_Mo_failIf lk_Mo_118 rfl hB1.kb wd1449 wd44 rfl rfl (Nat.le_of_ble_eq_true rfl) ⟨Nat.le_of_ble_eq_true rfl, Nat.le_of_ble_eq_true rfl⟩ (s_Mo_failIf0 hB1 (by decide) rfl (fun h2 hB2 => ?_))
            refine bp_iconst (v := 1) (q := 86) 44 rfl rfl (by decide) ?_
            refine bp_istore (q := 88) 45 rfl rfl (by decide) (bp_up6 rfl) ?_
            have hk13 : ¬ k1 = 13 := fun z => z53 (by rw [z]; rfl)
            obtain ⟨r1, r2⟩ := tags_bad hC hG1.1 hG1.2.1 hI hx hk13 (fun z w_ => h11 ((hz z).2.symm.trans w_))
            rw [hG1.2.2] at r1 r2
            have y63 : ot ≠ 0 := fun e_ => z63 (by rw [e_]; decide)
            have y27 : 6 ≤ k1 := Nat.not_lt.mp (fun e_ => z27 ((nI_lt_iff (a := k1) (b := 6) (by omega) (by decide)).mpr e_))
            have y36 := (nI_lt_iff (a := 11) (b := k1) (by decide) (by omega)).mp z36
            rw [if_neg (by omega)] at r1
            exact lp_Mo_rrG hB2 (by decide) r1 r2 hQ0
      · refine bp_iconst (v := 1) (q := 40) 22 rfl rfl (by decide) ?_
        refine bp_goto (tgt := 44) 23 rfl (by decide) ?_
        refine bp_istore (q := 46) 25 rfl rfl (by decide) (bp_up5 rfl) ?_
        refine bp_aload_n (q := 47) 26 rfl rfl rfl rfl ?_
        refine bp_aload_n (q := 48) 27 rfl rfl rfl rfl ?_
        refine bp_getI (q := 51) (ci := 9) (j := 31) 28 rfl rfl fl_Mo_267_9 hB1.kb rfl ?_
        rw [hB1.i31]
        refine bp_bipush (v := 13) (q := 53) 29 rfl rfl (by decide) ?_
        refine bp_icmp_eq (q := 56) (tgt := 60) 30 rfl rfl (by decide) (fun z53 => ?_) (fun z53 => ?_)
        · have := (nI_eq_iff (a := k1) (b := 13) (by omega) (by decide)).mp z53
          exact absurd ((nI_lt_iff (a := 11) (b := k1) (by decide) (by omega)).mpr (by omega)) z36
        · refine bp_iconst (v := 1) (q := 57) 31 rfl rfl (by decide) ?_
          refine bp_goto (tgt := 61) 32 rfl (by decide) ?_
          refine bp_iload (q := 63) 34 rfl rfl rfl ?_
          refine bp_if_le (q := 66) (tgt := 76) 35 rfl rfl (by decide) (fun z63 => ?_) (fun z63 => ?_)
          · refine bp_bipush (v := -9) (q := 78) 40 rfl rfl (by decide) ?_
            refine bp_aload_n (q := 79) 41 rfl rfl rfl rfl ?_
            refine bp_getI (q := 82) (ci := 9) (j := 12) 42 rfl rfl fl_Mo_90_9 hB1.kb rfl ?_
            rw [hB1.i12]
            refine bp_callV (q := 85) (ci := 9) 43 rfl rfl cw_Mo_failIf lk_Mo_118 rfl hB1.kb wd1449 wd44 rfl rfl (Nat.le_of_ble_eq_true rfl) ⟨Nat.le_of_ble_eq_true rfl, Nat.le_of_ble_eq_true rfl⟩ (s_Mo_failIf0 hB1 (by decide) rfl (fun h2 hB2 => ?_))
            refine bp_iconst (v := 1) (q := 86) 44 rfl rfl (by decide) ?_
            refine bp_istore (q := 88) 45 rfl rfl (by decide) (bp_up6 rfl) ?_
            have hk13 : ¬ k1 = 13 := fun z => z53 (by rw [z]; rfl)
            obtain ⟨r1, r2⟩ := tags_bad hC hG1.1 hG1.2.1 hI hx hk13 (fun z w_ => h11 ((hz z).2.symm.trans w_))
            rw [hG1.2.2] at r1 r2
            have y63 : ot = 0 := by have := (nI_le_iff (a := 2 * ot) (b := 0) (by omega) (by decide)).mp z63; omega
            have y27 : 6 ≤ k1 := Nat.not_lt.mp (fun e_ => z27 ((nI_lt_iff (a := k1) (b := 6) (by omega) (by decide)).mpr e_))
            have y36 : k1 ≤ 11 := Nat.not_lt.mp (fun e_ => z36 ((nI_lt_iff (a := 11) (b := k1) (by decide) (by omega)).mpr e_))
            rw [if_neg (by omega)] at r1
            exact lp_Mo_rrG hB2 (by decide) r1 r2 hQ0
          · refine bp_iload (q := 68) 36 rfl rfl rfl ?_
            refine bp_if_eq (q := 71) (tgt := 76) 37 rfl rfl (by decide) (fun z => absurd z (by decide)) (fun z68 => ?_)
            refine bp_bipush (v := -10) (q := 73) 38 rfl rfl (by decide) ?_
            refine bp_goto (tgt := 78) 39 rfl (by decide) ?_
            refine bp_aload_n (q := 79) 41 rfl rfl rfl rfl ?_
            refine bp_getI (q := 82) (ci := 9) (j := 12) 42 rfl rfl fl_Mo_90_9 hB1.kb rfl ?_
            rw [hB1.i12]
            refine bp_callV (q := 85) (ci := 9) 43 rfl rfl cw_Mo_failIf lk_Mo_118 rfl hB1.kb wd1449 wd44 rfl rfl (Nat.le_of_ble_eq_true rfl) ⟨Nat.le_of_ble_eq_true rfl, Nat.le_of_ble_eq_true rfl⟩ (s_Mo_failIf0 hB1 (by decide) rfl (fun h2 hB2 => ?_))
            refine bp_iconst (v := 1) (q := 86) 44 rfl rfl (by decide) ?_
            refine bp_istore (q := 88) 45 rfl rfl (by decide) (bp_up6 rfl) ?_
            have hk13 : ¬ k1 = 13 := fun z => z53 (by rw [z]; rfl)
            obtain ⟨r1, r2⟩ := tags_bad hC hG1.1 hG1.2.1 hI hx hk13 (fun z w_ => h11 ((hz z).2.symm.trans w_))
            rw [hG1.2.2] at r1 r2
            have y63 : ot ≠ 0 := fun e_ => z63 (by rw [e_]; decide)
            have y27 : 6 ≤ k1 := Nat.not_lt.mp (fun e_ => z27 ((nI_lt_iff (a := k1) (b := 6) (by omega) (by decide)).mpr e_))
            have y36 : k1 ≤ 11 := Nat.not_lt.mp (fun e_ => z36 ((nI_lt_iff (a := 11) (b := k1) (by decide) (by omega)).mpr e_))
            rw [if_pos ⟨y63, y27, y36⟩] at r1
            exact lp_Mo_rrG hB2 (by decide) r1 r2 hQ0
  · obtain ⟨fa9, fm9, i9, kd9, pn9, pe9, L9, p9, hf, hB1, r1, r2⟩ := hbd
    refine bp_istore_n (q := 10) 5 rfl rfl rfl (by decide) (bp_up2 rfl) ?_
    refine bp_iload_n (q := 11) 6 rfl rfl rfl rfl ?_
    refine bp_bipush (v := 64) (q := 13) 7 rfl rfl (by decide) ?_
    refine bp_idiv (q := 14) 8 rfl rfl (by decide) ?_
    refine bp_istore_n (q := 15) 9 rfl rfl rfl (by decide) (bp_up3 rfl) ?_
    refine bp_iload_n (q := 16) 10 rfl rfl rfl rfl ?_
    refine bp_bipush (v := 64) (q := 18) 11 rfl rfl (by decide) ?_
    refine bp_irem (q := 19) 12 rfl rfl (by decide) ?_
    refine bp_istore (q := 21) 13 rfl rfl (by decide) (bp_up4 rfl) ?_
    refine bp_aload_n (q := 22) 14 rfl rfl rfl rfl ?_
    refine bp_getI (q := 25) (ci := 9) (j := 31) 15 rfl rfl fl_Mo_267_9 hB1.kb rfl ?_
    rw [hB1.i31]
    refine bp_bipush (v := 6) (q := 27) 16 rfl rfl (by decide) ?_
    refine bp_icmp_lt (q := 30) (tgt := 43) 17 rfl rfl (by decide) (fun z27 => ?_) (fun z27 => ?_)
    · refine bp_iconst (v := 0) (q := 44) 24 rfl rfl (by decide) ?_
      refine bp_istore (q := 46) 25 rfl rfl (by decide) (bp_up5 rfl) ?_
      refine bp_aload_n (q := 47) 26 rfl rfl rfl rfl ?_
      refine bp_aload_n (q := 48) 27 rfl rfl rfl rfl ?_
      refine bp_getI (q := 51) (ci := 9) (j := 31) 28 rfl rfl fl_Mo_267_9 hB1.kb rfl ?_
      rw [hB1.i31]
      refine bp_bipush (v := 13) (q := 53) 29 rfl rfl (by decide) ?_
      refine bp_icmp_eq (q := 56) (tgt := 60) 30 rfl rfl (by decide) (fun z53 => ?_) (fun z53 => ?_)
      · refine bp_iconst (v := 0) (q := 61) 33 rfl rfl (by decide) ?_
        refine bp_iload (q := 63) 34 rfl rfl rfl ?_
        refine bp_if_le (q := 66) (tgt := 76) 35 rfl rfl (by decide) (fun z63 => ?_) (fun z63 => ?_)
        · refine bp_bipush (v := -9) (q := 78) 40 rfl rfl (by decide) ?_
          refine bp_aload_n (q := 79) 41 rfl rfl rfl rfl ?_
          refine bp_getI (q := 82) (ci := 9) (j := 12) 42 rfl rfl fl_Mo_90_9 hB1.kb rfl ?_
          rw [hB1.i12]
          refine bp_callV (q := 85) (ci := 9) 43 rfl rfl cw_Mo_failIf lk_Mo_118 rfl hB1.kb wd1449 wd44 rfl rfl (Nat.le_of_ble_eq_true rfl) ⟨Nat.le_of_ble_eq_true rfl, Nat.le_of_ble_eq_true rfl⟩ (s_Mo_failIf1 hB1 hf ?_)
          refine bp_iconst (v := 1) (q := 86) 44 rfl rfl (by decide) ?_
          refine bp_istore (q := 88) 45 rfl rfl (by decide) (bp_up6 rfl) ?_
          exact lp_Mo_rrG hB1 hf r1 r2 hQ0
        · refine bp_iload (q := 68) 36 rfl rfl rfl ?_
          refine bp_if_eq (q := 71) (tgt := 76) 37 rfl rfl (by decide) (fun z68 => ?_) (fun z => absurd z (by decide))
          refine bp_bipush (v := -9) (q := 78) 40 rfl rfl (by decide) ?_
          refine bp_aload_n (q := 79) 41 rfl rfl rfl rfl ?_
          refine bp_getI (q := 82) (ci := 9) (j := 12) 42 rfl rfl fl_Mo_90_9 hB1.kb rfl ?_
          rw [hB1.i12]
          refine bp_callV (q := 85) (ci := 9) 43 rfl rfl cw_Mo_failIf lk_Mo_118 rfl hB1.kb wd1449 wd44 rfl rfl (Nat.le_of_ble_eq_true rfl) ⟨Nat.le_of_ble_eq_true rfl, Nat.le_of_ble_eq_true rfl⟩ (s_Mo_failIf1 hB1 hf ?_)
          refine bp_iconst (v := 1) (q := 86) 44 rfl rfl (by decide) ?_
          refine bp_istore (q := 88) 45 rfl rfl (by decide) (bp_up6 rfl) ?_
          exact lp_Mo_rrG hB1 hf r1 r2 hQ0
      · refine bp_iconst (v := 1) (q := 57) 31 rfl rfl (by decide) ?_
        refine bp_goto (tgt := 61) 32 rfl (by decide) ?_
        refine bp_iload (q := 63) 34 rfl rfl rfl ?_
        refine bp_if_le (q := 66) (tgt := 76) 35 rfl rfl (by decide) (fun z63 => ?_) (fun z63 => ?_)
        · refine bp_bipush (v := -9) (q := 78) 40 rfl rfl (by decide) ?_
          refine bp_aload_n (q := 79) 41 rfl rfl rfl rfl ?_
          refine bp_getI (q := 82) (ci := 9) (j := 12) 42 rfl rfl fl_Mo_90_9 hB1.kb rfl ?_
          rw [hB1.i12]
          refine bp_callV (q := 85) (ci := 9) 43 rfl rfl cw_Mo_failIf lk_Mo_118 rfl hB1.kb wd1449 wd44 rfl rfl (Nat.le_of_ble_eq_true rfl) ⟨Nat.le_of_ble_eq_true rfl, Nat.le_of_ble_eq_true rfl⟩ (s_Mo_failIf1 hB1 hf ?_)
          refine bp_iconst (v := 1) (q := 86) 44 rfl rfl (by decide) ?_
          refine bp_istore (q := 88) 45 rfl rfl (by decide) (bp_up6 rfl) ?_
          exact lp_Mo_rrG hB1 hf r1 r2 hQ0
        · refine bp_iload (q := 68) 36 rfl rfl rfl ?_
          refine bp_if_eq (q := 71) (tgt := 76) 37 rfl rfl (by decide) (fun z68 => ?_) (fun z => absurd z (by decide))
          refine bp_bipush (v := -9) (q := 78) 40 rfl rfl (by decide) ?_
          refine bp_aload_n (q := 79) 41 rfl rfl rfl rfl ?_
          refine bp_getI (q := 82) (ci := 9) (j := 12) 42 rfl rfl fl_Mo_90_9 hB1.kb rfl ?_
          rw [hB1.i12]
          refine bp_callV (q := 85) (ci := 9) 43 rfl rfl cw_Mo_failIf lk_Mo_118 rfl hB1.kb wd1449 wd44 rfl rfl (Nat.le_of_ble_eq_true rfl) ⟨Nat.le_of_ble_eq_true rfl, Nat.le_of_ble_eq_true rfl⟩ (s_Mo_failIf1 hB1 hf ?_)
          refine bp_iconst (v := 1) (q := 86) 44 rfl rfl (by decide) ?_
          refine bp_istore (q := 88) 45 rfl rfl (by decide) (bp_up6 rfl) ?_
          exact lp_Mo_rrG hB1 hf r1 r2 hQ0
    · refine bp_aload_n (q := 31) 18 rfl rfl rfl rfl ?_
      refine bp_getI (q := 34) (ci := 9) (j := 31) 19 rfl rfl fl_Mo_267_9 hB1.kb rfl ?_
      rw [hB1.i31]
      refine bp_bipush (v := 11) (q := 36) 20 rfl rfl (by decide) ?_
      refine bp_icmp_gt (q := 39) (tgt := 43) 21 rfl rfl (by decide) (fun z36 => ?_) (fun z36 => ?_)
      · refine bp_iconst (v := 0) (q := 44) 24 rfl rfl (by decide) ?_
        refine bp_istore (q := 46) 25 rfl rfl (by decide) (bp_up5 rfl) ?_
        refine bp_aload_n (q := 47) 26 rfl rfl rfl rfl ?_
        refine bp_aload_n (q := 48) 27 rfl rfl rfl rfl ?_
        refine bp_getI (q := 51) (ci := 9) (j := 31) 28 rfl rfl fl_Mo_267_9 hB1.kb rfl ?_
        rw [hB1.i31]
        refine bp_bipush (v := 13) (q := 53) 29 rfl rfl (by decide) ?_
        refine bp_icmp_eq (q := 56) (tgt := 60) 30 rfl rfl (by decide) (fun z53 => ?_) (fun z53 => ?_)
        · refine bp_iconst (v := 0) (q := 61) 33 rfl rfl (by decide) ?_
          refine bp_iload (q := 63) 34 rfl rfl rfl ?_
          refine bp_if_le (q := 66) (tgt := 76) 35 rfl rfl (by decide) (fun z63 => ?_) (fun z63 => ?_)
          · refine bp_bipush (v := -9) (q := 78) 40 rfl rfl (by decide) ?_
            refine bp_aload_n (q := 79) 41 rfl rfl rfl rfl ?_
            refine bp_getI (q := 82) (ci := 9) (j := 12) 42 rfl rfl fl_Mo_90_9 hB1.kb rfl ?_
            rw [hB1.i12]
            refine bp_callV (q := 85) (ci := 9) 43 rfl rfl cw_Mo_failIf lk_Mo_118 rfl hB1.kb wd1449 wd44 rfl rfl (Nat.le_of_ble_eq_true rfl) ⟨Nat.le_of_ble_eq_true rfl, Nat.le_of_ble_eq_true rfl⟩ (s_Mo_failIf1 hB1 hf ?_)
            refine bp_iconst (v := 1) (q := 86) 44 rfl rfl (by decide) ?_
            refine bp_istore (q := 88) 45 rfl rfl (by decide) (bp_up6 rfl) ?_
            exact lp_Mo_rrG hB1 hf r1 r2 hQ0
          · refine bp_iload (q := 68) 36 rfl rfl rfl ?_
            refine bp_if_eq (q := 71) (tgt := 76) 37 rfl rfl (by decide) (fun z68 => ?_) (fun z => absurd z (by decide))
            refine bp_bipush (v := -9) (q := 78) 40 rfl rfl (by decide) ?_
            refine bp_aload_n (q := 79) 41 rfl rfl rfl rfl ?_
            refine bp_getI (q := 82) (ci := 9) (j := 12) 42 rfl rfl fl_Mo_90_9 hB1.kb rfl ?_
            rw [hB1.i12]
            refine bp_callV (q := 85) (ci := 9) 43 rfl rfl cw_Mo_failIf lk_Mo_118 rfl hB1.kb wd1449 wd44 rfl rfl (Nat.le_of_ble_eq_true rfl) ⟨Nat.le_of_ble_eq_true rfl, Nat.le_of_ble_eq_true rfl⟩ (s_Mo_failIf1 hB1 hf ?_)
            refine bp_iconst (v := 1) (q := 86) 44 rfl rfl (by decide) ?_
            refine bp_istore (q := 88) 45 rfl rfl (by decide) (bp_up6 rfl) ?_
            exact lp_Mo_rrG hB1 hf r1 r2 hQ0
        · refine bp_iconst (v := 1) (q := 57) 31 rfl rfl (by decide) ?_
          refine bp_goto (tgt := 61) 32 rfl (by decide) ?_
          refine bp_iload (q := 63) 34 rfl rfl rfl ?_
          refine bp_if_le (q := 66) (tgt := 76) 35 rfl rfl (by decide) (fun z63 => ?_) (fun z63 => ?_)
          · refine bp_bipush (v := -9) (q := 78) 40 rfl rfl (by decide) ?_
            refine bp_aload_n (q := 79) 41 rfl rfl rfl rfl ?_
            refine bp_getI (q := 82) (ci := 9) (j := 12) 42 rfl rfl fl_Mo_90_9 hB1.kb rfl ?_
            rw [hB1.i12]
            refine bp_callV (q := 85) (ci := 9) 43 rfl rfl cw_Mo_failIf lk_Mo_118 rfl hB1.kb wd1449 wd44 rfl rfl (Nat.le_of_ble_eq_true rfl) ⟨Nat.le_of_ble_eq_true rfl, Nat.le_of_ble_eq_true rfl⟩ (s_Mo_failIf1 hB1 hf ?_)
            refine bp_iconst (v := 1) (q := 86) 44 rfl rfl (by decide) ?_
            refine bp_istore (q := 88) 45 rfl rfl (by decide) (bp_up6 rfl) ?_
            exact lp_Mo_rrG hB1 hf r1 r2 hQ0
          · refine bp_iload (q := 68) 36 rfl rfl rfl ?_
            refine bp_if_eq (q := 71) (tgt := 76) 37 rfl rfl (by decide) (fun z68 => ?_) (fun z => absurd z (by decide))
            refine bp_bipush (v := -9) (q := 78) 40 rfl rfl (by decide) ?_
            refine bp_aload_n (q := 79) 41 rfl rfl rfl rfl ?_
            refine bp_getI (q := 82) (ci := 9) (j := 12) 42 rfl rfl fl_Mo_90_9 hB1.kb rfl ?_
            rw [hB1.i12]
            refine bp_callV (q := 85) (ci := 9) 43 rfl rfl cw_Mo_failIf lk_Mo_118 rfl hB1.kb wd1449 wd44 rfl rfl (Nat.le_of_ble_eq_true rfl) ⟨Nat.le_of_ble_eq_true rfl, Nat.le_of_ble_eq_true rfl⟩ (s_Mo_failIf1 hB1 hf ?_)
            refine bp_iconst (v := 1) (q := 86) 44 rfl rfl (by decide) ?_
            refine bp_istore (q := 88) 45 rfl rfl (by decide) (bp_up6 rfl) ?_
            exact lp_Mo_rrG hB1 hf r1 r2 hQ0
      · refine bp_iconst (v := 1) (q := 40) 22 rfl rfl (by decide) ?_
        refine bp_goto (tgt := 44) 23 rfl (by decide) ?_
        refine bp_istore (q := 46) 25 rfl rfl (by decide) (bp_up5 rfl) ?_
        refine bp_aload_n (q := 47) 26 rfl rfl rfl rfl ?_
        refine bp_aload_n (q := 48) 27 rfl rfl rfl rfl ?_
        refine bp_getI (q := 51) (ci := 9) (j := 31) 28 rfl rfl fl_Mo_267_9 hB1.kb rfl ?_
        rw [hB1.i31]
        refine bp_bipush (v := 13) (q := 53) 29 rfl rfl (by decide) ?_
        refine bp_icmp_eq (q := 56) (tgt := 60) 30 rfl rfl (by decide) (fun z53 => ?_) (fun z53 => ?_)
        · refine bp_iconst (v := 0) (q := 61) 33 rfl rfl (by decide) ?_
          refine bp_iload (q := 63) 34 rfl rfl rfl ?_
          refine bp_if_le (q := 66) (tgt := 76) 35 rfl rfl (by decide) (fun z63 => ?_) (fun z63 => ?_)
          · refine bp_bipush (v := -9) (q := 78) 40 rfl rfl (by decide) ?_
            refine bp_aload_n (q := 79) 41 rfl rfl rfl rfl ?_
            refine bp_getI (q := 82) (ci := 9) (j := 12) 42 rfl rfl fl_Mo_90_9 hB1.kb rfl ?_
            rw [hB1.i12]
            refine bp_callV (q := 85) (ci := 9) 43 rfl rfl cw_Mo_failIf lk_Mo_118 rfl hB1.kb wd1449 wd44 rfl rfl (Nat.le_of_ble_eq_true rfl) ⟨Nat.le_of_ble_eq_true rfl, Nat.le_of_ble_eq_true rfl⟩ (s_Mo_failIf1 hB1 hf ?_)
            refine bp_iconst (v := 1) (q := 86) 44 rfl rfl (by decide) ?_
            refine bp_istore (q := 88) 45 rfl rfl (by decide) (bp_up6 rfl) ?_
            exact lp_Mo_rrG hB1 hf r1 r2 hQ0
          · refine bp_iload (q := 68) 36 rfl rfl rfl ?_
            refine bp_if_eq (q := 71) (tgt := 76) 37 rfl rfl (by decide) (fun z => absurd z (by decide)) (fun z68 => ?_)
            refine bp_bipush (v := -10) (q := 73) 38 rfl rfl (by decide) ?_
            refine bp_goto (tgt := 78) 39 rfl (by decide) ?_
            refine bp_aload_n (q := 79) 41 rfl rfl rfl rfl ?_
            refine bp_getI (q := 82) (ci := 9) (j := 12) 42 rfl rfl fl_Mo_90_9 hB1.kb rfl ?_
            rw [hB1.i12]
            refine bp_callV (q := 85) (ci := 9) 43 rfl rfl cw_Mo_failIf lk_Mo_118 rfl hB1.kb wd1449 wd44 rfl rfl (Nat.le_of_ble_eq_true rfl) ⟨Nat.le_of_ble_eq_true rfl, Nat.le_of_ble_eq_true rfl⟩ (s_Mo_failIf1 hB1 hf ?_)
            refine bp_iconst (v := 1) (q := 86) 44 rfl rfl (by decide) ?_
            refine bp_istore (q := 88) 45 rfl rfl (by decide) (bp_up6 rfl) ?_
            exact lp_Mo_rrG hB1 hf r1 r2 hQ0
        · refine bp_iconst (v := 1) (q := 57) 31 rfl rfl (by decide) ?_
          refine bp_goto (tgt := 61) 32 rfl (by decide) ?_
          refine bp_iload (q := 63) 34 rfl rfl rfl ?_
          refine bp_if_le (q := 66) (tgt := 76) 35 rfl rfl (by decide) (fun z63 => ?_) (fun z63 => ?_)
          · refine bp_bipush (v := -9) (q := 78) 40 rfl rfl (by decide) ?_
            refine bp_aload_n (q := 79) 41 rfl rfl rfl rfl ?_
            refine bp_getI (q := 82) (ci := 9) (j := 12) 42 rfl rfl fl_Mo_90_9 hB1.kb rfl ?_
            rw [hB1.i12]
            refine bp_callV (q := 85) (ci := 9) 43 rfl rfl cw_Mo_failIf lk_Mo_118 rfl hB1.kb wd1449 wd44 rfl rfl (Nat.le_of_ble_eq_true rfl) ⟨Nat.le_of_ble_eq_true rfl, Nat.le_of_ble_eq_true rfl⟩ (s_Mo_failIf1 hB1 hf ?_)
            refine bp_iconst (v := 1) (q := 86) 44 rfl rfl (by decide) ?_
            refine bp_istore (q := 88) 45 rfl rfl (by decide) (bp_up6 rfl) ?_
            exact lp_Mo_rrG hB1 hf r1 r2 hQ0
          · refine bp_iload (q := 68) 36 rfl rfl rfl ?_
            refine bp_if_eq (q := 71) (tgt := 76) 37 rfl rfl (by decide) (fun z => absurd z (by decide)) (fun z68 => ?_)
            refine bp_bipush (v := -10) (q := 73) 38 rfl rfl (by decide) ?_
            refine bp_goto (tgt := 78) 39 rfl (by decide) ?_
            refine bp_aload_n (q := 79) 41 rfl rfl rfl rfl ?_
            refine bp_getI (q := 82) (ci := 9) (j := 12) 42 rfl rfl fl_Mo_90_9 hB1.kb rfl ?_
            rw [hB1.i12]
            refine bp_callV (q := 85) (ci := 9) 43 rfl rfl cw_Mo_failIf lk_Mo_118 rfl hB1.kb wd1449 wd44 rfl rfl (Nat.le_of_ble_eq_true rfl) ⟨Nat.le_of_ble_eq_true rfl, Nat.le_of_ble_eq_true rfl⟩ (s_Mo_failIf1 hB1 hf ?_)
            refine bp_iconst (v := 1) (q := 86) 44 rfl rfl (by decide) ?_
            refine bp_istore (q := 88) 45 rfl rfl (by decide) (bp_up6 rfl) ?_
            exact lp_Mo_rrG hB1 hf r1 r2 hQ0
end MO30
