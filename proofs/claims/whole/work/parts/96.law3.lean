/-! small facts for the law's cases -/
theorem okP_nil : okP [] [] := ⟨by decide, by decide, fun j hj => absurd hj (Nat.not_lt_zero j), fun k hk => absurd hk (Nat.not_lt_zero k)⟩
theorem okB_st {T nm : List Nat} (h1 : nm.length ≤ 400) (h2 : ∀ x ∈ nm, x < 128) : okB T (bStart T nm) := by
  unfold bStart
  split
  · exact okX_start h1 h2
  · exact okX_start h1 h2
theorem rd_ok {k : Int32} {L L' : List (Nat × Nat)} {ps ps' : List (Nat × Nat × Nat)} (h : okP L ps) (h' : k = 0 → okP L' ps') : okP (if k = 0 then L' else L) (if k = 0 then ps' else ps) := by
  by_cases e : k = 0
  · rw [if_pos e, if_pos e]; exact h' e
  · rw [if_neg e, if_neg e]; exact h
theorem rd_E {P : List (Nat × Nat) → List (Nat × Nat × Nat) → Prop} {k : Int32} {L L' : List (Nat × Nat)} {ps ps' : List (Nat × Nat × Nat)} (h : P L ps) (h' : k = 0 → P L' ps') : P (if k = 0 then L' else L) (if k = 0 then ps' else ps) := by
  by_cases e : k = 0
  · rw [if_pos e, if_pos e]; exact h' e
  · rw [if_neg e, if_neg e]; exact h
theorem ch_lt {xs : List Nat} (h : ∀ x ∈ xs, chO x) : ∀ j, j < xs.length → xs.getD j 0 < 128 := fun j hj => by
  rw [List.getD_eq_getElem?_getD, List.getElem?_eq_getElem hj]
  have := (h _ (List.getElem_mem hj)).2
  show xs[j] < 128
  omega
theorem ch_8 {b : Int32} (h : isCh b = true) : chO b.toNatClampNeg ∨ b.toNatClampNeg = 10 := by
  unfold isCh at h
  rw [Bool.or_eq_true, decide_eq_true_eq] at h
  rcases h with h | h
  · obtain ⟨k, k1, k2, -, k4⟩ := wi_cl (n := b) (x := 32) (y := 126) (by decide) (by decide) h
    rw [k4]
    exact Or.inl ⟨k1, by omega⟩
  · exact Or.inr (by rw [h]; rfl)
theorem okC_mem {T : List Nat} (h : okC T) : ∀ x ∈ T, chO x ∨ x = 10 ∨ x = 127 := fun x hx => by
  obtain ⟨j, hj, e⟩ := List.getElem_of_mem hx
  have a := h.1.2 j hj
  have b := h.2 j hj
  have e2 : T.getD j 0 = x := by rw [List.getD_eq_getElem?_getD, List.getElem?_eq_getElem hj]; exact e
  rw [e2] at a
  have b : T.getD j 0 = 10 ∨ 32 ≤ T.getD j 0 := b
  rw [e2] at b
  unfold chO
  omega
theorem okC_feed {T : List Nat} {x : Int64} (h : okC T) (hg : fdG x 8 0 = true) (hl : T.length + fdC x 8 0 ≤ 400) : okC (T ++ fdB x (fdC x 8 0)) := by
  have hlen : (fdB x (fdC x 8 0)).length = fdC x 8 0 := by unfold fdB; rw [List.length_map, List.length_range]
  have hm : ∀ y ∈ fdB x (fdC x 8 0), chO y ∨ y = 10 := fun y hy => by
    unfold fdB at hy
    obtain ⟨j, hj, rfl⟩ := List.mem_map.mp hy
    exact ch_8 (fdG_t x 8 0 hg j (Nat.zero_le j) (List.mem_range.mp hj))
  have g : ∀ j, j < (T ++ fdB x (fdC x 8 0)).length → 1 ≤ (T ++ fdB x (fdC x 8 0)).getD j 0 ∧ (T ++ fdB x (fdC x 8 0)).getD j 0 < 128 ∧ ((T ++ fdB x (fdC x 8 0)).getD j 0 = 10 ∨ 32 ≤ (T ++ fdB x (fdC x 8 0)).getD j 0) := fun j hj => by
    have hx : (T ++ fdB x (fdC x 8 0)).getD j 0 ∈ T ++ fdB x (fdC x 8 0) := by
      rw [List.getD_eq_getElem?_getD, List.getElem?_eq_getElem hj]
      exact List.getElem_mem hj
    generalize (T ++ fdB x (fdC x 8 0)).getD j 0 = y at hx
    rcases List.mem_append.mp hx with hx | hx
    · have := okC_mem h y hx
      unfold chO at this
      omega
    · have := hm y hx
      unfold chO at this
      omega
  refine ⟨⟨by rw [List.length_append, hlen]; exact hl, fun j hj => ⟨(g j hj).1, (g j hj).2.1⟩⟩, fun k hk => (g k hk).2.2⟩
theorem bg_wi {x y : Int32} {a b : Nat} (h1 : x = nI a) (h2 : y = nI b) (h3 : a < 3) (h4 : b < 10) : wi x 0 2 = true ∧ wi y 0 9 = true := by
  subst h1 h2
  have e1 := wi_nI (n := a) (a := 0) (b := 2) (by omega) (by decide) (by decide)
  have e2 := wi_nI (n := b) (a := 0) (b := 9) (by omega) (by decide) (by decide)
  refine ⟨e1.trans ?_, e2.trans ?_⟩ <;> simp <;> omega
theorem ad_wi {x1 x2 x3 x4 : Int32} {u sy sz co : Nat} (h1 : x1 = nI u) (h2 : x2 = nI sy) (h3 : x3 = nI sz) (h4 : x4 = nI co) (a1 : 32 ≤ u) (a2 : u < 256) (a3 : sy < 8) (a4 : 1 ≤ sz ∧ sz < 100) (a5 : co < 8) : wi x1 32 255 = true ∧ (wi x2 0 7 && (wi x3 1 99 && wi x4 0 7)) = true := by
  subst h1 h2 h3 h4
  have e1 := wi_nI (n := u) (a := 32) (b := 255) (by omega) (by decide) (by decide)
  have e2 := wi_nI (n := sy) (a := 0) (b := 7) (by omega) (by decide) (by decide)
  have e3 := wi_nI (n := sz) (a := 1) (b := 99) (by omega) (by decide) (by decide)
  have e4 := wi_nI (n := co) (a := 0) (b := 7) (by omega) (by decide) (by decide)
  refine ⟨e1.trans ?_, ?_⟩
  · simp; omega
  · rw [show wi (nI sy) 0 7 = true from e2.trans (by simp; omega), show wi (nI sz) 1 99 = true from e3.trans (by simp; omega), show wi (nI co) 0 7 = true from e4.trans (by simp; omega)]; rfl
theorem pst_gat {L : List (Nat × Nat)} {ps : List (Nat × Nat × Nat)} {a b : Nat} : pst (ps ++ [(a, b, L.length)]) (ps ++ [(a, b, L.length)]).length = L.length := by
  rw [List.length_append]
  show pst (ps ++ [(a, b, L.length)]) (ps.length + 1) = L.length
  rw [pst_s]
  unfold p_e
  rw [p_sn']
theorem pst_add {L : List (Nat × Nat)} {ps : List (Nat × Nat × Nat)} {a b x y : Nat} : pst (ps ++ [(a, b, L.length + 1)]) (ps ++ [(a, b, L.length + 1)]).length = (L ++ [(x, y)]).length := by
  rw [List.length_append, List.length_append]
  show pst (ps ++ [(a, b, L.length + 1)]) (ps.length + 1) = L.length + 1
  rw [pst_s]
  unfold p_e
  rw [p_sn']
theorem ad_val {L : List (Nat × Nat)} {qs : List (Nat × Nat × Nat)} {qa qb : Nat} {z : Nat × Nat} (h : okP (L ++ [z]) (qs ++ [(qa, qb, L.length + 1)])) : mrc (L ++ [z]) (qs ++ [(qa, qb, L.length + 1)]) qs.length (L.length + 1) 0 = rcn (lkL (L ++ [z])) (pst (qs ++ [(qa, qb, L.length + 1)]) qs.length) (L.length + 1 - pst (qs ++ [(qa, qb, L.length + 1)]) qs.length) (pst (qs ++ [(qa, qb, L.length + 1)]) qs.length) := by
  have e := mpV_paV h (p := qs.length) (by rw [List.length_append]; exact Nat.lt_succ_self _) 2
  have e2 : mrc (L ++ [z]) (qs ++ [(qa, qb, L.length + 1)]) qs.length (L ++ [z]).length 0 = rcn (lkL (L ++ [z])) (pst (qs ++ [(qa, qb, L.length + 1)]) qs.length) (p_e (qs ++ [(qa, qb, L.length + 1)]) qs.length - pst (qs ++ [(qa, qb, L.length + 1)]) qs.length) (pst (qs ++ [(qa, qb, L.length + 1)]) qs.length) := e
  rw [List.length_append, show p_e (qs ++ [(qa, qb, L.length + 1)]) qs.length = L.length + 1 from by unfold p_e; rw [p_sn']] at e2
  exact e2
theorem in_len {L : List (Nat × Nat)} {ps : List (Nat × Nat × Nat)} {x : Int32} {p : Nat} (okp : okP L ps) (h1 : p < ps.length) (h2 : x = nI p) : ¬ (x < 0 ∨ nI ps.length ≤ x) := by
  have h16 := okp.2.1
  rw [h2]
  rintro (z | z)
  · exact nI_pos (by omega) z
  · exact absurd ((nI_le_iff (by omega) (by omega)).mp z) (by omega)
theorem w4_no {y : Int32} {w : Nat} (h1 : y = nI w) (h2 : w < 4) : ¬ (y.toInt < 0 ∨ 3 < y.toInt) := by
  rw [h1, nI_toInt (by omega)]
  omega
theorem nI_q {a b : Nat} (ha : a < 2 ^ 31) (hb : b < 2 ^ 31) (h : nI a = nI b) : a = b := by
  have e := congrArg Int32.toInt h
  rw [nI_toInt (by omega), nI_toInt (by omega)] at e
  omega
theorem rn_no {L : List (Nat × Nat)} {ps : List (Nat × Nat × Nat)} {x r : Int32} {p p' q k : Nat} (okp : okP L ps) (a1 : x = nI p) (a2 : p < ps.length) (b1 : x = nI p') (b2 : r = nI q) (b3 : p' < ps.length) (b4 : q < 2 ^ 31) (b5 : mra L ps p' L.length 0 q = nI k) (b6 : k < L.length) : ¬ (r < 0 ∨ ∃ q, r = nI q ∧ q < 2 ^ 31 ∧ mra L ps p L.length 0 q = -1) := by
  have h16 := okp.2.1
  have h4 := okp.1
  have e : p' = p := (nI_eq_iff (by omega) (by omega)).mp (b1.symm.trans a1)
  subst e
  rintro (z | ⟨q', z1, z2, z3⟩)
  · rw [b2, Int32.lt_iff_toInt_lt, nI_toInt (by omega)] at z
    have e1 : (0 : Int32).toInt = 0 := rfl
    omega
  · have e := nI_q b4 z2 (b2.symm.trans z1)
    subst e
    rw [b5] at z3
    have e := congrArg Int32.toInt z3
    rw [nI_toInt (by omega), show (-1 : Int32).toInt = -1 from rfl] at e
    omega
theorem lt_no {L : List (Nat × Nat)} {ps : List (Nat × Nat × Nat)} {x y : Int32} {p p' a : Nat} (okp : okP L ps) (a1 : x = nI p) (a2 : p < ps.length) (b1 : x = nI p') (b2 : y = nI a) (b3 : p' < ps.length) (b4 : a < p_e ps p' - pst ps p') : ¬ (y < 0 ∨ nI (p_e ps p - pst ps p) ≤ y) := by
  have h16 := okp.2.1
  have h4 := okp.1
  have e : p' = p := (nI_eq_iff (by omega) (by omega)).mp (b1.symm.trans a1)
  subst e
  have h5 := (okp.2.2.1 p' a2).2.2.1
  rw [b2]
  rintro (z | z)
  · exact nI_pos (by omega) z
  · exact absurd ((nI_le_iff (by omega) (by omega)).mp z) (by omega)
/-! the law's own loop -/
def bp_Sc (G : bp_G) (H0 : Heap) (sc n : Nat) (f : Nat → Int32) : Prop := sc < H0.size ∧ ∃ scr : Cell, H0[sc]? = some scr ∧ scr.cls = G.2.2.1 0 ∧ (∀ k, scr.vm ≠ .statics k) ∧ scr.vm ≠ .unknown ∧ scr.slots.size = n ∧ ∀ j, j < n → scr.slots[j]? = some (.int (f j))
theorem bp_ScA {G : bp_G} {H0 : Heap} {U : State} {scr : Cell} (hz : bp_St G H0 U) (e2 : scr.cls = G.2.2.1 0) (e3 : ∀ k, scr.vm ≠ .statics k) : U.isArrayOf scr .int := by
  obtain ⟨-, k, hk, comp, hkind⟩ := hz.2.2.2.2.2 0 (fun _ => .null)
  exact ⟨e3, k, by rw [e2]; exact hk, comp, hkind⟩
section BPSC
variable {l : Launch} {G : bp_G} {H0 : Heap} {d : bp_Dp} {M : bp_M} {h : bp_H} {c s pc q : Nat} {ls ls' : List (Option Value)} {st : List Value} {Q : Outcome → bp_H → Nat → Nat → Prop} {sc n : Nat} {f : Nat → Int32}
theorem bp_sld {i : Int32} (hsc : bp_Sc G H0 sc n f) (k : Nat) (hd : M.2.2.2.2[k]? = some (pc, .iaload, 1)) (hq : pc + 1 = q) (hin : vp_in i n) (w : bp_A l G H0 d M h c s q ls (.int (f i.toNatClampNeg) :: st) Q) : bp_A l G H0 d M h c s pc ls (.int i :: .ref sc :: st) Q := by
  subst hq
  intro p e R s₀ m args below meth cd H locs cells slots lr X hR h1 h2 h3 hl hcl hz
  obtain ⟨hlt0, scr, e1, e2, e3, e4, e5, e6⟩ := hsc
  have ha : H[sc]? = some scr := (hR.2.2.2 sc hlt0).trans e1
  have hlt : i.toNatClampNeg < n := Nat.not_le.mp fun q => hin (Or.inr q)
  exact W.iald X.1 X.2.1 ha (bp_ScA hz e2 e3) e4 (by rw [e5]; exact hin) (e6 _ hlt) rfl rfl (bp_dec X hd) (w p e R s₀ m args below meth cd H locs cells slots lr X hR h1 h2 h3 hl hcl hz)
theorem bp_slen {v : Int32} (hsc : bp_Sc G H0 sc n f) (k : Nat) (hd : M.2.2.2.2[k]? = some (pc, .arraylength, 1)) (hq : pc + 1 = q) (hv : Int32.ofNat n = v) (w : bp_A l G H0 d M h c s q ls (.int v :: st) Q) : bp_A l G H0 d M h c s pc ls (.ref sc :: st) Q := by
  subst hq
  subst hv
  intro p e R s₀ m args below meth cd H locs cells slots lr X hR h1 h2 h3 hl hcl hz
  obtain ⟨hlt0, scr, e1, e2, e3, e4, e5, e6⟩ := hsc
  have ha : H[sc]? = some scr := (hR.2.2.2 sc hlt0).trans e1
  exact W.alen (n := Int32.ofNat n) X.1 X.2.1 ha (bp_ScA hz e2 e3) (by rw [e5] <;> rfl) rfl rfl (bp_dec X hd) (w p e R s₀ m args below meth cd H locs cells slots lr X hR h1 h2 h3 hl hcl hz)
end BPSC
section LAWW
variable {l : Launch} {G : bp_G} {H0 : Heap} {M : Nat → Nat} {h0 h : bp_H} {tw : Int32} {i : Nat} {fa : Int32} {fm : Int32} {tl : Int32} {lk : Nat} {al : Nat} {ind : Nat} {sk : Nat} {dp : Nat} {lv : Nat} {fr : Bool} {en : Nat} {nf : Nat} {nn : Nat} {dg : Nat} {nu : Int32} {kd : Nat} {pn : Int32} {pe : Nat} {T : List Nat} {xs : List Nat} {L : List (Nat × Nat)} {ps : List (Nat × Nat × Nat)} {L1 : List (Nat × Nat)} {p1 : List (Nat × Nat × Nat)} {nt : List (Nat → Nat)} {tb : List Nat} {fd : List Nat} {c s : Nat} {Q : Option Value → bp_H → Nat → Nat → Prop}
theorem s_Mo_writeBraced2 (hB0 : MoX M h0 h tw i fa fm tl lk al ind sk dp lv fr en nf nn dg nu kd pn pe T xs L ps L1 p1 nt tb fd) (okp : okP L ps) (hQ : ∀ h', MoX M h0 h' 0 i fa fm tl lk al ind sk dp lv fr en nf nn dg nu kd pn pe T (bwO L ps) L ps L1 p1 nt tb fd → Q (some (.int (nI (bwO L ps).length))) h' c s) : bp_AM l G H0 (3, 68, false, false) M_Mo_writeBraced h c s [.ref (M 0)] Q := s_Mo_writeBraced hB0 okp (by rw [bwM_bwO okp]; exact bwO_len okp) (by rw [bwM_bwO okp]; exact hQ)
theorem s_Mo_writeTagged2 (hB0 : MoX M h0 h tw i fa fm tl lk al ind sk dp lv fr en nf nn dg nu kd pn pe T xs L ps L1 p1 nt tb fd) (okp : okP L ps) (hQ : ∀ h', MoX M h0 h' 0 i fa fm tl lk al ind sk dp lv fr en nf nn dg nu kd pn pe T (twO L ps) L ps L1 p1 nt tb fd → Q (some (.int (nI (twO L ps).length))) h' c s) : bp_AM l G H0 (3, 67, false, false) M_Mo_writeTagged h c s [.ref (M 0)] Q := s_Mo_writeTagged hB0 okp (by rw [twM_twO okp]; exact twO_len okp) (by rw [twM_twO okp]; exact hQ)
end LAWW
section LAW3
variable {l : Launch} {G : bp_G} {H0 : Heap} {M Z : Nat → Nat} {o C S : Nat} {h : bp_H} {aO na : Nat} {T xs : List Nat} {L : List (Nat × Nat)} {ps : List (Nat × Nat × Nat)} {me : Int32} {c s : Nat} {Q : Outcome → bp_H → Nat → Nat → Prop} {sc n ix : Nat} {f : Nat → Int32} {lo5 lo6 : Option Value}
set_option maxRecDepth 100000 in
set_option maxHeartbeats 4000000 in
theorem cs_clear (htl : l.stackTraces = false) (hsc : bp_Sc G H0 sc n f) (hn5 : ix + 5 ≤ n) (hnb : n < 1000000) (hS : LST M Z o (C + 1) (S + 6) h aO na T xs L ps me c s) (hN : ∀ (h : bp_H) (aO na : Nat) (T xs : List Nat) (L : List (Nat × Nat)) (ps : List (Nat × Nat × Nat)) (me : Int32) (c s : Nat) (lo5 lo6 : Option Value), LST M Z o C S h aO na T xs L ps me c s → bp_A l G H0 (14, 520, false, false) M_Law_law h c s 749 [some (.ref sc), some (.ref (Z 43)), some (.ref (M 0)), some (.ref o), some (.int (nI ix)), lo5, lo6] [] Q) : bp_A l G H0 (14, 520, false, false) M_Law_law h c s 204 [some (.ref sc), some (.ref (Z 43)), some (.ref (M 0)), some (.ref o), some (.int (nI ix)), lo5, lo6] [] Q := by
  have hX0 := hS.1.less (Nat.le_succ C) (Nat.le_add_right S 6)
  obtain ⟨tw, hm⟩ := hS.2.1
  have hko := hS.2.2.1.1
  have hlo := hS.2.2.1.2.1
  have hno := hS.2.2.1.2.2
  have hC := hS.2.2.2.1
  have hxs := hS.2.2.2.2.1
  have okp := hS.2.2.2.2.2.1
  have hE := hS.2.2.2.2.2.2
  refine bp_aload_n (q := 205) 84 rfl rfl rfl rfl ?_
  refine bp_callV (q := 208) (ci := 0) 85 rfl rfl cw_X_clear lk_Law_58 rfl hX0.2.1.1 wd397 wd398 rfl rfl (Nat.le_of_ble_eq_true rfl) ⟨Nat.le_of_ble_eq_true rfl, Nat.le_of_ble_eq_true rfl⟩ (s_X_clear hX0 (fun h1 hX1 => ?_))
  have hP := XP.of hX1 hko hlo
  have hm1 := hP.mo hm
  obtain ⟨i, fa, fm, lk, al, ind, sk, dp, lv, fr, en, nf, nn, dg, nu, kd, pn, pe, L1, p1, nt, tb, fd, hB⟩ := hm1
  refine bp_aload_n (q := 209) 86 rfl rfl rfl rfl ?_
  refine bp_callV (q := 212) (ci := 9) 87 rfl rfl cw_Mo_clear lk_Law_61 rfl hB.kb wd1428 wd1429 rfl rfl (Nat.le_of_ble_eq_true rfl) ⟨Nat.le_of_ble_eq_true rfl, Nat.le_of_ble_eq_true rfl⟩ (s_Mo_clear hB (fun h2 hB2 => ?_))
  have hm2 := MoS.of hB2
  refine bp_goto (tgt := 749) 88 rfl (by decide) ?_
  exact hN _ _ _ _ _ _ _ _ _ _ _ _ (hP.end_ hno hm2 (okC_of (by decide) (fun x hx => nomatch hx)) hxs okp hE)
set_option maxRecDepth 100000 in
set_option maxHeartbeats 4000000 in
theorem cs_wipe (htl : l.stackTraces = false) (hsc : bp_Sc G H0 sc n f) (hn5 : ix + 5 ≤ n) (hnb : n < 1000000) (hS : LST M Z o (C + 1) (S + 6) h aO na T xs L ps me c s) (hN : ∀ (h : bp_H) (aO na : Nat) (T xs : List Nat) (L : List (Nat × Nat)) (ps : List (Nat × Nat × Nat)) (me : Int32) (c s : Nat) (lo5 lo6 : Option Value), LST M Z o C S h aO na T xs L ps me c s → bp_A l G H0 (14, 520, false, false) M_Law_law h c s 749 [some (.ref sc), some (.ref (Z 43)), some (.ref (M 0)), some (.ref o), some (.int (nI ix)), lo5, lo6] [] Q) : bp_A l G H0 (14, 520, false, false) M_Law_law h c s 509 [some (.ref sc), some (.ref (Z 43)), some (.ref (M 0)), some (.ref o), some (.int (nI ix)), lo5, lo6] [] Q := by
  have hX0 := hS.1.less (Nat.le_succ C) (Nat.le_add_right S 6)
  obtain ⟨tw, hm⟩ := hS.2.1
  have hko := hS.2.2.1.1
  have hlo := hS.2.2.1.2.1
  have hno := hS.2.2.1.2.2
  have hC := hS.2.2.2.1
  have hxs := hS.2.2.2.2.1
  have okp := hS.2.2.2.2.2.1
  have hE := hS.2.2.2.2.2.2
  refine bp_aload_n (q := 510) 276 rfl rfl rfl rfl ?_
  refine bp_callV (q := 513) (ci := 0) 277 rfl rfl cw_X_wipe lk_Law_99 rfl hX0.2.1.1 wd1078 wd1079 rfl rfl (Nat.le_of_ble_eq_true rfl) ⟨Nat.le_of_ble_eq_true rfl, Nat.le_of_ble_eq_true rfl⟩ (s_X_wipe hX0 (fun h1 hX1 => ?_))
  have hP := XP.of hX1 hko hlo
  have hm1 := hP.mo hm
  obtain ⟨i, fa, fm, lk, al, ind, sk, dp, lv, fr, en, nf, nn, dg, nu, kd, pn, pe, L1, p1, nt, tb, fd, hB⟩ := hm1
  refine bp_aload_n (q := 514) 278 rfl rfl rfl rfl ?_
  refine bp_callV (q := 517) (ci := 9) 279 rfl rfl cw_Mo_wipe lk_Law_102 rfl hB.kb wd1724 wd1725 rfl rfl (Nat.le_of_ble_eq_true rfl) ⟨Nat.le_of_ble_eq_true rfl, Nat.le_of_ble_eq_true rfl⟩ (s_Mo_wipe hB (fun h2 hB2 => ?_))
  have hm2 := MoS.of hB2
  refine bp_goto (tgt := 749) 280 rfl (by decide) ?_
  exact hN _ _ _ _ _ _ _ _ _ _ _ _ (hP.end_ hno hm2 hC hxs okP_nil rfl)
theorem okP_nil0 : okP [] [] := okP_nil
set_option maxRecDepth 100000 in
set_option maxHeartbeats 4000000 in
theorem cs_at (htl : l.stackTraces = false) (hsc : bp_Sc G H0 sc n f) (hn5 : ix + 5 ≤ n) (hnb : n < 1000000) (hS : LST M Z o (C + 1) (S + 6) h aO na T xs L ps me c s) (hN : ∀ (h : bp_H) (aO na : Nat) (T xs : List Nat) (L : List (Nat × Nat)) (ps : List (Nat × Nat × Nat)) (me : Int32) (c s : Nat) (lo5 lo6 : Option Value), LST M Z o C S h aO na T xs L ps me c s → bp_A l G H0 (14, 520, false, false) M_Law_law h c s 749 [some (.ref sc), some (.ref (Z 43)), some (.ref (M 0)), some (.ref o), some (.int (nI ix)), lo5, lo6] [] Q) : bp_A l G H0 (14, 520, false, false) M_Law_law h c s 285 [some (.ref sc), some (.ref (Z 43)), some (.ref (M 0)), some (.ref o), some (.int (nI ix)), lo5, lo6] [] Q := by
  have hX0 := hS.1.less (Nat.le_succ C) (Nat.le_add_right S 6)
  obtain ⟨tw, hm⟩ := hS.2.1
  have hko := hS.2.2.1.1
  have hlo := hS.2.2.1.2.1
  have hno := hS.2.2.1.2.2
  have hC := hS.2.2.2.1
  have hxs := hS.2.2.2.2.1
  have okp := hS.2.2.2.2.2.1
  have hE := hS.2.2.2.2.2.2
  refine bp_aload_n (q := 286) 128 rfl rfl rfl rfl ?_
  refine bp_callV (q := 289) (ci := 0) 129 rfl rfl cw_X_at lk_Law_74 rfl hX0.2.1.1 wd874 wd875 rfl rfl (Nat.le_of_ble_eq_true rfl) ⟨Nat.le_of_ble_eq_true rfl, Nat.le_of_ble_eq_true rfl⟩ (s_X_at (ro := false) hX0 ?_)
  have hX1 := hX0
  have hP := XP.of hX1 hko hlo
  have hm1 := hP.mo hm
  obtain ⟨i, fa, fm, lk, al, ind, sk, dp, lv, fr, en, nf, nn, dg, nu, kd, pn, pe, L1, p1, nt, tb, fd, hB⟩ := hm1
  refine bp_aload_n (q := 290) 130 rfl rfl rfl rfl ?_
  refine bp_callV (q := 293) (ci := 9) 131 rfl rfl cw_Mo_at lk_Law_77 rfl hB.kb wd1626 wd1627 rfl rfl (Nat.le_of_ble_eq_true rfl) ⟨Nat.le_of_ble_eq_true rfl, Nat.le_of_ble_eq_true rfl⟩ (s_Mo_at hB (fun h2 hB2 => ?_))
  have hm2 := MoS.of hB2
  refine bp_icmp_eq (q := 296) (tgt := 749) 132 rfl rfl (by decide) (fun z293 => ?_) (fun z293 => ?_)
  · exact hN _ _ _ _ _ _ _ _ _ _ _ _ (hP.end_ hno hm2 hC hxs okp hE)
  · exact absurd rfl z293
set_option maxRecDepth 100000 in
set_option maxHeartbeats 4000000 in
theorem cs_paragraphs (htl : l.stackTraces = false) (hsc : bp_Sc G H0 sc n f) (hn5 : ix + 5 ≤ n) (hnb : n < 1000000) (hS : LST M Z o (C + 1) (S + 6) h aO na T xs L ps me c s) (hN : ∀ (h : bp_H) (aO na : Nat) (T xs : List Nat) (L : List (Nat × Nat)) (ps : List (Nat × Nat × Nat)) (me : Int32) (c s : Nat) (lo5 lo6 : Option Value), LST M Z o C S h aO na T xs L ps me c s → bp_A l G H0 (14, 520, false, false) M_Law_law h c s 749 [some (.ref sc), some (.ref (Z 43)), some (.ref (M 0)), some (.ref o), some (.int (nI ix)), lo5, lo6] [] Q) : bp_A l G H0 (14, 520, false, false) M_Law_law h c s 520 [some (.ref sc), some (.ref (Z 43)), some (.ref (M 0)), some (.ref o), some (.int (nI ix)), lo5, lo6] [] Q := by
  have hX0 := hS.1.less (Nat.le_succ C) (Nat.le_add_right S 6)
  obtain ⟨tw, hm⟩ := hS.2.1
  have hko := hS.2.2.1.1
  have hlo := hS.2.2.1.2.1
  have hno := hS.2.2.1.2.2
  have hC := hS.2.2.2.1
  have hxs := hS.2.2.2.2.1
  have okp := hS.2.2.2.2.2.1
  have hE := hS.2.2.2.2.2.2
  refine bp_aload_n (q := 521) 281 rfl rfl rfl rfl ?_
  refine bp_callV (q := 524) (ci := 0) 282 rfl rfl cw_X_paragraphs lk_Law_103 rfl hX0.2.1.1 wd1083 wd1084 rfl rfl (Nat.le_of_ble_eq_true rfl) ⟨Nat.le_of_ble_eq_true rfl, Nat.le_of_ble_eq_true rfl⟩ (s_X_paragraphs (ro := false) hX0 ?_)
  have hX1 := hX0
  have hP := XP.of hX1 hko hlo
  have hm1 := hP.mo hm
  obtain ⟨i, fa, fm, lk, al, ind, sk, dp, lv, fr, en, nf, nn, dg, nu, kd, pn, pe, L1, p1, nt, tb, fd, hB⟩ := hm1
  refine bp_aload_n (q := 525) 283 rfl rfl rfl rfl ?_
  refine bp_callV (q := 528) (ci := 9) 284 rfl rfl cw_Mo_paragraphs lk_Law_106 rfl hB.kb wd1728 wd1729 rfl rfl (Nat.le_of_ble_eq_true rfl) ⟨Nat.le_of_ble_eq_true rfl, Nat.le_of_ble_eq_true rfl⟩ (s_Mo_paragraphs hB (fun h2 hB2 => ?_))
  have hm2 := MoS.of hB2
  refine bp_icmp_eq (q := 531) (tgt := 749) 285 rfl rfl (by decide) (fun z528 => ?_) (fun z528 => ?_)
  · exact hN _ _ _ _ _ _ _ _ _ _ _ _ (hP.end_ hno hm2 hC hxs okp hE)
  · exact absurd rfl z528
set_option maxRecDepth 100000 in
set_option maxHeartbeats 4000000 in
theorem cs_out (htl : l.stackTraces = false) (hsc : bp_Sc G H0 sc n f) (hn5 : ix + 5 ≤ n) (hnb : n < 1000000) (hS : LST M Z o (C + 1) (S + 6) h aO na T xs L ps me c s) (hN : ∀ (h : bp_H) (aO na : Nat) (T xs : List Nat) (L : List (Nat × Nat)) (ps : List (Nat × Nat × Nat)) (me : Int32) (c s : Nat) (lo5 lo6 : Option Value), LST M Z o C S h aO na T xs L ps me c s → bp_A l G H0 (14, 520, false, false) M_Law_law h c s 749 [some (.ref sc), some (.ref (Z 43)), some (.ref (M 0)), some (.ref o), some (.int (nI ix)), lo5, lo6] [] Q) : bp_A l G H0 (14, 520, false, false) M_Law_law h c s 324 [some (.ref sc), some (.ref (Z 43)), some (.ref (M 0)), some (.ref o), some (.int (nI ix)), lo5, lo6] [] Q := by
  have hX0 := hS.1.less (Nat.le_succ C) (Nat.le_add_right S 6)
  obtain ⟨tw, hm⟩ := hS.2.1
  have hko := hS.2.2.1.1
  have hlo := hS.2.2.1.2.1
  have hno := hS.2.2.1.2.2
  have hC := hS.2.2.2.1
  have hxs := hS.2.2.2.2.1
  have okp := hS.2.2.2.2.2.1
  have hE := hS.2.2.2.2.2.2
  refine bp_aload_n (q := 325) 149 rfl rfl rfl rfl ?_
  refine bp_aload_n (q := 326) 150 rfl rfl rfl rfl ?_
  refine bp_iload (q := 328) 151 rfl rfl rfl ?_
  refine bp_iconst (v := 1) (q := 329) 152 rfl rfl (by decide) ?_
  refine bp_iadd (q := 330) 153 rfl rfl ?_
  rw [show nI ix + 1 = nI (ix + 1) from nI_add ix 1]
  refine bp_sld hsc (q := 331) 154 rfl rfl (vp_in_nI (n := ix + 1) (by omega) (by omega)) ?_
  rw [nI_clamp (by omega)]
  refine bp_callV (q := 334) (ci := 0) 155 rfl rfl cw_X_out lk_Law_86 rfl hX0.2.1.1 wd1073 wd1074 rfl rfl (Nat.le_of_ble_eq_true rfl) ⟨Nat.le_of_ble_eq_true rfl, Nat.le_of_ble_eq_true rfl⟩ (s_X_out (ro := false) hX0 ?_)
  have hX1 := hX0
  have hP := XP.of hX1 hko hlo
  have hm1 := hP.mo hm
  obtain ⟨i, fa, fm, lk, al, ind, sk, dp, lv, fr, en, nf, nn, dg, nu, kd, pn, pe, L1, p1, nt, tb, fd, hB⟩ := hm1
  refine bp_aload_n (q := 335) 156 rfl rfl rfl rfl ?_
  refine bp_aload_n (q := 336) 157 rfl rfl rfl rfl ?_
  refine bp_iload (q := 338) 158 rfl rfl rfl ?_
  refine bp_iconst (v := 1) (q := 339) 159 rfl rfl (by decide) ?_
  refine bp_iadd (q := 340) 160 rfl rfl ?_
  rw [show nI ix + 1 = nI (ix + 1) from nI_add ix 1]
  refine bp_sld hsc (q := 341) 161 rfl rfl (vp_in_nI (n := ix + 1) (by omega) (by omega)) ?_
  rw [nI_clamp (by omega)]
  refine bp_callV (q := 344) (ci := 9) 162 rfl rfl cw_Mo_out lk_Law_90 rfl hB.kb wd1708 wd1709 rfl rfl (Nat.le_of_ble_eq_true rfl) ⟨Nat.le_of_ble_eq_true rfl, Nat.le_of_ble_eq_true rfl⟩ (s_Mo_out hB (fun h2 hB2 => ?_))
  have hm2 := MoS.of hB2
  refine bp_icmp_eq (q := 347) (tgt := 749) 163 rfl rfl (by decide) (fun z344 => ?_) (fun z344 => ?_)
  · exact hN _ _ _ _ _ _ _ _ _ _ _ _ (hP.end_ hno hm2 hC hxs okp hE)
  · exact absurd rfl z344
set_option maxRecDepth 100000 in
set_option maxHeartbeats 4000000 in
theorem cs_writeBraced (htl : l.stackTraces = false) (hsc : bp_Sc G H0 sc n f) (hn5 : ix + 5 ≤ n) (hnb : n < 1000000) (hS : LST M Z o (C + 1) (S + 6) h aO na T xs L ps me c s) (hN : ∀ (h : bp_H) (aO na : Nat) (T xs : List Nat) (L : List (Nat × Nat)) (ps : List (Nat × Nat × Nat)) (me : Int32) (c s : Nat) (lo5 lo6 : Option Value), LST M Z o C S h aO na T xs L ps me c s → bp_A l G H0 (14, 520, false, false) M_Law_law h c s 749 [some (.ref sc), some (.ref (Z 43)), some (.ref (M 0)), some (.ref o), some (.int (nI ix)), lo5, lo6] [] Q) : bp_A l G H0 (14, 520, false, false) M_Law_law h c s 298 [some (.ref sc), some (.ref (Z 43)), some (.ref (M 0)), some (.ref o), some (.int (nI ix)), lo5, lo6] [] Q := by
  have hX0 := hS.1.less (Nat.le_succ C) (Nat.le_add_right S 6)
  obtain ⟨tw, hm⟩ := hS.2.1
  have hko := hS.2.2.1.1
  have hlo := hS.2.2.1.2.1
  have hno := hS.2.2.1.2.2
  have hC := hS.2.2.2.1
  have hxs := hS.2.2.2.2.1
  have okp := hS.2.2.2.2.2.1
  have hE := hS.2.2.2.2.2.2
  refine bp_aload_n (q := 299) 135 rfl rfl rfl rfl ?_
  refine bp_callV (q := 302) (ci := 0) 136 rfl rfl cw_X_writeBraced lk_Law_78 rfl hX0.2.1.1 wd878 wd879 rfl rfl (Nat.le_of_ble_eq_true rfl) ⟨Nat.le_of_ble_eq_true rfl, Nat.le_of_ble_eq_true rfl⟩ (s_X_writeBraced hX0 okp (Nat.le_trans (bwO_len okp) (by decide)) (fun h1 aO1 c1 s1 hX1 => ?_))
  have hP := XP.of hX1 hko hlo
  have hm1 := hP.mo hm
  obtain ⟨i, fa, fm, lk, al, ind, sk, dp, lv, fr, en, nf, nn, dg, nu, kd, pn, pe, L1, p1, nt, tb, fd, hB⟩ := hm1
  refine bp_aload_n (q := 303) 137 rfl rfl rfl rfl ?_
  refine bp_callV (q := 306) (ci := 9) 138 rfl rfl cw_Mo_writeBraced lk_Law_81 rfl hB.kb wd1630 wd1631 rfl rfl (Nat.le_of_ble_eq_true rfl) ⟨Nat.le_of_ble_eq_true rfl, Nat.le_of_ble_eq_true rfl⟩ (s_Mo_writeBraced2 hB okp (fun h2 hB2 => ?_))
  have hm2 := MoS.of hB2
  refine bp_icmp_eq (q := 309) (tgt := 749) 139 rfl rfl (by decide) (fun z306 => ?_) (fun z306 => ?_)
  · exact hN _ _ _ _ _ _ _ _ _ _ _ _ (hP.end_ hno hm2 hC (bwO_ch okp) okp hE)
  · exact absurd rfl z306
set_option maxRecDepth 100000 in
set_option maxHeartbeats 4000000 in
theorem cs_writeTagged (htl : l.stackTraces = false) (hsc : bp_Sc G H0 sc n f) (hn5 : ix + 5 ≤ n) (hnb : n < 1000000) (hS : LST M Z o (C + 1) (S + 6) h aO na T xs L ps me c s) (hN : ∀ (h : bp_H) (aO na : Nat) (T xs : List Nat) (L : List (Nat × Nat)) (ps : List (Nat × Nat × Nat)) (me : Int32) (c s : Nat) (lo5 lo6 : Option Value), LST M Z o C S h aO na T xs L ps me c s → bp_A l G H0 (14, 520, false, false) M_Law_law h c s 749 [some (.ref sc), some (.ref (Z 43)), some (.ref (M 0)), some (.ref o), some (.int (nI ix)), lo5, lo6] [] Q) : bp_A l G H0 (14, 520, false, false) M_Law_law h c s 311 [some (.ref sc), some (.ref (Z 43)), some (.ref (M 0)), some (.ref o), some (.int (nI ix)), lo5, lo6] [] Q := by
  have hX0 := hS.1.less (Nat.le_succ C) (Nat.le_add_right S 6)
  obtain ⟨tw, hm⟩ := hS.2.1
  have hko := hS.2.2.1.1
  have hlo := hS.2.2.1.2.1
  have hno := hS.2.2.1.2.2
  have hC := hS.2.2.2.1
  have hxs := hS.2.2.2.2.1
  have okp := hS.2.2.2.2.2.1
  have hE := hS.2.2.2.2.2.2
  refine bp_aload_n (q := 312) 142 rfl rfl rfl rfl ?_
  refine bp_callV (q := 315) (ci := 0) 143 rfl rfl cw_X_writeTagged lk_Law_82 rfl hX0.2.1.1 wd1069 wd1070 rfl rfl (Nat.le_of_ble_eq_true rfl) ⟨Nat.le_of_ble_eq_true rfl, Nat.le_of_ble_eq_true rfl⟩ (s_X_writeTagged hX0 okp (Nat.le_trans (twO_len okp) (by decide)) (fun h1 aO1 c1 s1 hX1 => ?_))
  have hP := XP.of hX1 hko hlo
  have hm1 := hP.mo hm
  obtain ⟨i, fa, fm, lk, al, ind, sk, dp, lv, fr, en, nf, nn, dg, nu, kd, pn, pe, L1, p1, nt, tb, fd, hB⟩ := hm1
  refine bp_aload_n (q := 316) 144 rfl rfl rfl rfl ?_
  refine bp_callV (q := 319) (ci := 9) 145 rfl rfl cw_Mo_writeTagged lk_Law_85 rfl hB.kb wd1690 wd1691 rfl rfl (Nat.le_of_ble_eq_true rfl) ⟨Nat.le_of_ble_eq_true rfl, Nat.le_of_ble_eq_true rfl⟩ (s_Mo_writeTagged2 hB okp (fun h2 hB2 => ?_))
  have hm2 := MoS.of hB2
  refine bp_icmp_eq (q := 322) (tgt := 749) 146 rfl rfl (by decide) (fun z319 => ?_) (fun z319 => ?_)
  · exact hN _ _ _ _ _ _ _ _ _ _ _ _ (hP.end_ hno hm2 hC (twO_ch okp) okp hE)
  · exact absurd rfl z319
set_option maxRecDepth 100000 in
set_option maxHeartbeats 4000000 in
theorem cs_readBraced (htl : l.stackTraces = false) (hsc : bp_Sc G H0 sc n f) (hn5 : ix + 5 ≤ n) (hnb : n < 1000000) (hS : LST M Z o (C + 1) (S + 6) h aO na T xs L ps me c s) (hN : ∀ (h : bp_H) (aO na : Nat) (T xs : List Nat) (L : List (Nat × Nat)) (ps : List (Nat × Nat × Nat)) (me : Int32) (c s : Nat) (lo5 lo6 : Option Value), LST M Z o C S h aO na T xs L ps me c s → bp_A l G H0 (14, 520, false, false) M_Law_law h c s 749 [some (.ref sc), some (.ref (Z 43)), some (.ref (M 0)), some (.ref o), some (.int (nI ix)), lo5, lo6] [] Q) : bp_A l G H0 (14, 520, false, false) M_Law_law h c s 259 [some (.ref sc), some (.ref (Z 43)), some (.ref (M 0)), some (.ref o), some (.int (nI ix)), lo5, lo6] [] Q := by
  have hX0 := hS.1.less (Nat.le_succ C) (Nat.le_add_right S 6)
  obtain ⟨tw, hm⟩ := hS.2.1
  have hko := hS.2.2.1.1
  have hlo := hS.2.2.1.2.1
  have hno := hS.2.2.1.2.2
  have hC := hS.2.2.2.1
  have hxs := hS.2.2.2.2.1
  have okp := hS.2.2.2.2.2.1
  have hE := hS.2.2.2.2.2.2
  refine bp_aload_n (q := 260) 114 rfl rfl rfl rfl ?_
  refine bp_callV (q := 263) (ci := 0) 115 rfl rfl cw_X_readBraced lk_Law_66 rfl hX0.2.1.1 wd405 wd406 rfl rfl (Nat.le_of_ble_eq_true rfl) ⟨Nat.le_of_ble_eq_true rfl, Nat.le_of_ble_eq_true rfl⟩ (s_X_readBraced hX0 hC (fun h1 na1 c1 s1 nm hn1 hn2 hX1 => ?_))
  have hP := XP.of hX1 hko hlo
  have hm1 := hP.mo hm
  obtain ⟨i, fa, fm, lk, al, ind, sk, dp, lv, fr, en, nf, nn, dg, nu, kd, pn, pe, L1, p1, nt, tb, fd, hB⟩ := hm1
  refine bp_aload_n (q := 264) 116 rfl rfl rfl rfl ?_
  refine bp_callV (q := 267) (ci := 9) 117 rfl rfl cw_Mo_readBraced lk_Law_69 rfl hB.kb wd1436 wd1437 rfl rfl (Nat.le_of_ble_eq_true rfl) ⟨Nat.le_of_ble_eq_true rfl, Nat.le_of_ble_eq_true rfl⟩ (s_Mo_readBraced (nm := nm) hB hC hn1 hn2 (fun h2 hm2 => ?_))
  refine bp_icmp_eq (q := 270) (tgt := 749) 118 rfl rfl (by decide) (fun z267 => ?_) (fun z267 => ?_)
  · exact hN _ _ _ _ _ _ _ _ _ _ _ _ (hP.end_ hno hm2 hC hxs (rd_ok okp (fun z => (bRes_ok hC.1 T.length _ (okB_st hn1 hn2) (Or.inr trivial) z).1)) (rd_E (P := fun L ps => pst ps ps.length = L.length) hE (fun z => (bRes_ok hC.1 T.length _ (okB_st hn1 hn2) (Or.inr trivial) z).2)))
  · exact absurd rfl z267
set_option maxRecDepth 100000 in
set_option maxHeartbeats 4000000 in
theorem cs_readTagged (htl : l.stackTraces = false) (hsc : bp_Sc G H0 sc n f) (hn5 : ix + 5 ≤ n) (hnb : n < 1000000) (hS : LST M Z o (C + 1) (S + 6) h aO na T xs L ps me c s) (hN : ∀ (h : bp_H) (aO na : Nat) (T xs : List Nat) (L : List (Nat × Nat)) (ps : List (Nat × Nat × Nat)) (me : Int32) (c s : Nat) (lo5 lo6 : Option Value), LST M Z o C S h aO na T xs L ps me c s → bp_A l G H0 (14, 520, false, false) M_Law_law h c s 749 [some (.ref sc), some (.ref (Z 43)), some (.ref (M 0)), some (.ref o), some (.int (nI ix)), lo5, lo6] [] Q) : bp_A l G H0 (14, 520, false, false) M_Law_law h c s 272 [some (.ref sc), some (.ref (Z 43)), some (.ref (M 0)), some (.ref o), some (.int (nI ix)), lo5, lo6] [] Q := by
  have hX0 := hS.1.less (Nat.le_succ C) (Nat.le_add_right S 6)
  obtain ⟨tw, hm⟩ := hS.2.1
  have hko := hS.2.2.1.1
  have hlo := hS.2.2.1.2.1
  have hno := hS.2.2.1.2.2
  have hC := hS.2.2.2.1
  have hxs := hS.2.2.2.2.1
  have okp := hS.2.2.2.2.2.1
  have hE := hS.2.2.2.2.2.2
  refine bp_aload_n (q := 273) 121 rfl rfl rfl rfl ?_
  refine bp_callV (q := 276) (ci := 0) 122 rfl rfl cw_X_readTagged lk_Law_70 rfl hX0.2.1.1 wd870 wd871 rfl rfl (Nat.le_of_ble_eq_true rfl) ⟨Nat.le_of_ble_eq_true rfl, Nat.le_of_ble_eq_true rfl⟩ (s_X_readTagged hX0 hC (fun h1 rs hrs hX1 => ?_))
  have hP := XP.of hX1 hko hlo
  have hm1 := hP.mo hm
  obtain ⟨i, fa, fm, lk, al, ind, sk, dp, lv, fr, en, nf, nn, dg, nu, kd, pn, pe, L1, p1, nt, tb, fd, hB⟩ := hm1
  refine bp_aload_n (q := 277) 123 rfl rfl rfl rfl ?_
  refine bp_callV (q := 280) (ci := 9) 124 rfl rfl cw_Mo_readTagged lk_Law_73 rfl hB.kb wd1571 wd1572 rfl rfl (Nat.le_of_ble_eq_true rfl) ⟨Nat.le_of_ble_eq_true rfl, Nat.le_of_ble_eq_true rfl⟩ (s_Mo_readTagged (rs := rs) hB hC hrs (fun h2 hm2 => ?_))
  refine bp_icmp_eq (q := 283) (tgt := 749) 125 rfl rfl (by decide) (fun z280 => ?_) (fun z280 => ?_)
  · exact hN _ _ _ _ _ _ _ _ _ _ _ _ (hP.end_ hno hm2 hC hxs (rd_ok okp (fun _ => (tRes_ok hC (okU_start hrs) T.length).1)) (rd_E (P := fun L ps => pst ps ps.length = L.length) hE (fun _ => (tRes_ok hC (okU_start hrs) T.length).2)))
  · exact absurd rfl z280
set_option maxRecDepth 100000 in
set_option maxHeartbeats 4000000 in
theorem cs_feed (htl : l.stackTraces = false) (hsc : bp_Sc G H0 sc n f) (hn5 : ix + 5 ≤ n) (hnb : n < 1000000) (hS : LST M Z o (C + 1) (S + 6) h aO na T xs L ps me (c + 1) (s + 6)) (hN : ∀ (h : bp_H) (aO na : Nat) (T xs : List Nat) (L : List (Nat × Nat)) (ps : List (Nat × Nat × Nat)) (me : Int32) (c s : Nat) (lo5 lo6 : Option Value), LST M Z o C S h aO na T xs L ps me c s → bp_A l G H0 (14, 520, false, false) M_Law_law h c s 749 [some (.ref sc), some (.ref (Z 43)), some (.ref (M 0)), some (.ref o), some (.int (nI ix)), lo5, lo6] [] Q) : bp_A l G H0 (14, 520, false, false) M_Law_law h (c + 1) (s + 6) 116 [some (.ref sc), some (.ref (Z 43)), some (.ref (M 0)), some (.ref o), some (.int (nI ix)), lo5, lo6] [] Q := by
  have hX0 := hS.1
  obtain ⟨tw, hm⟩ := hS.2.1
  have hko := hS.2.2.1.1
  have hlo := hS.2.2.1.2.1
  have hno := hS.2.2.1.2.2
  have hC := hS.2.2.2.1
  have hxs := hS.2.2.2.2.1
  have okp := hS.2.2.2.2.2.1
  have hE := hS.2.2.2.2.2.2
  refine bp_aload_n (q := 117) 25 rfl rfl rfl rfl ?_
  refine bp_aload_n (q := 118) 26 rfl rfl rfl rfl ?_
  refine bp_iload (q := 120) 27 rfl rfl rfl ?_
  refine bp_iconst (v := 1) (q := 121) 28 rfl rfl (by decide) ?_
  refine bp_iadd (q := 122) 29 rfl rfl ?_
  rw [show nI ix + 1 = nI (ix + 1) from nI_add ix 1]
  refine bp_sld hsc (q := 123) 30 rfl rfl (vp_in_nI (n := ix + 1) (by omega) (by omega)) ?_
  rw [nI_clamp (by omega)]
  refine bp_i2l (q := 124) 31 rfl rfl ?_
  refine bp_bipush (v := 32) (q := 126) 32 rfl rfl (by decide) ?_
  refine bp_lshl (q := 127) 33 rfl rfl ?_
  refine bp_aload_n (q := 128) 34 rfl rfl rfl rfl ?_
  refine bp_iload (q := 130) 35 rfl rfl rfl ?_
  refine bp_iconst (v := 2) (q := 131) 36 rfl rfl (by decide) ?_
  refine bp_iadd (q := 132) 37 rfl rfl ?_
  rw [show nI ix + 2 = nI (ix + 2) from nI_add ix 2]
  refine bp_sld hsc (q := 133) 38 rfl rfl (vp_in_nI (n := ix + 2) (by omega) (by omega)) ?_
  rw [nI_clamp (by omega)]
  refine bp_i2l (q := 134) 39 rfl rfl ?_
  refine bp_ldc2 (q := 137) 40 rfl rfl wd1751 ?_
  refine bp_land (q := 138) 41 rfl rfl ?_
  refine bp_lor (q := 139) 42 rfl rfl ?_
  refine bp_aload_n (q := 140) 43 rfl rfl rfl rfl ?_
  refine bp_callSW (q := 143) 44 rfl rfl cx_Law_feed wd1086 wd1087 rfl rfl (Nat.le_of_ble_eq_true rfl) ⟨Nat.le_of_ble_eq_true rfl, Nat.le_of_ble_eq_true rfl⟩ (s_Law_feed htl hX0 hko hlo hno  (fun a1 h1 hP => ?_) (fun a1 a2 h1 hP => ?_) (fun a1 a2 h1 hP hJ => ?_))
  · have hm1 := hP.mo hm
    obtain ⟨i, fa, fm, lk, al, ind, sk, dp, lv, fr, en, nf, nn, dg, nu, kd, pn, pe, L1, p1, nt, tb, fd, hB⟩ := hm1
    refine bp_istore (q := 145) 45 rfl rfl (by decide) (bp_up5 rfl) ?_
    refine bp_aload_n (q := 146) 46 rfl rfl rfl rfl ?_
    refine bp_aload_n (q := 147) 47 rfl rfl rfl rfl ?_
    refine bp_iload (q := 149) 48 rfl rfl rfl ?_
    refine bp_iconst (v := 1) (q := 150) 49 rfl rfl (by decide) ?_
    refine bp_iadd (q := 151) 50 rfl rfl ?_
    rw [show nI ix + 1 = nI (ix + 1) from nI_add ix 1]
    refine bp_sld hsc (q := 152) 51 rfl rfl (vp_in_nI (n := ix + 1) (by omega) (by omega)) ?_
    rw [nI_clamp (by omega)]
    refine bp_i2l (q := 153) 52 rfl rfl ?_
    refine bp_bipush (v := 32) (q := 155) 53 rfl rfl (by decide) ?_
    refine bp_lshl (q := 156) 54 rfl rfl ?_
    refine bp_aload_n (q := 157) 55 rfl rfl rfl rfl ?_
    refine bp_iload (q := 159) 56 rfl rfl rfl ?_
    refine bp_iconst (v := 2) (q := 160) 57 rfl rfl (by decide) ?_
    refine bp_iadd (q := 161) 58 rfl rfl ?_
    rw [show nI ix + 2 = nI (ix + 2) from nI_add ix 2]
    refine bp_sld hsc (q := 162) 59 rfl rfl (vp_in_nI (n := ix + 2) (by omega) (by omega)) ?_
    rw [nI_clamp (by omega)]
    refine bp_i2l (q := 163) 60 rfl rfl ?_
    refine bp_ldc2 (q := 166) 61 rfl rfl wd1751 ?_
    refine bp_land (q := 167) 62 rfl rfl ?_
    refine bp_lor (q := 168) 63 rfl rfl ?_
    refine bp_callV (q := 171) (ci := 9) 64 rfl rfl cw_Mo_feed lk_Law_54 rfl hB.kb wd1420 wd1421 rfl rfl (Nat.le_of_ble_eq_true rfl) ⟨Nat.le_of_ble_eq_true rfl, Nat.le_of_ble_eq_true rfl⟩ (s_Mo_feed hB (fun b1 h2 hB2 => ?_) (fun b1 b2 h2 hB2 => ?_) (fun b1 b2 h2 hB2 => ?_))
    · have hm2 := MoS.of hB2
      have hk2 : bp_K h2 o = 2 := (hm2.fi.K o).trans hP.2.2.1
      have hl2 : bp_L h2 o = 1 := (hm2.fi.L o).trans hP.2.2.2
      refine bp_istore (q := 173) 65 rfl rfl (by decide) (bp_up6 rfl) ?_
      refine bp_aload_n (q := 174) 66 rfl rfl rfl rfl ?_
      refine bp_callV (q := 177) (ci := 9) 67 rfl rfl cw_Mo_thrown lk_Law_55 rfl hB2.kb wd1416 wd1417 rfl rfl (Nat.le_of_ble_eq_true rfl) ⟨Nat.le_of_ble_eq_true rfl, Nat.le_of_ble_eq_true rfl⟩ (s_Mo_thrown (ro := false) hB2 ?_)
      refine bp_iload (q := 179) 68 rfl rfl rfl ?_
      refine bp_icmp_eq (q := 182) (tgt := 184) 69 rfl rfl (by decide) (fun z179 => ?_) (fun z179 => ?_)
      · refine bp_iload (q := 186) 72 rfl rfl rfl ?_
        refine bp_if_ne (q := 189) (tgt := 201) 73 rfl rfl (by decide) (fun z186 => ?_) (fun z => absurd z (by decide))
        refine bp_goto (tgt := 749) 83 rfl (by decide) ?_
        exact hN _ _ _ _ _ _ _ _ _ _ _ _ (hP.end_ hno hm2 hC hxs okp hE)
      · exact absurd rfl z179
    · rw [a1] at b1; cases b1
    · rw [a1] at b1; cases b1
  · have hm1 := hP.mo hm
    obtain ⟨i, fa, fm, lk, al, ind, sk, dp, lv, fr, en, nf, nn, dg, nu, kd, pn, pe, L1, p1, nt, tb, fd, hB⟩ := hm1
    refine bp_istore (q := 145) 45 rfl rfl (by decide) (bp_up5 rfl) ?_
    refine bp_aload_n (q := 146) 46 rfl rfl rfl rfl ?_
    refine bp_aload_n (q := 147) 47 rfl rfl rfl rfl ?_
    refine bp_iload (q := 149) 48 rfl rfl rfl ?_
    refine bp_iconst (v := 1) (q := 150) 49 rfl rfl (by decide) ?_
    refine bp_iadd (q := 151) 50 rfl rfl ?_
    rw [show nI ix + 1 = nI (ix + 1) from nI_add ix 1]
    refine bp_sld hsc (q := 152) 51 rfl rfl (vp_in_nI (n := ix + 1) (by omega) (by omega)) ?_
    rw [nI_clamp (by omega)]
    refine bp_i2l (q := 153) 52 rfl rfl ?_
    refine bp_bipush (v := 32) (q := 155) 53 rfl rfl (by decide) ?_
    refine bp_lshl (q := 156) 54 rfl rfl ?_
    refine bp_aload_n (q := 157) 55 rfl rfl rfl rfl ?_
    refine bp_iload (q := 159) 56 rfl rfl rfl ?_
    refine bp_iconst (v := 2) (q := 160) 57 rfl rfl (by decide) ?_
    refine bp_iadd (q := 161) 58 rfl rfl ?_
    rw [show nI ix + 2 = nI (ix + 2) from nI_add ix 2]
    refine bp_sld hsc (q := 162) 59 rfl rfl (vp_in_nI (n := ix + 2) (by omega) (by omega)) ?_
    rw [nI_clamp (by omega)]
    refine bp_i2l (q := 163) 60 rfl rfl ?_
    refine bp_ldc2 (q := 166) 61 rfl rfl wd1751 ?_
    refine bp_land (q := 167) 62 rfl rfl ?_
    refine bp_lor (q := 168) 63 rfl rfl ?_
    refine bp_callV (q := 171) (ci := 9) 64 rfl rfl cw_Mo_feed lk_Law_54 rfl hB.kb wd1420 wd1421 rfl rfl (Nat.le_of_ble_eq_true rfl) ⟨Nat.le_of_ble_eq_true rfl, Nat.le_of_ble_eq_true rfl⟩ (s_Mo_feed hB (fun b1 h2 hB2 => ?_) (fun b1 b2 h2 hB2 => ?_) (fun b1 b2 h2 hB2 => ?_))
    · rw [a1] at b1; cases b1
    · have hm2 := MoS.of hB2
      have hk2 : bp_K h2 o = 2 := (hm2.fi.K o).trans hP.2.2.1
      have hl2 : bp_L h2 o = 1 := (hm2.fi.L o).trans hP.2.2.2
      refine bp_istore (q := 173) 65 rfl rfl (by decide) (bp_up6 rfl) ?_
      refine bp_aload_n (q := 174) 66 rfl rfl rfl rfl ?_
      refine bp_callV (q := 177) (ci := 9) 67 rfl rfl cw_Mo_thrown lk_Law_55 rfl hB2.kb wd1416 wd1417 rfl rfl (Nat.le_of_ble_eq_true rfl) ⟨Nat.le_of_ble_eq_true rfl, Nat.le_of_ble_eq_true rfl⟩ (s_Mo_thrown (ro := false) hB2 ?_)
      refine bp_iload (q := 179) 68 rfl rfl rfl ?_
      refine bp_icmp_eq (q := 182) (tgt := 184) 69 rfl rfl (by decide) (fun z179 => ?_) (fun z179 => ?_)
      · refine bp_iload (q := 186) 72 rfl rfl rfl ?_
        refine bp_if_ne (q := 189) (tgt := 201) 73 rfl rfl (by decide) (fun z186 => ?_) (fun z => absurd z (by decide))
        refine bp_goto (tgt := 749) 83 rfl (by decide) ?_
        exact hN _ _ _ _ _ _ _ _ _ _ _ _ (hP.end_ hno hm2 hC hxs okp hE)
      · exact absurd rfl z179
    · omega
  · have hm1 := hP.mo hm
    obtain ⟨i, fa, fm, lk, al, ind, sk, dp, lv, fr, en, nf, nn, dg, nu, kd, pn, pe, L1, p1, nt, tb, fd, hB⟩ := hm1
    refine bp_istore (q := 145) 45 rfl rfl (by decide) (bp_up5 rfl) ?_
    refine bp_aload_n (q := 146) 46 rfl rfl rfl rfl ?_
    refine bp_aload_n (q := 147) 47 rfl rfl rfl rfl ?_
    refine bp_iload (q := 149) 48 rfl rfl rfl ?_
    refine bp_iconst (v := 1) (q := 150) 49 rfl rfl (by decide) ?_
    refine bp_iadd (q := 151) 50 rfl rfl ?_
    rw [show nI ix + 1 = nI (ix + 1) from nI_add ix 1]
    refine bp_sld hsc (q := 152) 51 rfl rfl (vp_in_nI (n := ix + 1) (by omega) (by omega)) ?_
    rw [nI_clamp (by omega)]
    refine bp_i2l (q := 153) 52 rfl rfl ?_
    refine bp_bipush (v := 32) (q := 155) 53 rfl rfl (by decide) ?_
    refine bp_lshl (q := 156) 54 rfl rfl ?_
    refine bp_aload_n (q := 157) 55 rfl rfl rfl rfl ?_
    refine bp_iload (q := 159) 56 rfl rfl rfl ?_
    refine bp_iconst (v := 2) (q := 160) 57 rfl rfl (by decide) ?_
    refine bp_iadd (q := 161) 58 rfl rfl ?_
    rw [show nI ix + 2 = nI (ix + 2) from nI_add ix 2]
    refine bp_sld hsc (q := 162) 59 rfl rfl (vp_in_nI (n := ix + 2) (by omega) (by omega)) ?_
    rw [nI_clamp (by omega)]
    refine bp_i2l (q := 163) 60 rfl rfl ?_
    refine bp_ldc2 (q := 166) 61 rfl rfl wd1751 ?_
    refine bp_land (q := 167) 62 rfl rfl ?_
    refine bp_lor (q := 168) 63 rfl rfl ?_
    refine bp_callV (q := 171) (ci := 9) 64 rfl rfl cw_Mo_feed lk_Law_54 rfl hB.kb wd1420 wd1421 rfl rfl (Nat.le_of_ble_eq_true rfl) ⟨Nat.le_of_ble_eq_true rfl, Nat.le_of_ble_eq_true rfl⟩ (s_Mo_feed hB (fun b1 h2 hB2 => ?_) (fun b1 b2 h2 hB2 => ?_) (fun b1 b2 h2 hB2 => ?_))
    · rw [a1] at b1; cases b1
    · omega
    · have hm2 := MoS.of hB2
      have hk2 : bp_K h2 o = 2 := (hm2.fi.K o).trans hP.2.2.1
      have hl2 : bp_L h2 o = 1 := (hm2.fi.L o).trans hP.2.2.2
      refine bp_istore (q := 173) 65 rfl rfl (by decide) (bp_up6 rfl) ?_
      refine bp_aload_n (q := 174) 66 rfl rfl rfl rfl ?_
      refine bp_callV (q := 177) (ci := 9) 67 rfl rfl cw_Mo_thrown lk_Law_55 rfl hB2.kb wd1416 wd1417 rfl rfl (Nat.le_of_ble_eq_true rfl) ⟨Nat.le_of_ble_eq_true rfl, Nat.le_of_ble_eq_true rfl⟩ (s_Mo_thrown (ro := false) hB2 ?_)
      refine bp_iload (q := 179) 68 rfl rfl rfl ?_
      refine bp_icmp_eq (q := 182) (tgt := 184) 69 rfl rfl (by decide) (fun z179 => ?_) (fun z179 => ?_)
      · refine bp_iload (q := 186) 72 rfl rfl rfl ?_
        refine bp_if_ne (q := 189) (tgt := 201) 73 rfl rfl (by decide) (fun z => absurd z (by decide)) (fun z186 => ?_)
        refine bp_aload_n (q := 190) 74 rfl rfl rfl rfl ?_
        refine bp_iconst (v := 0) (q := 191) 75 rfl rfl (by decide) ?_
        refine bp_lald (q := 192) 76 rfl rfl hk2 (by rw [hl2]; exact vp_in_nI (n := 0) (by decide) (by decide)) ?_
        rw [show bp_J h2 o ((0 : Int32).toNatClampNeg) = bp_J h1 o 0 from hm2.fi.J o 0, hJ]
        refine bp_iload (q := 194) 77 rfl rfl rfl ?_
        refine bp_i2l (q := 195) 78 rfl rfl ?_
        refine bp_lcmp (q := 196) 79 rfl rfl ?_
        refine bp_if_eq (q := 199) (tgt := 201) 80 rfl rfl (by decide) (fun z196 => ?_) (fun z196 => ?_)
        · refine bp_goto (tgt := 749) 83 rfl (by decide) ?_
          exact hN _ _ _ _ _ _ _ _ _ _ _ _ (hP.end_ hno hm2 (okC_feed hC a1 a2) hxs okp hE)
        · exact absurd ((lg_cmp_eq _ _).mpr rfl) z196
      · exact absurd rfl z179
set_option maxRecDepth 100000 in
set_option maxHeartbeats 4000000 in
theorem cs_take (htl : l.stackTraces = false) (hsc : bp_Sc G H0 sc n f) (hn5 : ix + 5 ≤ n) (hnb : n < 1000000) (hS : LST M Z o (C + 1) (S + 6) h aO na T xs L ps me (c + 1) (s + 6)) (hN : ∀ (h : bp_H) (aO na : Nat) (T xs : List Nat) (L : List (Nat × Nat)) (ps : List (Nat × Nat × Nat)) (me : Int32) (c s : Nat) (lo5 lo6 : Option Value), LST M Z o C S h aO na T xs L ps me c s → bp_A l G H0 (14, 520, false, false) M_Law_law h c s 749 [some (.ref sc), some (.ref (Z 43)), some (.ref (M 0)), some (.ref o), some (.int (nI ix)), lo5, lo6] [] Q) : bp_A l G H0 (14, 520, false, false) M_Law_law h (c + 1) (s + 6) 215 [some (.ref sc), some (.ref (Z 43)), some (.ref (M 0)), some (.ref o), some (.int (nI ix)), lo5, lo6] [] Q := by
  have hX0 := hS.1
  obtain ⟨tw, hm⟩ := hS.2.1
  have hko := hS.2.2.1.1
  have hlo := hS.2.2.1.2.1
  have hno := hS.2.2.1.2.2
  have hC := hS.2.2.2.1
  have hxs := hS.2.2.2.2.1
  have okp := hS.2.2.2.2.2.1
  have hE := hS.2.2.2.2.2.2
  refine bp_aload_n (q := 216) 89 rfl rfl rfl rfl ?_
  refine bp_aload_n (q := 217) 90 rfl rfl rfl rfl ?_
  refine bp_callSW (q := 220) 91 rfl rfl cx_Law_take wd1188 wd1189 rfl rfl (Nat.le_of_ble_eq_true rfl) ⟨Nat.le_of_ble_eq_true rfl, Nat.le_of_ble_eq_true rfl⟩ (s_Law_take htl hX0 hko hlo hno  (fun a1 h1 hP => ?_) (fun a1 h1 hP hJ => ?_))
  · have hm1 := hP.mo hm
    obtain ⟨i, fa, fm, lk, al, ind, sk, dp, lv, fr, en, nf, nn, dg, nu, kd, pn, pe, L1, p1, nt, tb, fd, hB⟩ := hm1
    refine bp_istore (q := 222) 92 rfl rfl (by decide) (bp_up5 rfl) ?_
    refine bp_aload_n (q := 223) 93 rfl rfl rfl rfl ?_
    refine bp_callV (q := 226) (ci := 9) 94 rfl rfl cw_Mo_take lk_Law_65 rfl hB.kb wd1432 wd1433 rfl rfl (Nat.le_of_ble_eq_true rfl) ⟨Nat.le_of_ble_eq_true rfl, Nat.le_of_ble_eq_true rfl⟩ (s_Mo_take hB (ch_lt hxs) (fun b1 h2 hB2 => ?_) (fun b1 h2 hB2 => ?_))
    · have hm2 := MoS.of hB2
      have hk2 : bp_K h2 o = 2 := (hm2.fi.K o).trans hP.2.2.1
      have hl2 : bp_L h2 o = 1 := (hm2.fi.L o).trans hP.2.2.2
      refine bp_istore (q := 228) 95 rfl rfl (by decide) (bp_up6 rfl) ?_
      refine bp_aload_n (q := 229) 96 rfl rfl rfl rfl ?_
      refine bp_callV (q := 232) (ci := 9) 97 rfl rfl cw_Mo_thrown lk_Law_55 rfl hB2.kb wd1416 wd1417 rfl rfl (Nat.le_of_ble_eq_true rfl) ⟨Nat.le_of_ble_eq_true rfl, Nat.le_of_ble_eq_true rfl⟩ (s_Mo_thrown (ro := false) hB2 ?_)
      refine bp_iload (q := 234) 98 rfl rfl rfl ?_
      refine bp_icmp_eq (q := 237) (tgt := 239) 99 rfl rfl (by decide) (fun z234 => ?_) (fun z234 => ?_)
      · refine bp_iload (q := 241) 102 rfl rfl rfl ?_
        refine bp_if_ne (q := 244) (tgt := 256) 103 rfl rfl (by decide) (fun z241 => ?_) (fun z => absurd z (by decide))
        refine bp_goto (tgt := 749) 113 rfl (by decide) ?_
        exact hN _ _ _ _ _ _ _ _ _ _ _ _ (hP.end_ hno hm2 hC hxs okp hE)
      · exact absurd rfl z234
    · omega
  · have hm1 := hP.mo hm
    obtain ⟨i, fa, fm, lk, al, ind, sk, dp, lv, fr, en, nf, nn, dg, nu, kd, pn, pe, L1, p1, nt, tb, fd, hB⟩ := hm1
    refine bp_istore (q := 222) 92 rfl rfl (by decide) (bp_up5 rfl) ?_
    refine bp_aload_n (q := 223) 93 rfl rfl rfl rfl ?_
    refine bp_callV (q := 226) (ci := 9) 94 rfl rfl cw_Mo_take lk_Law_65 rfl hB.kb wd1432 wd1433 rfl rfl (Nat.le_of_ble_eq_true rfl) ⟨Nat.le_of_ble_eq_true rfl, Nat.le_of_ble_eq_true rfl⟩ (s_Mo_take hB (ch_lt hxs) (fun b1 h2 hB2 => ?_) (fun b1 h2 hB2 => ?_))
    · omega
    · have hm2 := MoS.of hB2
      have hk2 : bp_K h2 o = 2 := (hm2.fi.K o).trans hP.2.2.1
      have hl2 : bp_L h2 o = 1 := (hm2.fi.L o).trans hP.2.2.2
      refine bp_istore (q := 228) 95 rfl rfl (by decide) (bp_up6 rfl) ?_
      refine bp_aload_n (q := 229) 96 rfl rfl rfl rfl ?_
      refine bp_callV (q := 232) (ci := 9) 97 rfl rfl cw_Mo_thrown lk_Law_55 rfl hB2.kb wd1416 wd1417 rfl rfl (Nat.le_of_ble_eq_true rfl) ⟨Nat.le_of_ble_eq_true rfl, Nat.le_of_ble_eq_true rfl⟩ (s_Mo_thrown (ro := false) hB2 ?_)
      refine bp_iload (q := 234) 98 rfl rfl rfl ?_
      refine bp_icmp_eq (q := 237) (tgt := 239) 99 rfl rfl (by decide) (fun z234 => ?_) (fun z234 => ?_)
      · refine bp_iload (q := 241) 102 rfl rfl rfl ?_
        refine bp_if_ne (q := 244) (tgt := 256) 103 rfl rfl (by decide) (fun z => absurd z (by decide)) (fun z241 => ?_)
        refine bp_aload_n (q := 245) 104 rfl rfl rfl rfl ?_
        refine bp_iconst (v := 0) (q := 246) 105 rfl rfl (by decide) ?_
        refine bp_lald (q := 247) 106 rfl rfl hk2 (by rw [hl2]; exact vp_in_nI (n := 0) (by decide) (by decide)) ?_
        rw [show bp_J h2 o ((0 : Int32).toNatClampNeg) = bp_J h1 o 0 from hm2.fi.J o 0, hJ]
        refine bp_iload (q := 249) 107 rfl rfl rfl ?_
        refine bp_i2l (q := 250) 108 rfl rfl ?_
        refine bp_lcmp (q := 251) 109 rfl rfl ?_
        refine bp_if_eq (q := 254) (tgt := 256) 110 rfl rfl (by decide) (fun z251 => ?_) (fun z251 => ?_)
        · refine bp_goto (tgt := 749) 113 rfl (by decide) ?_
          exact hN _ _ _ _ _ _ _ _ _ _ _ _ (hP.end_ hno hm2 (okC_of a1 (fun x hx => Or.inl (hxs x hx))) hxs okp hE)
        · exact absurd ((lg_cmp_eq _ _).mpr rfl) z251
      · exact absurd rfl z234
set_option maxRecDepth 100000 in
set_option maxHeartbeats 4000000 in
theorem cs_begin (htl : l.stackTraces = false) (hsc : bp_Sc G H0 sc n f) (hn5 : ix + 5 ≤ n) (hnb : n < 1000000) (hS : LST M Z o (C + 1) (S + 6) h aO na T xs L ps me (c + 1) (s + 6)) (hN : ∀ (h : bp_H) (aO na : Nat) (T xs : List Nat) (L : List (Nat × Nat)) (ps : List (Nat × Nat × Nat)) (me : Int32) (c s : Nat) (lo5 lo6 : Option Value), LST M Z o C S h aO na T xs L ps me c s → bp_A l G H0 (14, 520, false, false) M_Law_law h c s 749 [some (.ref sc), some (.ref (Z 43)), some (.ref (M 0)), some (.ref o), some (.int (nI ix)), lo5, lo6] [] Q) : bp_A l G H0 (14, 520, false, false) M_Law_law h (c + 1) (s + 6) 349 [some (.ref sc), some (.ref (Z 43)), some (.ref (M 0)), some (.ref o), some (.int (nI ix)), lo5, lo6] [] Q := by
  have hX0 := hS.1
  obtain ⟨tw, hm⟩ := hS.2.1
  have hko := hS.2.2.1.1
  have hlo := hS.2.2.1.2.1
  have hno := hS.2.2.1.2.2
  have hC := hS.2.2.2.1
  have hxs := hS.2.2.2.2.1
  have okp := hS.2.2.2.2.2.1
  have hE := hS.2.2.2.2.2.2
  refine bp_aload_n (q := 350) 166 rfl rfl rfl rfl ?_
  refine bp_aload_n (q := 351) 167 rfl rfl rfl rfl ?_
  refine bp_iload (q := 353) 168 rfl rfl rfl ?_
  refine bp_iconst (v := 1) (q := 354) 169 rfl rfl (by decide) ?_
  refine bp_iadd (q := 355) 170 rfl rfl ?_
  rw [show nI ix + 1 = nI (ix + 1) from nI_add ix 1]
  refine bp_sld hsc (q := 356) 171 rfl rfl (vp_in_nI (n := ix + 1) (by omega) (by omega)) ?_
  rw [nI_clamp (by omega)]
  refine bp_aload_n (q := 357) 172 rfl rfl rfl rfl ?_
  refine bp_iload (q := 359) 173 rfl rfl rfl ?_
  refine bp_iconst (v := 2) (q := 360) 174 rfl rfl (by decide) ?_
  refine bp_iadd (q := 361) 175 rfl rfl ?_
  rw [show nI ix + 2 = nI (ix + 2) from nI_add ix 2]
  refine bp_sld hsc (q := 362) 176 rfl rfl (vp_in_nI (n := ix + 2) (by omega) (by omega)) ?_
  rw [nI_clamp (by omega)]
  refine bp_aload_n (q := 363) 177 rfl rfl rfl rfl ?_
  refine bp_callSW (q := 366) 178 rfl rfl cx_Law_begin wd1197 wd1198 rfl rfl (Nat.le_of_ble_eq_true rfl) ⟨Nat.le_of_ble_eq_true rfl, Nat.le_of_ble_eq_true rfl⟩ (s_Law_begin htl hX0 hko hlo hno  (fun a1 h1 hP => ?_) (fun a1 a2 h1 hP => ?_) (fun a b a1 a2 a3 a4 a5 h1 hP hJ => ?_))
  · have hm1 := hP.mo hm
    obtain ⟨i, fa, fm, lk, al, ind, sk, dp, lv, fr, en, nf, nn, dg, nu, kd, pn, pe, L1, p1, nt, tb, fd, hB⟩ := hm1
    refine bp_istore (q := 368) 179 rfl rfl (by decide) (bp_up5 rfl) ?_
    refine bp_aload_n (q := 369) 180 rfl rfl rfl rfl ?_
    refine bp_aload_n (q := 370) 181 rfl rfl rfl rfl ?_
    refine bp_iload (q := 372) 182 rfl rfl rfl ?_
    refine bp_iconst (v := 1) (q := 373) 183 rfl rfl (by decide) ?_
    refine bp_iadd (q := 374) 184 rfl rfl ?_
    rw [show nI ix + 1 = nI (ix + 1) from nI_add ix 1]
    refine bp_sld hsc (q := 375) 185 rfl rfl (vp_in_nI (n := ix + 1) (by omega) (by omega)) ?_
    rw [nI_clamp (by omega)]
    refine bp_aload_n (q := 376) 186 rfl rfl rfl rfl ?_
    refine bp_iload (q := 378) 187 rfl rfl rfl ?_
    refine bp_iconst (v := 2) (q := 379) 188 rfl rfl (by decide) ?_
    refine bp_iadd (q := 380) 189 rfl rfl ?_
    rw [show nI ix + 2 = nI (ix + 2) from nI_add ix 2]
    refine bp_sld hsc (q := 381) 190 rfl rfl (vp_in_nI (n := ix + 2) (by omega) (by omega)) ?_
    rw [nI_clamp (by omega)]
    refine bp_callV (q := 384) (ci := 9) 191 rfl rfl cw_Mo_begin lk_Law_94 rfl hB.kb wd1712 wd1713 rfl rfl (Nat.le_of_ble_eq_true rfl) ⟨Nat.le_of_ble_eq_true rfl, Nat.le_of_ble_eq_true rfl⟩ (s_Mo_begin hB (fun b1 h2 hB2 => ?_) (fun b1 b2 h2 hB2 => ?_) (fun a b b1 b2 b3 b4 b5 h2 hB2 => ?_))
    · have hm2 := MoS.of hB2
      have hk2 : bp_K h2 o = 2 := (hm2.fi.K o).trans hP.2.2.1
      have hl2 : bp_L h2 o = 1 := (hm2.fi.L o).trans hP.2.2.2
      refine bp_istore (q := 386) 192 rfl rfl (by decide) (bp_up6 rfl) ?_
      refine bp_aload_n (q := 387) 193 rfl rfl rfl rfl ?_
      refine bp_callV (q := 390) (ci := 9) 194 rfl rfl cw_Mo_thrown lk_Law_55 rfl hB2.kb wd1416 wd1417 rfl rfl (Nat.le_of_ble_eq_true rfl) ⟨Nat.le_of_ble_eq_true rfl, Nat.le_of_ble_eq_true rfl⟩ (s_Mo_thrown (ro := false) hB2 ?_)
      refine bp_iload (q := 392) 195 rfl rfl rfl ?_
      refine bp_icmp_eq (q := 395) (tgt := 397) 196 rfl rfl (by decide) (fun z392 => ?_) (fun z392 => ?_)
      · refine bp_iload (q := 399) 199 rfl rfl rfl ?_
        refine bp_if_ne (q := 402) (tgt := 414) 200 rfl rfl (by decide) (fun z399 => ?_) (fun z => absurd z (by decide))
        refine bp_goto (tgt := 749) 210 rfl (by decide) ?_
        exact hN _ _ _ _ _ _ _ _ _ _ _ _ (hP.end_ hno hm2 hC hxs okp hE)
      · exact absurd rfl z392
    · exact absurd b1 a1
    · exact absurd (bg_wi b1 b2 b3 b4) a1
  · have hm1 := hP.mo hm
    obtain ⟨i, fa, fm, lk, al, ind, sk, dp, lv, fr, en, nf, nn, dg, nu, kd, pn, pe, L1, p1, nt, tb, fd, hB⟩ := hm1
    refine bp_istore (q := 368) 179 rfl rfl (by decide) (bp_up5 rfl) ?_
    refine bp_aload_n (q := 369) 180 rfl rfl rfl rfl ?_
    refine bp_aload_n (q := 370) 181 rfl rfl rfl rfl ?_
    refine bp_iload (q := 372) 182 rfl rfl rfl ?_
    refine bp_iconst (v := 1) (q := 373) 183 rfl rfl (by decide) ?_
    refine bp_iadd (q := 374) 184 rfl rfl ?_
    rw [show nI ix + 1 = nI (ix + 1) from nI_add ix 1]
    refine bp_sld hsc (q := 375) 185 rfl rfl (vp_in_nI (n := ix + 1) (by omega) (by omega)) ?_
    rw [nI_clamp (by omega)]
    refine bp_aload_n (q := 376) 186 rfl rfl rfl rfl ?_
    refine bp_iload (q := 378) 187 rfl rfl rfl ?_
    refine bp_iconst (v := 2) (q := 379) 188 rfl rfl (by decide) ?_
    refine bp_iadd (q := 380) 189 rfl rfl ?_
    rw [show nI ix + 2 = nI (ix + 2) from nI_add ix 2]
    refine bp_sld hsc (q := 381) 190 rfl rfl (vp_in_nI (n := ix + 2) (by omega) (by omega)) ?_
    rw [nI_clamp (by omega)]
    refine bp_callV (q := 384) (ci := 9) 191 rfl rfl cw_Mo_begin lk_Law_94 rfl hB.kb wd1712 wd1713 rfl rfl (Nat.le_of_ble_eq_true rfl) ⟨Nat.le_of_ble_eq_true rfl, Nat.le_of_ble_eq_true rfl⟩ (s_Mo_begin hB (fun b1 h2 hB2 => ?_) (fun b1 b2 h2 hB2 => ?_) (fun a b b1 b2 b3 b4 b5 h2 hB2 => ?_))
    · exact absurd a1 b1
    · have hm2 := MoS.of hB2
      have hk2 : bp_K h2 o = 2 := (hm2.fi.K o).trans hP.2.2.1
      have hl2 : bp_L h2 o = 1 := (hm2.fi.L o).trans hP.2.2.2
      refine bp_istore (q := 386) 192 rfl rfl (by decide) (bp_up6 rfl) ?_
      refine bp_aload_n (q := 387) 193 rfl rfl rfl rfl ?_
      refine bp_callV (q := 390) (ci := 9) 194 rfl rfl cw_Mo_thrown lk_Law_55 rfl hB2.kb wd1416 wd1417 rfl rfl (Nat.le_of_ble_eq_true rfl) ⟨Nat.le_of_ble_eq_true rfl, Nat.le_of_ble_eq_true rfl⟩ (s_Mo_thrown (ro := false) hB2 ?_)
      refine bp_iload (q := 392) 195 rfl rfl rfl ?_
      refine bp_icmp_eq (q := 395) (tgt := 397) 196 rfl rfl (by decide) (fun z392 => ?_) (fun z392 => ?_)
      · refine bp_iload (q := 399) 199 rfl rfl rfl ?_
        refine bp_if_ne (q := 402) (tgt := 414) 200 rfl rfl (by decide) (fun z399 => ?_) (fun z => absurd z (by decide))
        refine bp_goto (tgt := 749) 210 rfl (by decide) ?_
        exact hN _ _ _ _ _ _ _ _ _ _ _ _ (hP.end_ hno hm2 hC hxs okp hE)
      · exact absurd rfl z392
    · omega
  · have hm1 := hP.mo hm
    obtain ⟨i, fa, fm, lk, al, ind, sk, dp, lv, fr, en, nf, nn, dg, nu, kd, pn, pe, L1, p1, nt, tb, fd, hB⟩ := hm1
    refine bp_istore (q := 368) 179 rfl rfl (by decide) (bp_up5 rfl) ?_
    refine bp_aload_n (q := 369) 180 rfl rfl rfl rfl ?_
    refine bp_aload_n (q := 370) 181 rfl rfl rfl rfl ?_
    refine bp_iload (q := 372) 182 rfl rfl rfl ?_
    refine bp_iconst (v := 1) (q := 373) 183 rfl rfl (by decide) ?_
    refine bp_iadd (q := 374) 184 rfl rfl ?_
    rw [show nI ix + 1 = nI (ix + 1) from nI_add ix 1]
    refine bp_sld hsc (q := 375) 185 rfl rfl (vp_in_nI (n := ix + 1) (by omega) (by omega)) ?_
    rw [nI_clamp (by omega)]
    refine bp_aload_n (q := 376) 186 rfl rfl rfl rfl ?_
    refine bp_iload (q := 378) 187 rfl rfl rfl ?_
    refine bp_iconst (v := 2) (q := 379) 188 rfl rfl (by decide) ?_
    refine bp_iadd (q := 380) 189 rfl rfl ?_
    rw [show nI ix + 2 = nI (ix + 2) from nI_add ix 2]
    refine bp_sld hsc (q := 381) 190 rfl rfl (vp_in_nI (n := ix + 2) (by omega) (by omega)) ?_
    rw [nI_clamp (by omega)]
    refine bp_callV (q := 384) (ci := 9) 191 rfl rfl cw_Mo_begin lk_Law_94 rfl hB.kb wd1712 wd1713 rfl rfl (Nat.le_of_ble_eq_true rfl) ⟨Nat.le_of_ble_eq_true rfl, Nat.le_of_ble_eq_true rfl⟩ (s_Mo_begin hB (fun b1 h2 hB2 => ?_) (fun b1 b2 h2 hB2 => ?_) (fun a' b' b1 b2 b3 b4 b5 h2 hB2 => ?_))
    · exact absurd (bg_wi a1 a2 a3 a4) b1
    · omega
    · have hm2 := MoS.of hB2
      have hk2 : bp_K h2 o = 2 := (hm2.fi.K o).trans hP.2.2.1
      have hl2 : bp_L h2 o = 1 := (hm2.fi.L o).trans hP.2.2.2
      have e1 : a' = a := (nI_eq_iff (by omega) (by omega)).mp (b1.symm.trans a1)
      have e2 : b' = b := (nI_eq_iff (by omega) (by omega)).mp (b2.symm.trans a2)
      subst e1 e2
      refine bp_istore (q := 386) 192 rfl rfl (by decide) (bp_up6 rfl) ?_
      refine bp_aload_n (q := 387) 193 rfl rfl rfl rfl ?_
      refine bp_callV (q := 390) (ci := 9) 194 rfl rfl cw_Mo_thrown lk_Law_55 rfl hB2.kb wd1416 wd1417 rfl rfl (Nat.le_of_ble_eq_true rfl) ⟨Nat.le_of_ble_eq_true rfl, Nat.le_of_ble_eq_true rfl⟩ (s_Mo_thrown (ro := false) hB2 ?_)
      refine bp_iload (q := 392) 195 rfl rfl rfl ?_
      refine bp_icmp_eq (q := 395) (tgt := 397) 196 rfl rfl (by decide) (fun z392 => ?_) (fun z392 => ?_)
      · refine bp_iload (q := 399) 199 rfl rfl rfl ?_
        refine bp_if_ne (q := 402) (tgt := 414) 200 rfl rfl (by decide) (fun z => absurd z (by decide)) (fun z399 => ?_)
        refine bp_aload_n (q := 403) 201 rfl rfl rfl rfl ?_
        refine bp_iconst (v := 0) (q := 404) 202 rfl rfl (by decide) ?_
        refine bp_lald (q := 405) 203 rfl rfl hk2 (by rw [hl2]; exact vp_in_nI (n := 0) (by decide) (by decide)) ?_
        rw [show bp_J h2 o ((0 : Int32).toNatClampNeg) = bp_J h1 o 0 from hm2.fi.J o 0, hJ]
        refine bp_iload (q := 407) 204 rfl rfl rfl ?_
        refine bp_i2l (q := 408) 205 rfl rfl ?_
        refine bp_lcmp (q := 409) 206 rfl rfl ?_
        refine bp_if_eq (q := 412) (tgt := 414) 207 rfl rfl (by decide) (fun z409 => ?_) (fun z409 => ?_)
        · refine bp_goto (tgt := 749) 210 rfl (by decide) ?_
          exact hN _ _ _ _ _ _ _ _ _ _ _ _ (hP.end_ hno hm2 hC hxs (okp.gat a5 a3 a4) pst_gat)
        · exact absurd ((lg_cmp_eq _ _).mpr rfl) z409
      · exact absurd rfl z392
set_option maxRecDepth 100000 in
set_option maxHeartbeats 4000000 in
theorem cs_add (htl : l.stackTraces = false) (hsc : bp_Sc G H0 sc n f) (hn5 : ix + 5 ≤ n) (hnb : n < 1000000) (hS : LST M Z o (C + 1) (S + 6) h aO na T xs L ps me (c + 1) (s + 6)) (hN : ∀ (h : bp_H) (aO na : Nat) (T xs : List Nat) (L : List (Nat × Nat)) (ps : List (Nat × Nat × Nat)) (me : Int32) (c s : Nat) (lo5 lo6 : Option Value), LST M Z o C S h aO na T xs L ps me c s → bp_A l G H0 (14, 520, false, false) M_Law_law h c s 749 [some (.ref sc), some (.ref (Z 43)), some (.ref (M 0)), some (.ref o), some (.int (nI ix)), lo5, lo6] [] Q) : bp_A l G H0 (14, 520, false, false) M_Law_law h (c + 1) (s + 6) 417 [some (.ref sc), some (.ref (Z 43)), some (.ref (M 0)), some (.ref o), some (.int (nI ix)), lo5, lo6] [] Q := by
  have hX0 := hS.1
  obtain ⟨tw, hm⟩ := hS.2.1
  have hko := hS.2.2.1.1
  have hlo := hS.2.2.1.2.1
  have hno := hS.2.2.1.2.2
  have hC := hS.2.2.2.1
  have hxs := hS.2.2.2.2.1
  have okp := hS.2.2.2.2.2.1
  have hE := hS.2.2.2.2.2.2
  refine bp_aload_n (q := 418) 211 rfl rfl rfl rfl ?_
  refine bp_aload_n (q := 419) 212 rfl rfl rfl rfl ?_
  refine bp_iload (q := 421) 213 rfl rfl rfl ?_
  refine bp_iconst (v := 1) (q := 422) 214 rfl rfl (by decide) ?_
  refine bp_iadd (q := 423) 215 rfl rfl ?_
  rw [show nI ix + 1 = nI (ix + 1) from nI_add ix 1]
  refine bp_sld hsc (q := 424) 216 rfl rfl (vp_in_nI (n := ix + 1) (by omega) (by omega)) ?_
  rw [nI_clamp (by omega)]
  refine bp_aload_n (q := 425) 217 rfl rfl rfl rfl ?_
  refine bp_iload (q := 427) 218 rfl rfl rfl ?_
  refine bp_iconst (v := 2) (q := 428) 219 rfl rfl (by decide) ?_
  refine bp_iadd (q := 429) 220 rfl rfl ?_
  rw [show nI ix + 2 = nI (ix + 2) from nI_add ix 2]
  refine bp_sld hsc (q := 430) 221 rfl rfl (vp_in_nI (n := ix + 2) (by omega) (by omega)) ?_
  rw [nI_clamp (by omega)]
  refine bp_aload_n (q := 431) 222 rfl rfl rfl rfl ?_
  refine bp_iload (q := 433) 223 rfl rfl rfl ?_
  refine bp_iconst (v := 3) (q := 434) 224 rfl rfl (by decide) ?_
  refine bp_iadd (q := 435) 225 rfl rfl ?_
  rw [show nI ix + 3 = nI (ix + 3) from nI_add ix 3]
  refine bp_sld hsc (q := 436) 226 rfl rfl (vp_in_nI (n := ix + 3) (by omega) (by omega)) ?_
  rw [nI_clamp (by omega)]
  refine bp_aload_n (q := 437) 227 rfl rfl rfl rfl ?_
  refine bp_iload (q := 439) 228 rfl rfl rfl ?_
  refine bp_iconst (v := 4) (q := 440) 229 rfl rfl (by decide) ?_
  refine bp_iadd (q := 441) 230 rfl rfl ?_
  rw [show nI ix + 4 = nI (ix + 4) from nI_add ix 4]
  refine bp_sld hsc (q := 442) 231 rfl rfl (vp_in_nI (n := ix + 4) (by omega) (by omega)) ?_
  rw [nI_clamp (by omega)]
  refine bp_aload_n (q := 443) 232 rfl rfl rfl rfl ?_
  refine bp_callSW (q := 446) 233 rfl rfl cx_Law_add wd1208 wd1209 rfl rfl (Nat.le_of_ble_eq_true rfl) ⟨Nat.le_of_ble_eq_true rfl, Nat.le_of_ble_eq_true rfl⟩ (s_Law_add htl hX0 hko hlo hno okp (fun a1 h1 hP => ?_) (fun a1 a2 h1 hP => ?_) (fun a1 a2 a3 h1 hP => ?_) (fun u sy sz co qs qa qb qe a1 a2 a3 a4 a5 a6 a7 a8 a9 a10 a11 h1 hP hJ => ?_))
  · have hm1 := hP.mo hm
    obtain ⟨i, fa, fm, lk, al, ind, sk, dp, lv, fr, en, nf, nn, dg, nu, kd, pn, pe, L1, p1, nt, tb, fd, hB⟩ := hm1
    refine bp_istore (q := 448) 234 rfl rfl (by decide) (bp_up5 rfl) ?_
    refine bp_aload_n (q := 449) 235 rfl rfl rfl rfl ?_
    refine bp_aload_n (q := 450) 236 rfl rfl rfl rfl ?_
    refine bp_iload (q := 452) 237 rfl rfl rfl ?_
    refine bp_iconst (v := 1) (q := 453) 238 rfl rfl (by decide) ?_
    refine bp_iadd (q := 454) 239 rfl rfl ?_
    rw [show nI ix + 1 = nI (ix + 1) from nI_add ix 1]
    refine bp_sld hsc (q := 455) 240 rfl rfl (vp_in_nI (n := ix + 1) (by omega) (by omega)) ?_
    rw [nI_clamp (by omega)]
    refine bp_aload_n (q := 456) 241 rfl rfl rfl rfl ?_
    refine bp_iload (q := 458) 242 rfl rfl rfl ?_
    refine bp_iconst (v := 2) (q := 459) 243 rfl rfl (by decide) ?_
    refine bp_iadd (q := 460) 244 rfl rfl ?_
    rw [show nI ix + 2 = nI (ix + 2) from nI_add ix 2]
    refine bp_sld hsc (q := 461) 245 rfl rfl (vp_in_nI (n := ix + 2) (by omega) (by omega)) ?_
    rw [nI_clamp (by omega)]
    refine bp_aload_n (q := 462) 246 rfl rfl rfl rfl ?_
    refine bp_iload (q := 464) 247 rfl rfl rfl ?_
    refine bp_iconst (v := 3) (q := 465) 248 rfl rfl (by decide) ?_
    refine bp_iadd (q := 466) 249 rfl rfl ?_
    rw [show nI ix + 3 = nI (ix + 3) from nI_add ix 3]
    refine bp_sld hsc (q := 467) 250 rfl rfl (vp_in_nI (n := ix + 3) (by omega) (by omega)) ?_
    rw [nI_clamp (by omega)]
    refine bp_aload_n (q := 468) 251 rfl rfl rfl rfl ?_
    refine bp_iload (q := 470) 252 rfl rfl rfl ?_
    refine bp_iconst (v := 4) (q := 471) 253 rfl rfl (by decide) ?_
    refine bp_iadd (q := 472) 254 rfl rfl ?_
    rw [show nI ix + 4 = nI (ix + 4) from nI_add ix 4]
    refine bp_sld hsc (q := 473) 255 rfl rfl (vp_in_nI (n := ix + 4) (by omega) (by omega)) ?_
    rw [nI_clamp (by omega)]
    refine bp_callV (q := 476) (ci := 9) 256 rfl rfl cw_Mo_add lk_Law_98 rfl hB.kb wd1716 wd1717 rfl rfl (Nat.le_of_ble_eq_true rfl) ⟨Nat.le_of_ble_eq_true rfl, Nat.le_of_ble_eq_true rfl⟩ (s_Mo_add hB okp hE (fun b1 h2 hB2 => ?_) (fun b1 b2 h2 hB2 => ?_) (fun b1 b2 b3 h2 hB2 => ?_) (fun u' sy' sz' co' qs' qa' qb' qe' b1 b2 b3 b4 b5 b6 b7 b8 b9 b10 b11 h2 hB2 => ?_))
    · have hm2 := MoS.of hB2
      have hk2 : bp_K h2 o = 2 := (hm2.fi.K o).trans hP.2.2.1
      have hl2 : bp_L h2 o = 1 := (hm2.fi.L o).trans hP.2.2.2
      refine bp_istore (q := 478) 257 rfl rfl (by decide) (bp_up6 rfl) ?_
      refine bp_aload_n (q := 479) 258 rfl rfl rfl rfl ?_
      refine bp_callV (q := 482) (ci := 9) 259 rfl rfl cw_Mo_thrown lk_Law_55 rfl hB2.kb wd1416 wd1417 rfl rfl (Nat.le_of_ble_eq_true rfl) ⟨Nat.le_of_ble_eq_true rfl, Nat.le_of_ble_eq_true rfl⟩ (s_Mo_thrown (ro := false) hB2 ?_)
      refine bp_iload (q := 484) 260 rfl rfl rfl ?_
      refine bp_icmp_eq (q := 487) (tgt := 489) 261 rfl rfl (by decide) (fun z484 => ?_) (fun z484 => ?_)
      · refine bp_iload (q := 491) 264 rfl rfl rfl ?_
        refine bp_if_ne (q := 494) (tgt := 506) 265 rfl rfl (by decide) (fun z491 => ?_) (fun z => absurd z (by decide))
        refine bp_goto (tgt := 749) 275 rfl (by decide) ?_
        exact hN _ _ _ _ _ _ _ _ _ _ _ _ (hP.end_ hno hm2 hC hxs okp hE)
      · exact absurd rfl z484
    · exact absurd a1 b1
    · exact absurd a1 b1
    · rw [a1] at b5; cases qs' <;> cases b5
  · have hm1 := hP.mo hm
    obtain ⟨i, fa, fm, lk, al, ind, sk, dp, lv, fr, en, nf, nn, dg, nu, kd, pn, pe, L1, p1, nt, tb, fd, hB⟩ := hm1
    refine bp_istore (q := 448) 234 rfl rfl (by decide) (bp_up5 rfl) ?_
    refine bp_aload_n (q := 449) 235 rfl rfl rfl rfl ?_
    refine bp_aload_n (q := 450) 236 rfl rfl rfl rfl ?_
    refine bp_iload (q := 452) 237 rfl rfl rfl ?_
    refine bp_iconst (v := 1) (q := 453) 238 rfl rfl (by decide) ?_
    refine bp_iadd (q := 454) 239 rfl rfl ?_
    rw [show nI ix + 1 = nI (ix + 1) from nI_add ix 1]
    refine bp_sld hsc (q := 455) 240 rfl rfl (vp_in_nI (n := ix + 1) (by omega) (by omega)) ?_
    rw [nI_clamp (by omega)]
    refine bp_aload_n (q := 456) 241 rfl rfl rfl rfl ?_
    refine bp_iload (q := 458) 242 rfl rfl rfl ?_
    refine bp_iconst (v := 2) (q := 459) 243 rfl rfl (by decide) ?_
    refine bp_iadd (q := 460) 244 rfl rfl ?_
    rw [show nI ix + 2 = nI (ix + 2) from nI_add ix 2]
    refine bp_sld hsc (q := 461) 245 rfl rfl (vp_in_nI (n := ix + 2) (by omega) (by omega)) ?_
    rw [nI_clamp (by omega)]
    refine bp_aload_n (q := 462) 246 rfl rfl rfl rfl ?_
    refine bp_iload (q := 464) 247 rfl rfl rfl ?_
    refine bp_iconst (v := 3) (q := 465) 248 rfl rfl (by decide) ?_
    refine bp_iadd (q := 466) 249 rfl rfl ?_
    rw [show nI ix + 3 = nI (ix + 3) from nI_add ix 3]
    refine bp_sld hsc (q := 467) 250 rfl rfl (vp_in_nI (n := ix + 3) (by omega) (by omega)) ?_
    rw [nI_clamp (by omega)]
    refine bp_aload_n (q := 468) 251 rfl rfl rfl rfl ?_
    refine bp_iload (q := 470) 252 rfl rfl rfl ?_
    refine bp_iconst (v := 4) (q := 471) 253 rfl rfl (by decide) ?_
    refine bp_iadd (q := 472) 254 rfl rfl ?_
    rw [show nI ix + 4 = nI (ix + 4) from nI_add ix 4]
    refine bp_sld hsc (q := 473) 255 rfl rfl (vp_in_nI (n := ix + 4) (by omega) (by omega)) ?_
    rw [nI_clamp (by omega)]
    refine bp_callV (q := 476) (ci := 9) 256 rfl rfl cw_Mo_add lk_Law_98 rfl hB.kb wd1716 wd1717 rfl rfl (Nat.le_of_ble_eq_true rfl) ⟨Nat.le_of_ble_eq_true rfl, Nat.le_of_ble_eq_true rfl⟩ (s_Mo_add hB okp hE (fun b1 h2 hB2 => ?_) (fun b1 b2 h2 hB2 => ?_) (fun b1 b2 b3 h2 hB2 => ?_) (fun u' sy' sz' co' qs' qa' qb' qe' b1 b2 b3 b4 b5 b6 b7 b8 b9 b10 b11 h2 hB2 => ?_))
    · exact absurd b1 a1
    · have hm2 := MoS.of hB2
      have hk2 : bp_K h2 o = 2 := (hm2.fi.K o).trans hP.2.2.1
      have hl2 : bp_L h2 o = 1 := (hm2.fi.L o).trans hP.2.2.2
      refine bp_istore (q := 478) 257 rfl rfl (by decide) (bp_up6 rfl) ?_
      refine bp_aload_n (q := 479) 258 rfl rfl rfl rfl ?_
      refine bp_callV (q := 482) (ci := 9) 259 rfl rfl cw_Mo_thrown lk_Law_55 rfl hB2.kb wd1416 wd1417 rfl rfl (Nat.le_of_ble_eq_true rfl) ⟨Nat.le_of_ble_eq_true rfl, Nat.le_of_ble_eq_true rfl⟩ (s_Mo_thrown (ro := false) hB2 ?_)
      refine bp_iload (q := 484) 260 rfl rfl rfl ?_
      refine bp_icmp_eq (q := 487) (tgt := 489) 261 rfl rfl (by decide) (fun z484 => ?_) (fun z484 => ?_)
      · refine bp_iload (q := 491) 264 rfl rfl rfl ?_
        refine bp_if_ne (q := 494) (tgt := 506) 265 rfl rfl (by decide) (fun z491 => ?_) (fun z => absurd z (by decide))
        refine bp_goto (tgt := 749) 275 rfl (by decide) ?_
        exact hN _ _ _ _ _ _ _ _ _ _ _ _ (hP.end_ hno hm2 hC hxs okp hE)
      · exact absurd rfl z484
    · exact absurd b2 a2
    · exact absurd (ad_wi b1 b2 b3 b4 b6 b7 b8 b9 b10) a2
  · have hm1 := hP.mo hm
    obtain ⟨i, fa, fm, lk, al, ind, sk, dp, lv, fr, en, nf, nn, dg, nu, kd, pn, pe, L1, p1, nt, tb, fd, hB⟩ := hm1
    refine bp_istore (q := 448) 234 rfl rfl (by decide) (bp_up5 rfl) ?_
    refine bp_aload_n (q := 449) 235 rfl rfl rfl rfl ?_
    refine bp_aload_n (q := 450) 236 rfl rfl rfl rfl ?_
    refine bp_iload (q := 452) 237 rfl rfl rfl ?_
    refine bp_iconst (v := 1) (q := 453) 238 rfl rfl (by decide) ?_
    refine bp_iadd (q := 454) 239 rfl rfl ?_
    rw [show nI ix + 1 = nI (ix + 1) from nI_add ix 1]
    refine bp_sld hsc (q := 455) 240 rfl rfl (vp_in_nI (n := ix + 1) (by omega) (by omega)) ?_
    rw [nI_clamp (by omega)]
    refine bp_aload_n (q := 456) 241 rfl rfl rfl rfl ?_
    refine bp_iload (q := 458) 242 rfl rfl rfl ?_
    refine bp_iconst (v := 2) (q := 459) 243 rfl rfl (by decide) ?_
    refine bp_iadd (q := 460) 244 rfl rfl ?_
    rw [show nI ix + 2 = nI (ix + 2) from nI_add ix 2]
    refine bp_sld hsc (q := 461) 245 rfl rfl (vp_in_nI (n := ix + 2) (by omega) (by omega)) ?_
    rw [nI_clamp (by omega)]
    refine bp_aload_n (q := 462) 246 rfl rfl rfl rfl ?_
    refine bp_iload (q := 464) 247 rfl rfl rfl ?_
    refine bp_iconst (v := 3) (q := 465) 248 rfl rfl (by decide) ?_
    refine bp_iadd (q := 466) 249 rfl rfl ?_
    rw [show nI ix + 3 = nI (ix + 3) from nI_add ix 3]
    refine bp_sld hsc (q := 467) 250 rfl rfl (vp_in_nI (n := ix + 3) (by omega) (by omega)) ?_
    rw [nI_clamp (by omega)]
    refine bp_aload_n (q := 468) 251 rfl rfl rfl rfl ?_
    refine bp_iload (q := 470) 252 rfl rfl rfl ?_
    refine bp_iconst (v := 4) (q := 471) 253 rfl rfl (by decide) ?_
    refine bp_iadd (q := 472) 254 rfl rfl ?_
    rw [show nI ix + 4 = nI (ix + 4) from nI_add ix 4]
    refine bp_sld hsc (q := 473) 255 rfl rfl (vp_in_nI (n := ix + 4) (by omega) (by omega)) ?_
    rw [nI_clamp (by omega)]
    refine bp_callV (q := 476) (ci := 9) 256 rfl rfl cw_Mo_add lk_Law_98 rfl hB.kb wd1716 wd1717 rfl rfl (Nat.le_of_ble_eq_true rfl) ⟨Nat.le_of_ble_eq_true rfl, Nat.le_of_ble_eq_true rfl⟩ (s_Mo_add hB okp hE (fun b1 h2 hB2 => ?_) (fun b1 b2 h2 hB2 => ?_) (fun b1 b2 b3 h2 hB2 => ?_) (fun u' sy' sz' co' qs' qa' qb' qe' b1 b2 b3 b4 b5 b6 b7 b8 b9 b10 b11 h2 hB2 => ?_))
    · exact absurd b1 a1
    · exact absurd a2 b2
    · have hm2 := MoS.of hB2
      have hk2 : bp_K h2 o = 2 := (hm2.fi.K o).trans hP.2.2.1
      have hl2 : bp_L h2 o = 1 := (hm2.fi.L o).trans hP.2.2.2
      refine bp_istore (q := 478) 257 rfl rfl (by decide) (bp_up6 rfl) ?_
      refine bp_aload_n (q := 479) 258 rfl rfl rfl rfl ?_
      refine bp_callV (q := 482) (ci := 9) 259 rfl rfl cw_Mo_thrown lk_Law_55 rfl hB2.kb wd1416 wd1417 rfl rfl (Nat.le_of_ble_eq_true rfl) ⟨Nat.le_of_ble_eq_true rfl, Nat.le_of_ble_eq_true rfl⟩ (s_Mo_thrown (ro := false) hB2 ?_)
      refine bp_iload (q := 484) 260 rfl rfl rfl ?_
      refine bp_icmp_eq (q := 487) (tgt := 489) 261 rfl rfl (by decide) (fun z484 => ?_) (fun z484 => ?_)
      · refine bp_iload (q := 491) 264 rfl rfl rfl ?_
        refine bp_if_ne (q := 494) (tgt := 506) 265 rfl rfl (by decide) (fun z491 => ?_) (fun z => absurd z (by decide))
        refine bp_goto (tgt := 749) 275 rfl (by decide) ?_
        exact hN _ _ _ _ _ _ _ _ _ _ _ _ (hP.end_ hno hm2 hC hxs okp hE)
      · exact absurd rfl z484
    · omega
  · have hm1 := hP.mo hm
    obtain ⟨i, fa, fm, lk, al, ind, sk, dp, lv, fr, en, nf, nn, dg, nu, kd, pn, pe, L1, p1, nt, tb, fd, hB⟩ := hm1
    refine bp_istore (q := 448) 234 rfl rfl (by decide) (bp_up5 rfl) ?_
    refine bp_aload_n (q := 449) 235 rfl rfl rfl rfl ?_
    refine bp_aload_n (q := 450) 236 rfl rfl rfl rfl ?_
    refine bp_iload (q := 452) 237 rfl rfl rfl ?_
    refine bp_iconst (v := 1) (q := 453) 238 rfl rfl (by decide) ?_
    refine bp_iadd (q := 454) 239 rfl rfl ?_
    rw [show nI ix + 1 = nI (ix + 1) from nI_add ix 1]
    refine bp_sld hsc (q := 455) 240 rfl rfl (vp_in_nI (n := ix + 1) (by omega) (by omega)) ?_
    rw [nI_clamp (by omega)]
    refine bp_aload_n (q := 456) 241 rfl rfl rfl rfl ?_
    refine bp_iload (q := 458) 242 rfl rfl rfl ?_
    refine bp_iconst (v := 2) (q := 459) 243 rfl rfl (by decide) ?_
    refine bp_iadd (q := 460) 244 rfl rfl ?_
    rw [show nI ix + 2 = nI (ix + 2) from nI_add ix 2]
    refine bp_sld hsc (q := 461) 245 rfl rfl (vp_in_nI (n := ix + 2) (by omega) (by omega)) ?_
    rw [nI_clamp (by omega)]
    refine bp_aload_n (q := 462) 246 rfl rfl rfl rfl ?_
    refine bp_iload (q := 464) 247 rfl rfl rfl ?_
    refine bp_iconst (v := 3) (q := 465) 248 rfl rfl (by decide) ?_
    refine bp_iadd (q := 466) 249 rfl rfl ?_
    rw [show nI ix + 3 = nI (ix + 3) from nI_add ix 3]
    refine bp_sld hsc (q := 467) 250 rfl rfl (vp_in_nI (n := ix + 3) (by omega) (by omega)) ?_
    rw [nI_clamp (by omega)]
    refine bp_aload_n (q := 468) 251 rfl rfl rfl rfl ?_
    refine bp_iload (q := 470) 252 rfl rfl rfl ?_
    refine bp_iconst (v := 4) (q := 471) 253 rfl rfl (by decide) ?_
    refine bp_iadd (q := 472) 254 rfl rfl ?_
    rw [show nI ix + 4 = nI (ix + 4) from nI_add ix 4]
    refine bp_sld hsc (q := 473) 255 rfl rfl (vp_in_nI (n := ix + 4) (by omega) (by omega)) ?_
    rw [nI_clamp (by omega)]
    refine bp_callV (q := 476) (ci := 9) 256 rfl rfl cw_Mo_add lk_Law_98 rfl hB.kb wd1716 wd1717 rfl rfl (Nat.le_of_ble_eq_true rfl) ⟨Nat.le_of_ble_eq_true rfl, Nat.le_of_ble_eq_true rfl⟩ (s_Mo_add hB okp hE (fun b1 h2 hB2 => ?_) (fun b1 b2 h2 hB2 => ?_) (fun b1 b2 b3 h2 hB2 => ?_) (fun u' sy' sz' co' qs' qa' qb' qe' b1 b2 b3 b4 b5 b6 b7 b8 b9 b10 b11 h2 hB2 => ?_))
    · rw [b1] at a5; cases qs <;> cases a5
    · exact absurd (ad_wi a1 a2 a3 a4 a6 a7 a8 a9 a10) b2
    · omega
    · have hm2 := MoS.of hB2
      have hk2 : bp_K h2 o = 2 := (hm2.fi.K o).trans hP.2.2.1
      have hl2 : bp_L h2 o = 1 := (hm2.fi.L o).trans hP.2.2.2
      have e1 : u' = u := (nI_eq_iff (by omega) (by omega)).mp (b1.symm.trans a1)
      have e2 : sy' = sy := (nI_eq_iff (by omega) (by omega)).mp (b2.symm.trans a2)
      have e3 : sz' = sz := (nI_eq_iff (by omega) (by omega)).mp (b3.symm.trans a3)
      have e4 : co' = co := (nI_eq_iff (by omega) (by omega)).mp (b4.symm.trans a4)
      have e5 := b5.symm.trans a5
      obtain ⟨e6, e7⟩ := List.append_inj' e5 rfl
      obtain ⟨e8, e9⟩ : (qa', qb', qe') = (qa, qb, qe) ∧ True := ⟨by simpa using e7, trivial⟩
      obtain ⟨rfl, rfl, rfl⟩ : qa' = qa ∧ qb' = qb ∧ qe' = qe := by simpa using e8
      subst e1 e2 e3 e4 e6
      rw [ad_val (okP.last (by rw [← a5]; exact okp) a11 a6 a7 (by omega)) ]
      refine bp_istore (q := 478) 257 rfl rfl (by decide) (bp_up6 rfl) ?_
      refine bp_aload_n (q := 479) 258 rfl rfl rfl rfl ?_
      refine bp_callV (q := 482) (ci := 9) 259 rfl rfl cw_Mo_thrown lk_Law_55 rfl hB2.kb wd1416 wd1417 rfl rfl (Nat.le_of_ble_eq_true rfl) ⟨Nat.le_of_ble_eq_true rfl, Nat.le_of_ble_eq_true rfl⟩ (s_Mo_thrown (ro := false) hB2 ?_)
      refine bp_iload (q := 484) 260 rfl rfl rfl ?_
      refine bp_icmp_eq (q := 487) (tgt := 489) 261 rfl rfl (by decide) (fun z484 => ?_) (fun z484 => ?_)
      · refine bp_iload (q := 491) 264 rfl rfl rfl ?_
        refine bp_if_ne (q := 494) (tgt := 506) 265 rfl rfl (by decide) (fun z => absurd z (by decide)) (fun z491 => ?_)
        refine bp_aload_n (q := 495) 266 rfl rfl rfl rfl ?_
        refine bp_iconst (v := 0) (q := 496) 267 rfl rfl (by decide) ?_
        refine bp_lald (q := 497) 268 rfl rfl hk2 (by rw [hl2]; exact vp_in_nI (n := 0) (by decide) (by decide)) ?_
        rw [show bp_J h2 o ((0 : Int32).toNatClampNeg) = bp_J h1 o 0 from hm2.fi.J o 0, hJ]
        refine bp_iload (q := 499) 269 rfl rfl rfl ?_
        refine bp_i2l (q := 500) 270 rfl rfl ?_
        refine bp_lcmp (q := 501) 271 rfl rfl ?_
        refine bp_if_eq (q := 504) (tgt := 506) 272 rfl rfl (by decide) (fun z501 => ?_) (fun z501 => ?_)
        · refine bp_goto (tgt := 749) 275 rfl (by decide) ?_
          exact hN _ _ _ _ _ _ _ _ _ _ _ _ (hP.end_ hno hm2 hC hxs (okP.last (by rw [← a5]; exact okp) a11 a6 a7 (by omega)) pst_add)
        · exact absurd ((lg_cmp_eq _ _).mpr rfl) z501
      · exact absurd rfl z484
set_option maxRecDepth 100000 in
set_option maxHeartbeats 4000000 in
theorem cs_paragraph (htl : l.stackTraces = false) (hsc : bp_Sc G H0 sc n f) (hn5 : ix + 5 ≤ n) (hnb : n < 1000000) (hS : LST M Z o (C + 1) (S + 6) h aO na T xs L ps me (c + 1) (s + 6)) (hN : ∀ (h : bp_H) (aO na : Nat) (T xs : List Nat) (L : List (Nat × Nat)) (ps : List (Nat × Nat × Nat)) (me : Int32) (c s : Nat) (lo5 lo6 : Option Value), LST M Z o C S h aO na T xs L ps me c s → bp_A l G H0 (14, 520, false, false) M_Law_law h c s 749 [some (.ref sc), some (.ref (Z 43)), some (.ref (M 0)), some (.ref o), some (.int (nI ix)), lo5, lo6] [] Q) : bp_A l G H0 (14, 520, false, false) M_Law_law h (c + 1) (s + 6) 533 [some (.ref sc), some (.ref (Z 43)), some (.ref (M 0)), some (.ref o), some (.int (nI ix)), lo5, lo6] [] Q := by
  have hX0 := hS.1
  obtain ⟨tw, hm⟩ := hS.2.1
  have hko := hS.2.2.1.1
  have hlo := hS.2.2.1.2.1
  have hno := hS.2.2.1.2.2
  have hC := hS.2.2.2.1
  have hxs := hS.2.2.2.2.1
  have okp := hS.2.2.2.2.2.1
  have hE := hS.2.2.2.2.2.2
  refine bp_aload_n (q := 534) 288 rfl rfl rfl rfl ?_
  refine bp_aload_n (q := 535) 289 rfl rfl rfl rfl ?_
  refine bp_iload (q := 537) 290 rfl rfl rfl ?_
  refine bp_iconst (v := 1) (q := 538) 291 rfl rfl (by decide) ?_
  refine bp_iadd (q := 539) 292 rfl rfl ?_
  rw [show nI ix + 1 = nI (ix + 1) from nI_add ix 1]
  refine bp_sld hsc (q := 540) 293 rfl rfl (vp_in_nI (n := ix + 1) (by omega) (by omega)) ?_
  rw [nI_clamp (by omega)]
  refine bp_aload_n (q := 541) 294 rfl rfl rfl rfl ?_
  refine bp_iload (q := 543) 295 rfl rfl rfl ?_
  refine bp_iconst (v := 2) (q := 544) 296 rfl rfl (by decide) ?_
  refine bp_iadd (q := 545) 297 rfl rfl ?_
  rw [show nI ix + 2 = nI (ix + 2) from nI_add ix 2]
  refine bp_sld hsc (q := 546) 298 rfl rfl (vp_in_nI (n := ix + 2) (by omega) (by omega)) ?_
  rw [nI_clamp (by omega)]
  refine bp_aload_n (q := 547) 299 rfl rfl rfl rfl ?_
  refine bp_callSW (q := 550) 300 rfl rfl cx_Law_paragraph wd1245 wd1246 rfl rfl (Nat.le_of_ble_eq_true rfl) ⟨Nat.le_of_ble_eq_true rfl, Nat.le_of_ble_eq_true rfl⟩ (s_Law_paragraph htl hX0 hko hlo hno okp (fun a1 h1 hP => ?_) (fun p a1 a2 a3 h1 hP => ?_) (fun p w a1 a2 a3 a4 h1 hP hJ => ?_))
  · have hm1 := hP.mo hm
    obtain ⟨i, fa, fm, lk, al, ind, sk, dp, lv, fr, en, nf, nn, dg, nu, kd, pn, pe, L1, p1, nt, tb, fd, hB⟩ := hm1
    refine bp_istore (q := 552) 301 rfl rfl (by decide) (bp_up5 rfl) ?_
    refine bp_aload_n (q := 553) 302 rfl rfl rfl rfl ?_
    refine bp_aload_n (q := 554) 303 rfl rfl rfl rfl ?_
    refine bp_iload (q := 556) 304 rfl rfl rfl ?_
    refine bp_iconst (v := 1) (q := 557) 305 rfl rfl (by decide) ?_
    refine bp_iadd (q := 558) 306 rfl rfl ?_
    rw [show nI ix + 1 = nI (ix + 1) from nI_add ix 1]
    refine bp_sld hsc (q := 559) 307 rfl rfl (vp_in_nI (n := ix + 1) (by omega) (by omega)) ?_
    rw [nI_clamp (by omega)]
    refine bp_aload_n (q := 560) 308 rfl rfl rfl rfl ?_
    refine bp_iload (q := 562) 309 rfl rfl rfl ?_
    refine bp_iconst (v := 2) (q := 563) 310 rfl rfl (by decide) ?_
    refine bp_iadd (q := 564) 311 rfl rfl ?_
    rw [show nI ix + 2 = nI (ix + 2) from nI_add ix 2]
    refine bp_sld hsc (q := 565) 312 rfl rfl (vp_in_nI (n := ix + 2) (by omega) (by omega)) ?_
    rw [nI_clamp (by omega)]
    refine bp_callV (q := 568) (ci := 9) 313 rfl rfl cw_Mo_paragraph lk_Law_109 rfl hB.kb wd1732 wd1733 rfl rfl (Nat.le_of_ble_eq_true rfl) ⟨Nat.le_of_ble_eq_true rfl, Nat.le_of_ble_eq_true rfl⟩ (s_Mo_paragraph hB okp (fun b1 h2 hB2 => ?_) (fun p b1 b2 b3 h2 hB2 => ?_) (fun p w b1 b2 b3 b4 h2 hB2 => ?_))
    · have hm2 := MoS.of hB2
      have hk2 : bp_K h2 o = 2 := (hm2.fi.K o).trans hP.2.2.1
      have hl2 : bp_L h2 o = 1 := (hm2.fi.L o).trans hP.2.2.2
      refine bp_istore (q := 570) 314 rfl rfl (by decide) (bp_up6 rfl) ?_
      refine bp_aload_n (q := 571) 315 rfl rfl rfl rfl ?_
      refine bp_callV (q := 574) (ci := 9) 316 rfl rfl cw_Mo_thrown lk_Law_55 rfl hB2.kb wd1416 wd1417 rfl rfl (Nat.le_of_ble_eq_true rfl) ⟨Nat.le_of_ble_eq_true rfl, Nat.le_of_ble_eq_true rfl⟩ (s_Mo_thrown (ro := false) hB2 ?_)
      refine bp_iload (q := 576) 317 rfl rfl rfl ?_
      refine bp_icmp_eq (q := 579) (tgt := 581) 318 rfl rfl (by decide) (fun z576 => ?_) (fun z576 => ?_)
      · refine bp_iload (q := 583) 321 rfl rfl rfl ?_
        refine bp_if_ne (q := 586) (tgt := 598) 322 rfl rfl (by decide) (fun z583 => ?_) (fun z => absurd z (by decide))
        refine bp_goto (tgt := 749) 332 rfl (by decide) ?_
        exact hN _ _ _ _ _ _ _ _ _ _ _ _ (hP.end_ hno hm2 hC hxs okp hE)
      · exact absurd rfl z576
    · exact absurd a1 (in_len okp b1 b2)
    · exact absurd a1 (in_len okp b3 b1)
  · have hm1 := hP.mo hm
    obtain ⟨i, fa, fm, lk, al, ind, sk, dp, lv, fr, en, nf, nn, dg, nu, kd, pn, pe, L1, p1, nt, tb, fd, hB⟩ := hm1
    refine bp_istore (q := 552) 301 rfl rfl (by decide) (bp_up5 rfl) ?_
    refine bp_aload_n (q := 553) 302 rfl rfl rfl rfl ?_
    refine bp_aload_n (q := 554) 303 rfl rfl rfl rfl ?_
    refine bp_iload (q := 556) 304 rfl rfl rfl ?_
    refine bp_iconst (v := 1) (q := 557) 305 rfl rfl (by decide) ?_
    refine bp_iadd (q := 558) 306 rfl rfl ?_
    rw [show nI ix + 1 = nI (ix + 1) from nI_add ix 1]
    refine bp_sld hsc (q := 559) 307 rfl rfl (vp_in_nI (n := ix + 1) (by omega) (by omega)) ?_
    rw [nI_clamp (by omega)]
    refine bp_aload_n (q := 560) 308 rfl rfl rfl rfl ?_
    refine bp_iload (q := 562) 309 rfl rfl rfl ?_
    refine bp_iconst (v := 2) (q := 563) 310 rfl rfl (by decide) ?_
    refine bp_iadd (q := 564) 311 rfl rfl ?_
    rw [show nI ix + 2 = nI (ix + 2) from nI_add ix 2]
    refine bp_sld hsc (q := 565) 312 rfl rfl (vp_in_nI (n := ix + 2) (by omega) (by omega)) ?_
    rw [nI_clamp (by omega)]
    refine bp_callV (q := 568) (ci := 9) 313 rfl rfl cw_Mo_paragraph lk_Law_109 rfl hB.kb wd1732 wd1733 rfl rfl (Nat.le_of_ble_eq_true rfl) ⟨Nat.le_of_ble_eq_true rfl, Nat.le_of_ble_eq_true rfl⟩ (s_Mo_paragraph hB okp (fun b1 h2 hB2 => ?_) (fun p b1 b2 b3 h2 hB2 => ?_) (fun p w b1 b2 b3 b4 h2 hB2 => ?_))
    · exact absurd b1 (in_len okp a1 a2)
    · have hm2 := MoS.of hB2
      have hk2 : bp_K h2 o = 2 := (hm2.fi.K o).trans hP.2.2.1
      have hl2 : bp_L h2 o = 1 := (hm2.fi.L o).trans hP.2.2.2
      refine bp_istore (q := 570) 314 rfl rfl (by decide) (bp_up6 rfl) ?_
      refine bp_aload_n (q := 571) 315 rfl rfl rfl rfl ?_
      refine bp_callV (q := 574) (ci := 9) 316 rfl rfl cw_Mo_thrown lk_Law_55 rfl hB2.kb wd1416 wd1417 rfl rfl (Nat.le_of_ble_eq_true rfl) ⟨Nat.le_of_ble_eq_true rfl, Nat.le_of_ble_eq_true rfl⟩ (s_Mo_thrown (ro := false) hB2 ?_)
      refine bp_iload (q := 576) 317 rfl rfl rfl ?_
      refine bp_icmp_eq (q := 579) (tgt := 581) 318 rfl rfl (by decide) (fun z576 => ?_) (fun z576 => ?_)
      · refine bp_iload (q := 583) 321 rfl rfl rfl ?_
        refine bp_if_ne (q := 586) (tgt := 598) 322 rfl rfl (by decide) (fun z583 => ?_) (fun z => absurd z (by decide))
        refine bp_goto (tgt := 749) 332 rfl (by decide) ?_
        exact hN _ _ _ _ _ _ _ _ _ _ _ _ (hP.end_ hno hm2 hC hxs okp hE)
      · exact absurd rfl z576
    · exact absurd a3 (w4_no b2 b4)
  · have hm1 := hP.mo hm
    obtain ⟨i, fa, fm, lk, al, ind, sk, dp, lv, fr, en, nf, nn, dg, nu, kd, pn, pe, L1, p1, nt, tb, fd, hB⟩ := hm1
    refine bp_istore (q := 552) 301 rfl rfl (by decide) (bp_up5 rfl) ?_
    refine bp_aload_n (q := 553) 302 rfl rfl rfl rfl ?_
    refine bp_aload_n (q := 554) 303 rfl rfl rfl rfl ?_
    refine bp_iload (q := 556) 304 rfl rfl rfl ?_
    refine bp_iconst (v := 1) (q := 557) 305 rfl rfl (by decide) ?_
    refine bp_iadd (q := 558) 306 rfl rfl ?_
    rw [show nI ix + 1 = nI (ix + 1) from nI_add ix 1]
    refine bp_sld hsc (q := 559) 307 rfl rfl (vp_in_nI (n := ix + 1) (by omega) (by omega)) ?_
    rw [nI_clamp (by omega)]
    refine bp_aload_n (q := 560) 308 rfl rfl rfl rfl ?_
    refine bp_iload (q := 562) 309 rfl rfl rfl ?_
    refine bp_iconst (v := 2) (q := 563) 310 rfl rfl (by decide) ?_
    refine bp_iadd (q := 564) 311 rfl rfl ?_
    rw [show nI ix + 2 = nI (ix + 2) from nI_add ix 2]
    refine bp_sld hsc (q := 565) 312 rfl rfl (vp_in_nI (n := ix + 2) (by omega) (by omega)) ?_
    rw [nI_clamp (by omega)]
    refine bp_callV (q := 568) (ci := 9) 313 rfl rfl cw_Mo_paragraph lk_Law_109 rfl hB.kb wd1732 wd1733 rfl rfl (Nat.le_of_ble_eq_true rfl) ⟨Nat.le_of_ble_eq_true rfl, Nat.le_of_ble_eq_true rfl⟩ (s_Mo_paragraph hB okp (fun b1 h2 hB2 => ?_) (fun p b1 b2 b3 h2 hB2 => ?_) (fun p' w' b1 b2 b3 b4 h2 hB2 => ?_))
    · exact absurd b1 (in_len okp a3 a1)
    · exact absurd b3 (w4_no a2 a4)
    · have hm2 := MoS.of hB2
      have hk2 : bp_K h2 o = 2 := (hm2.fi.K o).trans hP.2.2.1
      have hl2 : bp_L h2 o = 1 := (hm2.fi.L o).trans hP.2.2.2
      have hp16 := okp.2.1
      have e1 : p' = p := (nI_eq_iff (by omega) (by omega)).mp (b1.symm.trans a1)
      have e2 : w' = w := (nI_eq_iff (by omega) (by omega)).mp (b2.symm.trans a2)
      subst e1 e2
      rw [mpV_paV okp a3]
      refine bp_istore (q := 570) 314 rfl rfl (by decide) (bp_up6 rfl) ?_
      refine bp_aload_n (q := 571) 315 rfl rfl rfl rfl ?_
      refine bp_callV (q := 574) (ci := 9) 316 rfl rfl cw_Mo_thrown lk_Law_55 rfl hB2.kb wd1416 wd1417 rfl rfl (Nat.le_of_ble_eq_true rfl) ⟨Nat.le_of_ble_eq_true rfl, Nat.le_of_ble_eq_true rfl⟩ (s_Mo_thrown (ro := false) hB2 ?_)
      refine bp_iload (q := 576) 317 rfl rfl rfl ?_
      refine bp_icmp_eq (q := 579) (tgt := 581) 318 rfl rfl (by decide) (fun z576 => ?_) (fun z576 => ?_)
      · refine bp_iload (q := 583) 321 rfl rfl rfl ?_
        refine bp_if_ne (q := 586) (tgt := 598) 322 rfl rfl (by decide) (fun z => absurd z (by decide)) (fun z583 => ?_)
        refine bp_aload_n (q := 587) 323 rfl rfl rfl rfl ?_
        refine bp_iconst (v := 0) (q := 588) 324 rfl rfl (by decide) ?_
        refine bp_lald (q := 589) 325 rfl rfl hk2 (by rw [hl2]; exact vp_in_nI (n := 0) (by decide) (by decide)) ?_
        rw [show bp_J h2 o ((0 : Int32).toNatClampNeg) = bp_J h1 o 0 from hm2.fi.J o 0, hJ]
        refine bp_iload (q := 591) 326 rfl rfl rfl ?_
        refine bp_i2l (q := 592) 327 rfl rfl ?_
        refine bp_lcmp (q := 593) 328 rfl rfl ?_
        refine bp_if_eq (q := 596) (tgt := 598) 329 rfl rfl (by decide) (fun z593 => ?_) (fun z593 => ?_)
        · refine bp_goto (tgt := 749) 332 rfl (by decide) ?_
          exact hN _ _ _ _ _ _ _ _ _ _ _ _ (hP.end_ hno hm2 hC hxs okp hE)
        · exact absurd ((lg_cmp_eq _ _).mpr rfl) z593
      · exact absurd rfl z576
set_option maxRecDepth 100000 in
set_option maxHeartbeats 4000000 in
theorem cs_run (htl : l.stackTraces = false) (hsc : bp_Sc G H0 sc n f) (hn5 : ix + 5 ≤ n) (hnb : n < 1000000) (hS : LST M Z o (C + 1) (S + 6) h aO na T xs L ps me (c + 1) (s + 6)) (hN : ∀ (h : bp_H) (aO na : Nat) (T xs : List Nat) (L : List (Nat × Nat)) (ps : List (Nat × Nat × Nat)) (me : Int32) (c s : Nat) (lo5 lo6 : Option Value), LST M Z o C S h aO na T xs L ps me c s → bp_A l G H0 (14, 520, false, false) M_Law_law h c s 749 [some (.ref sc), some (.ref (Z 43)), some (.ref (M 0)), some (.ref o), some (.int (nI ix)), lo5, lo6] [] Q) : bp_A l G H0 (14, 520, false, false) M_Law_law h (c + 1) (s + 6) 601 [some (.ref sc), some (.ref (Z 43)), some (.ref (M 0)), some (.ref o), some (.int (nI ix)), lo5, lo6] [] Q := by
  have hX0 := hS.1
  obtain ⟨tw, hm⟩ := hS.2.1
  have hko := hS.2.2.1.1
  have hlo := hS.2.2.1.2.1
  have hno := hS.2.2.1.2.2
  have hC := hS.2.2.2.1
  have hxs := hS.2.2.2.2.1
  have okp := hS.2.2.2.2.2.1
  have hE := hS.2.2.2.2.2.2
  refine bp_aload_n (q := 602) 333 rfl rfl rfl rfl ?_
  refine bp_aload_n (q := 603) 334 rfl rfl rfl rfl ?_
  refine bp_iload (q := 605) 335 rfl rfl rfl ?_
  refine bp_iconst (v := 1) (q := 606) 336 rfl rfl (by decide) ?_
  refine bp_iadd (q := 607) 337 rfl rfl ?_
  rw [show nI ix + 1 = nI (ix + 1) from nI_add ix 1]
  refine bp_sld hsc (q := 608) 338 rfl rfl (vp_in_nI (n := ix + 1) (by omega) (by omega)) ?_
  rw [nI_clamp (by omega)]
  refine bp_aload_n (q := 609) 339 rfl rfl rfl rfl ?_
  refine bp_iload (q := 611) 340 rfl rfl rfl ?_
  refine bp_iconst (v := 2) (q := 612) 341 rfl rfl (by decide) ?_
  refine bp_iadd (q := 613) 342 rfl rfl ?_
  rw [show nI ix + 2 = nI (ix + 2) from nI_add ix 2]
  refine bp_sld hsc (q := 614) 343 rfl rfl (vp_in_nI (n := ix + 2) (by omega) (by omega)) ?_
  rw [nI_clamp (by omega)]
  refine bp_aload_n (q := 615) 344 rfl rfl rfl rfl ?_
  refine bp_iload (q := 617) 345 rfl rfl rfl ?_
  refine bp_iconst (v := 3) (q := 618) 346 rfl rfl (by decide) ?_
  refine bp_iadd (q := 619) 347 rfl rfl ?_
  rw [show nI ix + 3 = nI (ix + 3) from nI_add ix 3]
  refine bp_sld hsc (q := 620) 348 rfl rfl (vp_in_nI (n := ix + 3) (by omega) (by omega)) ?_
  rw [nI_clamp (by omega)]
  refine bp_aload_n (q := 621) 349 rfl rfl rfl rfl ?_
  refine bp_callSW (q := 624) 350 rfl rfl cx_Law_run wd1275 wd1276 rfl rfl (Nat.le_of_ble_eq_true rfl) ⟨Nat.le_of_ble_eq_true rfl, Nat.le_of_ble_eq_true rfl⟩ (s_Law_run htl hX0 hko hlo hno okp (fun a1 h1 hP => ?_) (fun p a1 a2 a3 h1 hP => ?_) (fun p q k a1 a2 a3 a4 a5 a6 a7 a8 a9 h1 hP => ?_) (fun p q k w a1 a2 a3 a4 a5 a6 a7 a8 a9 a10 h1 hP hJ => ?_))
  · have hm1 := hP.mo hm
    obtain ⟨i, fa, fm, lk, al, ind, sk, dp, lv, fr, en, nf, nn, dg, nu, kd, pn, pe, L1, p1, nt, tb, fd, hB⟩ := hm1
    refine bp_istore (q := 626) 351 rfl rfl (by decide) (bp_up5 rfl) ?_
    refine bp_aload_n (q := 627) 352 rfl rfl rfl rfl ?_
    refine bp_aload_n (q := 628) 353 rfl rfl rfl rfl ?_
    refine bp_iload (q := 630) 354 rfl rfl rfl ?_
    refine bp_iconst (v := 1) (q := 631) 355 rfl rfl (by decide) ?_
    refine bp_iadd (q := 632) 356 rfl rfl ?_
    rw [show nI ix + 1 = nI (ix + 1) from nI_add ix 1]
    refine bp_sld hsc (q := 633) 357 rfl rfl (vp_in_nI (n := ix + 1) (by omega) (by omega)) ?_
    rw [nI_clamp (by omega)]
    refine bp_aload_n (q := 634) 358 rfl rfl rfl rfl ?_
    refine bp_iload (q := 636) 359 rfl rfl rfl ?_
    refine bp_iconst (v := 2) (q := 637) 360 rfl rfl (by decide) ?_
    refine bp_iadd (q := 638) 361 rfl rfl ?_
    rw [show nI ix + 2 = nI (ix + 2) from nI_add ix 2]
    refine bp_sld hsc (q := 639) 362 rfl rfl (vp_in_nI (n := ix + 2) (by omega) (by omega)) ?_
    rw [nI_clamp (by omega)]
    refine bp_aload_n (q := 640) 363 rfl rfl rfl rfl ?_
    refine bp_iload (q := 642) 364 rfl rfl rfl ?_
    refine bp_iconst (v := 3) (q := 643) 365 rfl rfl (by decide) ?_
    refine bp_iadd (q := 644) 366 rfl rfl ?_
    rw [show nI ix + 3 = nI (ix + 3) from nI_add ix 3]
    refine bp_sld hsc (q := 645) 367 rfl rfl (vp_in_nI (n := ix + 3) (by omega) (by omega)) ?_
    rw [nI_clamp (by omega)]
    refine bp_callV (q := 648) (ci := 9) 368 rfl rfl cw_Mo_run lk_Law_113 rfl hB.kb wd1740 wd1741 rfl rfl (Nat.le_of_ble_eq_true rfl) ⟨Nat.le_of_ble_eq_true rfl, Nat.le_of_ble_eq_true rfl⟩ (s_Mo_run hB okp (fun b1 h2 hB2 => ?_) (fun p b1 b2 b3 h2 hB2 => ?_) (fun p q k b1 b2 b3 b4 b5 b6 b7 b8 b9 h2 hB2 => ?_) (fun p' q' k' w' b1 b2 b3 b4 b5 b6 b7 b8 b9 b10 h2 hB2 => ?_))
    · have hm2 := MoS.of hB2
      have hk2 : bp_K h2 o = 2 := (hm2.fi.K o).trans hP.2.2.1
      have hl2 : bp_L h2 o = 1 := (hm2.fi.L o).trans hP.2.2.2
      refine bp_istore (q := 650) 369 rfl rfl (by decide) (bp_up6 rfl) ?_
      refine bp_aload_n (q := 651) 370 rfl rfl rfl rfl ?_
      refine bp_callV (q := 654) (ci := 9) 371 rfl rfl cw_Mo_thrown lk_Law_55 rfl hB2.kb wd1416 wd1417 rfl rfl (Nat.le_of_ble_eq_true rfl) ⟨Nat.le_of_ble_eq_true rfl, Nat.le_of_ble_eq_true rfl⟩ (s_Mo_thrown (ro := false) hB2 ?_)
      refine bp_iload (q := 656) 372 rfl rfl rfl ?_
      refine bp_icmp_eq (q := 659) (tgt := 661) 373 rfl rfl (by decide) (fun z656 => ?_) (fun z656 => ?_)
      · refine bp_iload (q := 663) 376 rfl rfl rfl ?_
        refine bp_if_ne (q := 666) (tgt := 678) 377 rfl rfl (by decide) (fun z663 => ?_) (fun z => absurd z (by decide))
        refine bp_goto (tgt := 749) 387 rfl (by decide) ?_
        exact hN _ _ _ _ _ _ _ _ _ _ _ _ (hP.end_ hno hm2 hC hxs okp hE)
      · exact absurd rfl z656
    · exact absurd a1 (in_len okp b2 b1)
    · exact absurd a1 (in_len okp b3 b1)
    · exact absurd a1 (in_len okp b4 b1)
  · have hm1 := hP.mo hm
    obtain ⟨i, fa, fm, lk, al, ind, sk, dp, lv, fr, en, nf, nn, dg, nu, kd, pn, pe, L1, p1, nt, tb, fd, hB⟩ := hm1
    refine bp_istore (q := 626) 351 rfl rfl (by decide) (bp_up5 rfl) ?_
    refine bp_aload_n (q := 627) 352 rfl rfl rfl rfl ?_
    refine bp_aload_n (q := 628) 353 rfl rfl rfl rfl ?_
    refine bp_iload (q := 630) 354 rfl rfl rfl ?_
    refine bp_iconst (v := 1) (q := 631) 355 rfl rfl (by decide) ?_
    refine bp_iadd (q := 632) 356 rfl rfl ?_
    rw [show nI ix + 1 = nI (ix + 1) from nI_add ix 1]
    refine bp_sld hsc (q := 633) 357 rfl rfl (vp_in_nI (n := ix + 1) (by omega) (by omega)) ?_
    rw [nI_clamp (by omega)]
    refine bp_aload_n (q := 634) 358 rfl rfl rfl rfl ?_
    refine bp_iload (q := 636) 359 rfl rfl rfl ?_
    refine bp_iconst (v := 2) (q := 637) 360 rfl rfl (by decide) ?_
    refine bp_iadd (q := 638) 361 rfl rfl ?_
    rw [show nI ix + 2 = nI (ix + 2) from nI_add ix 2]
    refine bp_sld hsc (q := 639) 362 rfl rfl (vp_in_nI (n := ix + 2) (by omega) (by omega)) ?_
    rw [nI_clamp (by omega)]
    refine bp_aload_n (q := 640) 363 rfl rfl rfl rfl ?_
    refine bp_iload (q := 642) 364 rfl rfl rfl ?_
    refine bp_iconst (v := 3) (q := 643) 365 rfl rfl (by decide) ?_
    refine bp_iadd (q := 644) 366 rfl rfl ?_
    rw [show nI ix + 3 = nI (ix + 3) from nI_add ix 3]
    refine bp_sld hsc (q := 645) 367 rfl rfl (vp_in_nI (n := ix + 3) (by omega) (by omega)) ?_
    rw [nI_clamp (by omega)]
    refine bp_callV (q := 648) (ci := 9) 368 rfl rfl cw_Mo_run lk_Law_113 rfl hB.kb wd1740 wd1741 rfl rfl (Nat.le_of_ble_eq_true rfl) ⟨Nat.le_of_ble_eq_true rfl, Nat.le_of_ble_eq_true rfl⟩ (s_Mo_run hB okp (fun b1 h2 hB2 => ?_) (fun p' b1 b2 b3 h2 hB2 => ?_) (fun p' q k b1 b2 b3 b4 b5 b6 b7 b8 b9 h2 hB2 => ?_) (fun p' q' k' w' b1 b2 b3 b4 b5 b6 b7 b8 b9 b10 h2 hB2 => ?_))
    · exact absurd b1 (in_len okp a2 a1)
    · have hm2 := MoS.of hB2
      have hk2 : bp_K h2 o = 2 := (hm2.fi.K o).trans hP.2.2.1
      have hl2 : bp_L h2 o = 1 := (hm2.fi.L o).trans hP.2.2.2
      refine bp_istore (q := 650) 369 rfl rfl (by decide) (bp_up6 rfl) ?_
      refine bp_aload_n (q := 651) 370 rfl rfl rfl rfl ?_
      refine bp_callV (q := 654) (ci := 9) 371 rfl rfl cw_Mo_thrown lk_Law_55 rfl hB2.kb wd1416 wd1417 rfl rfl (Nat.le_of_ble_eq_true rfl) ⟨Nat.le_of_ble_eq_true rfl, Nat.le_of_ble_eq_true rfl⟩ (s_Mo_thrown (ro := false) hB2 ?_)
      refine bp_iload (q := 656) 372 rfl rfl rfl ?_
      refine bp_icmp_eq (q := 659) (tgt := 661) 373 rfl rfl (by decide) (fun z656 => ?_) (fun z656 => ?_)
      · refine bp_iload (q := 663) 376 rfl rfl rfl ?_
        refine bp_if_ne (q := 666) (tgt := 678) 377 rfl rfl (by decide) (fun z663 => ?_) (fun z => absurd z (by decide))
        refine bp_goto (tgt := 749) 387 rfl (by decide) ?_
        exact hN _ _ _ _ _ _ _ _ _ _ _ _ (hP.end_ hno hm2 hC hxs okp hE)
      · exact absurd rfl z656
    · exact absurd a3 (rn_no okp a1 a2 b1 b2 b3 b4 b5 b6)
    · exact absurd a3 (rn_no okp a1 a2 b1 b2 b4 b5 b6 b7)
  · have hm1 := hP.mo hm
    obtain ⟨i, fa, fm, lk, al, ind, sk, dp, lv, fr, en, nf, nn, dg, nu, kd, pn, pe, L1, p1, nt, tb, fd, hB⟩ := hm1
    refine bp_istore (q := 626) 351 rfl rfl (by decide) (bp_up5 rfl) ?_
    refine bp_aload_n (q := 627) 352 rfl rfl rfl rfl ?_
    refine bp_aload_n (q := 628) 353 rfl rfl rfl rfl ?_
    refine bp_iload (q := 630) 354 rfl rfl rfl ?_
    refine bp_iconst (v := 1) (q := 631) 355 rfl rfl (by decide) ?_
    refine bp_iadd (q := 632) 356 rfl rfl ?_
    rw [show nI ix + 1 = nI (ix + 1) from nI_add ix 1]
    refine bp_sld hsc (q := 633) 357 rfl rfl (vp_in_nI (n := ix + 1) (by omega) (by omega)) ?_
    rw [nI_clamp (by omega)]
    refine bp_aload_n (q := 634) 358 rfl rfl rfl rfl ?_
    refine bp_iload (q := 636) 359 rfl rfl rfl ?_
    refine bp_iconst (v := 2) (q := 637) 360 rfl rfl (by decide) ?_
    refine bp_iadd (q := 638) 361 rfl rfl ?_
    rw [show nI ix + 2 = nI (ix + 2) from nI_add ix 2]
    refine bp_sld hsc (q := 639) 362 rfl rfl (vp_in_nI (n := ix + 2) (by omega) (by omega)) ?_
    rw [nI_clamp (by omega)]
    refine bp_aload_n (q := 640) 363 rfl rfl rfl rfl ?_
    refine bp_iload (q := 642) 364 rfl rfl rfl ?_
    refine bp_iconst (v := 3) (q := 643) 365 rfl rfl (by decide) ?_
    refine bp_iadd (q := 644) 366 rfl rfl ?_
    rw [show nI ix + 3 = nI (ix + 3) from nI_add ix 3]
    refine bp_sld hsc (q := 645) 367 rfl rfl (vp_in_nI (n := ix + 3) (by omega) (by omega)) ?_
    rw [nI_clamp (by omega)]
    refine bp_callV (q := 648) (ci := 9) 368 rfl rfl cw_Mo_run lk_Law_113 rfl hB.kb wd1740 wd1741 rfl rfl (Nat.le_of_ble_eq_true rfl) ⟨Nat.le_of_ble_eq_true rfl, Nat.le_of_ble_eq_true rfl⟩ (s_Mo_run hB okp (fun b1 h2 hB2 => ?_) (fun p' b1 b2 b3 h2 hB2 => ?_) (fun p' q' k' b1 b2 b3 b4 b5 b6 b7 b8 b9 h2 hB2 => ?_) (fun p' q' k' w' b1 b2 b3 b4 b5 b6 b7 b8 b9 b10 h2 hB2 => ?_))
    · exact absurd b1 (in_len okp a3 a1)
    · exact absurd b3 (rn_no okp b1 b2 a1 a2 a3 a4 a5 a6)
    · have hm2 := MoS.of hB2
      have hk2 : bp_K h2 o = 2 := (hm2.fi.K o).trans hP.2.2.1
      have hl2 : bp_L h2 o = 1 := (hm2.fi.L o).trans hP.2.2.2
      refine bp_istore (q := 650) 369 rfl rfl (by decide) (bp_up6 rfl) ?_
      refine bp_aload_n (q := 651) 370 rfl rfl rfl rfl ?_
      refine bp_callV (q := 654) (ci := 9) 371 rfl rfl cw_Mo_thrown lk_Law_55 rfl hB2.kb wd1416 wd1417 rfl rfl (Nat.le_of_ble_eq_true rfl) ⟨Nat.le_of_ble_eq_true rfl, Nat.le_of_ble_eq_true rfl⟩ (s_Mo_thrown (ro := false) hB2 ?_)
      refine bp_iload (q := 656) 372 rfl rfl rfl ?_
      refine bp_icmp_eq (q := 659) (tgt := 661) 373 rfl rfl (by decide) (fun z656 => ?_) (fun z656 => ?_)
      · refine bp_iload (q := 663) 376 rfl rfl rfl ?_
        refine bp_if_ne (q := 666) (tgt := 678) 377 rfl rfl (by decide) (fun z663 => ?_) (fun z => absurd z (by decide))
        refine bp_goto (tgt := 749) 387 rfl (by decide) ?_
        exact hN _ _ _ _ _ _ _ _ _ _ _ _ (hP.end_ hno hm2 hC hxs okp hE)
      · exact absurd rfl z656
    · exact absurd a9 (w4_no b3 b10)
  · have hm1 := hP.mo hm
    obtain ⟨i, fa, fm, lk, al, ind, sk, dp, lv, fr, en, nf, nn, dg, nu, kd, pn, pe, L1, p1, nt, tb, fd, hB⟩ := hm1
    refine bp_istore (q := 626) 351 rfl rfl (by decide) (bp_up5 rfl) ?_
    refine bp_aload_n (q := 627) 352 rfl rfl rfl rfl ?_
    refine bp_aload_n (q := 628) 353 rfl rfl rfl rfl ?_
    refine bp_iload (q := 630) 354 rfl rfl rfl ?_
    refine bp_iconst (v := 1) (q := 631) 355 rfl rfl (by decide) ?_
    refine bp_iadd (q := 632) 356 rfl rfl ?_
    rw [show nI ix + 1 = nI (ix + 1) from nI_add ix 1]
    refine bp_sld hsc (q := 633) 357 rfl rfl (vp_in_nI (n := ix + 1) (by omega) (by omega)) ?_
    rw [nI_clamp (by omega)]
    refine bp_aload_n (q := 634) 358 rfl rfl rfl rfl ?_
    refine bp_iload (q := 636) 359 rfl rfl rfl ?_
    refine bp_iconst (v := 2) (q := 637) 360 rfl rfl (by decide) ?_
    refine bp_iadd (q := 638) 361 rfl rfl ?_
    rw [show nI ix + 2 = nI (ix + 2) from nI_add ix 2]
    refine bp_sld hsc (q := 639) 362 rfl rfl (vp_in_nI (n := ix + 2) (by omega) (by omega)) ?_
    rw [nI_clamp (by omega)]
    refine bp_aload_n (q := 640) 363 rfl rfl rfl rfl ?_
    refine bp_iload (q := 642) 364 rfl rfl rfl ?_
    refine bp_iconst (v := 3) (q := 643) 365 rfl rfl (by decide) ?_
    refine bp_iadd (q := 644) 366 rfl rfl ?_
    rw [show nI ix + 3 = nI (ix + 3) from nI_add ix 3]
    refine bp_sld hsc (q := 645) 367 rfl rfl (vp_in_nI (n := ix + 3) (by omega) (by omega)) ?_
    rw [nI_clamp (by omega)]
    refine bp_callV (q := 648) (ci := 9) 368 rfl rfl cw_Mo_run lk_Law_113 rfl hB.kb wd1740 wd1741 rfl rfl (Nat.le_of_ble_eq_true rfl) ⟨Nat.le_of_ble_eq_true rfl, Nat.le_of_ble_eq_true rfl⟩ (s_Mo_run hB okp (fun b1 h2 hB2 => ?_) (fun p' b1 b2 b3 h2 hB2 => ?_) (fun p' q' k' b1 b2 b3 b4 b5 b6 b7 b8 b9 h2 hB2 => ?_) (fun p' q' k' w' b1 b2 b3 b4 b5 b6 b7 b8 b9 b10 h2 hB2 => ?_))
    · exact absurd b1 (in_len okp a4 a1)
    · exact absurd b3 (rn_no okp b1 b2 a1 a2 a4 a5 a6 a7)
    · exact absurd b9 (w4_no a3 a10)
    · have hm2 := MoS.of hB2
      have hk2 : bp_K h2 o = 2 := (hm2.fi.K o).trans hP.2.2.1
      have hl2 : bp_L h2 o = 1 := (hm2.fi.L o).trans hP.2.2.2
      have hp16 := okp.2.1
      have h400 := okp.1
      have e1 : p' = p := (nI_eq_iff (by omega) (by omega)).mp (b1.symm.trans a1)
      have e2 : w' = w := (nI_eq_iff (by omega) (by omega)).mp (b3.symm.trans a3)
      have e3 : q' = q := nI_q b5 a5 (b2.symm.trans a2)
      subst e1 e2 e3
      have e4 : k' = k := (nI_eq_iff (by omega) (by omega)).mp (b6.symm.trans a6)
      subst e4
      rw [mrV_ruV okp a4 a8]
      refine bp_istore (q := 650) 369 rfl rfl (by decide) (bp_up6 rfl) ?_
      refine bp_aload_n (q := 651) 370 rfl rfl rfl rfl ?_
      refine bp_callV (q := 654) (ci := 9) 371 rfl rfl cw_Mo_thrown lk_Law_55 rfl hB2.kb wd1416 wd1417 rfl rfl (Nat.le_of_ble_eq_true rfl) ⟨Nat.le_of_ble_eq_true rfl, Nat.le_of_ble_eq_true rfl⟩ (s_Mo_thrown (ro := false) hB2 ?_)
      refine bp_iload (q := 656) 372 rfl rfl rfl ?_
      refine bp_icmp_eq (q := 659) (tgt := 661) 373 rfl rfl (by decide) (fun z656 => ?_) (fun z656 => ?_)
      · refine bp_iload (q := 663) 376 rfl rfl rfl ?_
        refine bp_if_ne (q := 666) (tgt := 678) 377 rfl rfl (by decide) (fun z => absurd z (by decide)) (fun z663 => ?_)
        refine bp_aload_n (q := 667) 378 rfl rfl rfl rfl ?_
        refine bp_iconst (v := 0) (q := 668) 379 rfl rfl (by decide) ?_
        refine bp_lald (q := 669) 380 rfl rfl hk2 (by rw [hl2]; exact vp_in_nI (n := 0) (by decide) (by decide)) ?_
        rw [show bp_J h2 o ((0 : Int32).toNatClampNeg) = bp_J h1 o 0 from hm2.fi.J o 0, hJ]
        refine bp_iload (q := 671) 381 rfl rfl rfl ?_
        refine bp_i2l (q := 672) 382 rfl rfl ?_
        refine bp_lcmp (q := 673) 383 rfl rfl ?_
        refine bp_if_eq (q := 676) (tgt := 678) 384 rfl rfl (by decide) (fun z673 => ?_) (fun z673 => ?_)
        · refine bp_goto (tgt := 749) 387 rfl (by decide) ?_
          exact hN _ _ _ _ _ _ _ _ _ _ _ _ (hP.end_ hno hm2 hC hxs okp hE)
        · exact absurd ((lg_cmp_eq _ _).mpr rfl) z673
      · exact absurd rfl z656
set_option maxRecDepth 100000 in
set_option maxHeartbeats 4000000 in
theorem cs_letter (htl : l.stackTraces = false) (hsc : bp_Sc G H0 sc n f) (hn5 : ix + 5 ≤ n) (hnb : n < 1000000) (hS : LST M Z o (C + 1) (S + 6) h aO na T xs L ps me (c + 1) (s + 6)) (hN : ∀ (h : bp_H) (aO na : Nat) (T xs : List Nat) (L : List (Nat × Nat)) (ps : List (Nat × Nat × Nat)) (me : Int32) (c s : Nat) (lo5 lo6 : Option Value), LST M Z o C S h aO na T xs L ps me c s → bp_A l G H0 (14, 520, false, false) M_Law_law h c s 749 [some (.ref sc), some (.ref (Z 43)), some (.ref (M 0)), some (.ref o), some (.int (nI ix)), lo5, lo6] [] Q) : bp_A l G H0 (14, 520, false, false) M_Law_law h (c + 1) (s + 6) 681 [some (.ref sc), some (.ref (Z 43)), some (.ref (M 0)), some (.ref o), some (.int (nI ix)), lo5, lo6] [] Q := by
  have hX0 := hS.1
  obtain ⟨tw, hm⟩ := hS.2.1
  have hko := hS.2.2.1.1
  have hlo := hS.2.2.1.2.1
  have hno := hS.2.2.1.2.2
  have hC := hS.2.2.2.1
  have hxs := hS.2.2.2.2.1
  have okp := hS.2.2.2.2.2.1
  have hE := hS.2.2.2.2.2.2
  refine bp_aload_n (q := 682) 388 rfl rfl rfl rfl ?_
  refine bp_aload_n (q := 683) 389 rfl rfl rfl rfl ?_
  refine bp_iload (q := 685) 390 rfl rfl rfl ?_
  refine bp_iconst (v := 1) (q := 686) 391 rfl rfl (by decide) ?_
  refine bp_iadd (q := 687) 392 rfl rfl ?_
  rw [show nI ix + 1 = nI (ix + 1) from nI_add ix 1]
  refine bp_sld hsc (q := 688) 393 rfl rfl (vp_in_nI (n := ix + 1) (by omega) (by omega)) ?_
  rw [nI_clamp (by omega)]
  refine bp_aload_n (q := 689) 394 rfl rfl rfl rfl ?_
  refine bp_iload (q := 691) 395 rfl rfl rfl ?_
  refine bp_iconst (v := 2) (q := 692) 396 rfl rfl (by decide) ?_
  refine bp_iadd (q := 693) 397 rfl rfl ?_
  rw [show nI ix + 2 = nI (ix + 2) from nI_add ix 2]
  refine bp_sld hsc (q := 694) 398 rfl rfl (vp_in_nI (n := ix + 2) (by omega) (by omega)) ?_
  rw [nI_clamp (by omega)]
  refine bp_aload_n (q := 695) 399 rfl rfl rfl rfl ?_
  refine bp_callSW (q := 698) 400 rfl rfl cx_Law_letter wd1296 wd1297 rfl rfl (Nat.le_of_ble_eq_true rfl) ⟨Nat.le_of_ble_eq_true rfl, Nat.le_of_ble_eq_true rfl⟩ (s_Law_letter htl hX0 hko hlo hno okp (fun a1 h1 hP => ?_) (fun p a1 a2 a3 h1 hP => ?_) (fun p a a1 a2 a3 a4 h1 hP hJ => ?_))
  · have hm1 := hP.mo hm
    obtain ⟨i, fa, fm, lk, al, ind, sk, dp, lv, fr, en, nf, nn, dg, nu, kd, pn, pe, L1, p1, nt, tb, fd, hB⟩ := hm1
    refine bp_istore (q := 700) 401 rfl rfl (by decide) (bp_up5 rfl) ?_
    refine bp_aload_n (q := 701) 402 rfl rfl rfl rfl ?_
    refine bp_aload_n (q := 702) 403 rfl rfl rfl rfl ?_
    refine bp_iload (q := 704) 404 rfl rfl rfl ?_
    refine bp_iconst (v := 1) (q := 705) 405 rfl rfl (by decide) ?_
    refine bp_iadd (q := 706) 406 rfl rfl ?_
    rw [show nI ix + 1 = nI (ix + 1) from nI_add ix 1]
    refine bp_sld hsc (q := 707) 407 rfl rfl (vp_in_nI (n := ix + 1) (by omega) (by omega)) ?_
    rw [nI_clamp (by omega)]
    refine bp_aload_n (q := 708) 408 rfl rfl rfl rfl ?_
    refine bp_iload (q := 710) 409 rfl rfl rfl ?_
    refine bp_iconst (v := 2) (q := 711) 410 rfl rfl (by decide) ?_
    refine bp_iadd (q := 712) 411 rfl rfl ?_
    rw [show nI ix + 2 = nI (ix + 2) from nI_add ix 2]
    refine bp_sld hsc (q := 713) 412 rfl rfl (vp_in_nI (n := ix + 2) (by omega) (by omega)) ?_
    rw [nI_clamp (by omega)]
    refine bp_callV (q := 716) (ci := 9) 413 rfl rfl cw_Mo_letter lk_Law_116 rfl hB.kb wd1748 wd1749 rfl rfl (Nat.le_of_ble_eq_true rfl) ⟨Nat.le_of_ble_eq_true rfl, Nat.le_of_ble_eq_true rfl⟩ (s_Mo_letter hB okp (fun b1 h2 hB2 => ?_) (fun p b1 b2 b3 h2 hB2 => ?_) (fun p a b1 b2 b3 b4 h2 hB2 => ?_))
    · have hm2 := MoS.of hB2
      have hk2 : bp_K h2 o = 2 := (hm2.fi.K o).trans hP.2.2.1
      have hl2 : bp_L h2 o = 1 := (hm2.fi.L o).trans hP.2.2.2
      refine bp_istore (q := 718) 414 rfl rfl (by decide) (bp_up6 rfl) ?_
      refine bp_aload_n (q := 719) 415 rfl rfl rfl rfl ?_
      refine bp_callV (q := 722) (ci := 9) 416 rfl rfl cw_Mo_thrown lk_Law_55 rfl hB2.kb wd1416 wd1417 rfl rfl (Nat.le_of_ble_eq_true rfl) ⟨Nat.le_of_ble_eq_true rfl, Nat.le_of_ble_eq_true rfl⟩ (s_Mo_thrown (ro := false) hB2 ?_)
      refine bp_iload (q := 724) 417 rfl rfl rfl ?_
      refine bp_icmp_eq (q := 727) (tgt := 729) 418 rfl rfl (by decide) (fun z724 => ?_) (fun z724 => ?_)
      · refine bp_iload (q := 731) 421 rfl rfl rfl ?_
        refine bp_if_ne (q := 734) (tgt := 746) 422 rfl rfl (by decide) (fun z731 => ?_) (fun z => absurd z (by decide))
        refine bp_goto (tgt := 749) 432 rfl (by decide) ?_
        exact hN _ _ _ _ _ _ _ _ _ _ _ _ (hP.end_ hno hm2 hC hxs okp hE)
      · exact absurd rfl z724
    · exact absurd a1 (in_len okp b2 b1)
    · exact absurd a1 (in_len okp b3 b1)
  · have hm1 := hP.mo hm
    obtain ⟨i, fa, fm, lk, al, ind, sk, dp, lv, fr, en, nf, nn, dg, nu, kd, pn, pe, L1, p1, nt, tb, fd, hB⟩ := hm1
    refine bp_istore (q := 700) 401 rfl rfl (by decide) (bp_up5 rfl) ?_
    refine bp_aload_n (q := 701) 402 rfl rfl rfl rfl ?_
    refine bp_aload_n (q := 702) 403 rfl rfl rfl rfl ?_
    refine bp_iload (q := 704) 404 rfl rfl rfl ?_
    refine bp_iconst (v := 1) (q := 705) 405 rfl rfl (by decide) ?_
    refine bp_iadd (q := 706) 406 rfl rfl ?_
    rw [show nI ix + 1 = nI (ix + 1) from nI_add ix 1]
    refine bp_sld hsc (q := 707) 407 rfl rfl (vp_in_nI (n := ix + 1) (by omega) (by omega)) ?_
    rw [nI_clamp (by omega)]
    refine bp_aload_n (q := 708) 408 rfl rfl rfl rfl ?_
    refine bp_iload (q := 710) 409 rfl rfl rfl ?_
    refine bp_iconst (v := 2) (q := 711) 410 rfl rfl (by decide) ?_
    refine bp_iadd (q := 712) 411 rfl rfl ?_
    rw [show nI ix + 2 = nI (ix + 2) from nI_add ix 2]
    refine bp_sld hsc (q := 713) 412 rfl rfl (vp_in_nI (n := ix + 2) (by omega) (by omega)) ?_
    rw [nI_clamp (by omega)]
    refine bp_callV (q := 716) (ci := 9) 413 rfl rfl cw_Mo_letter lk_Law_116 rfl hB.kb wd1748 wd1749 rfl rfl (Nat.le_of_ble_eq_true rfl) ⟨Nat.le_of_ble_eq_true rfl, Nat.le_of_ble_eq_true rfl⟩ (s_Mo_letter hB okp (fun b1 h2 hB2 => ?_) (fun p' b1 b2 b3 h2 hB2 => ?_) (fun p' a b1 b2 b3 b4 h2 hB2 => ?_))
    · exact absurd b1 (in_len okp a2 a1)
    · have hm2 := MoS.of hB2
      have hk2 : bp_K h2 o = 2 := (hm2.fi.K o).trans hP.2.2.1
      have hl2 : bp_L h2 o = 1 := (hm2.fi.L o).trans hP.2.2.2
      refine bp_istore (q := 718) 414 rfl rfl (by decide) (bp_up6 rfl) ?_
      refine bp_aload_n (q := 719) 415 rfl rfl rfl rfl ?_
      refine bp_callV (q := 722) (ci := 9) 416 rfl rfl cw_Mo_thrown lk_Law_55 rfl hB2.kb wd1416 wd1417 rfl rfl (Nat.le_of_ble_eq_true rfl) ⟨Nat.le_of_ble_eq_true rfl, Nat.le_of_ble_eq_true rfl⟩ (s_Mo_thrown (ro := false) hB2 ?_)
      refine bp_iload (q := 724) 417 rfl rfl rfl ?_
      refine bp_icmp_eq (q := 727) (tgt := 729) 418 rfl rfl (by decide) (fun z724 => ?_) (fun z724 => ?_)
      · refine bp_iload (q := 731) 421 rfl rfl rfl ?_
        refine bp_if_ne (q := 734) (tgt := 746) 422 rfl rfl (by decide) (fun z731 => ?_) (fun z => absurd z (by decide))
        refine bp_goto (tgt := 749) 432 rfl (by decide) ?_
        exact hN _ _ _ _ _ _ _ _ _ _ _ _ (hP.end_ hno hm2 hC hxs okp hE)
      · exact absurd rfl z724
    · exact absurd a3 (lt_no okp a1 a2 b1 b2 b3 b4)
  · have hm1 := hP.mo hm
    obtain ⟨i, fa, fm, lk, al, ind, sk, dp, lv, fr, en, nf, nn, dg, nu, kd, pn, pe, L1, p1, nt, tb, fd, hB⟩ := hm1
    refine bp_istore (q := 700) 401 rfl rfl (by decide) (bp_up5 rfl) ?_
    refine bp_aload_n (q := 701) 402 rfl rfl rfl rfl ?_
    refine bp_aload_n (q := 702) 403 rfl rfl rfl rfl ?_
    refine bp_iload (q := 704) 404 rfl rfl rfl ?_
    refine bp_iconst (v := 1) (q := 705) 405 rfl rfl (by decide) ?_
    refine bp_iadd (q := 706) 406 rfl rfl ?_
    rw [show nI ix + 1 = nI (ix + 1) from nI_add ix 1]
    refine bp_sld hsc (q := 707) 407 rfl rfl (vp_in_nI (n := ix + 1) (by omega) (by omega)) ?_
    rw [nI_clamp (by omega)]
    refine bp_aload_n (q := 708) 408 rfl rfl rfl rfl ?_
    refine bp_iload (q := 710) 409 rfl rfl rfl ?_
    refine bp_iconst (v := 2) (q := 711) 410 rfl rfl (by decide) ?_
    refine bp_iadd (q := 712) 411 rfl rfl ?_
    rw [show nI ix + 2 = nI (ix + 2) from nI_add ix 2]
    refine bp_sld hsc (q := 713) 412 rfl rfl (vp_in_nI (n := ix + 2) (by omega) (by omega)) ?_
    rw [nI_clamp (by omega)]
    refine bp_callV (q := 716) (ci := 9) 413 rfl rfl cw_Mo_letter lk_Law_116 rfl hB.kb wd1748 wd1749 rfl rfl (Nat.le_of_ble_eq_true rfl) ⟨Nat.le_of_ble_eq_true rfl, Nat.le_of_ble_eq_true rfl⟩ (s_Mo_letter hB okp (fun b1 h2 hB2 => ?_) (fun p' b1 b2 b3 h2 hB2 => ?_) (fun p' a' b1 b2 b3 b4 h2 hB2 => ?_))
    · exact absurd b1 (in_len okp a3 a1)
    · exact absurd b3 (lt_no okp b1 b2 a1 a2 a3 a4)
    · have hm2 := MoS.of hB2
      have hk2 : bp_K h2 o = 2 := (hm2.fi.K o).trans hP.2.2.1
      have hl2 : bp_L h2 o = 1 := (hm2.fi.L o).trans hP.2.2.2
      have hp16 := okp.2.1
      have h400 := okp.1
      have e1 : p' = p := (nI_eq_iff (by omega) (by omega)).mp (b1.symm.trans a1)
      subst e1
      have he9 := (okp.2.2.1 p' a3).2.2.1
      have e2 : a' = a := (nI_eq_iff (by omega) (by omega)).mp (b2.symm.trans a2)
      subst e2
      refine bp_istore (q := 718) 414 rfl rfl (by decide) (bp_up6 rfl) ?_
      refine bp_aload_n (q := 719) 415 rfl rfl rfl rfl ?_
      refine bp_callV (q := 722) (ci := 9) 416 rfl rfl cw_Mo_thrown lk_Law_55 rfl hB2.kb wd1416 wd1417 rfl rfl (Nat.le_of_ble_eq_true rfl) ⟨Nat.le_of_ble_eq_true rfl, Nat.le_of_ble_eq_true rfl⟩ (s_Mo_thrown (ro := false) hB2 ?_)
      refine bp_iload (q := 724) 417 rfl rfl rfl ?_
      refine bp_icmp_eq (q := 727) (tgt := 729) 418 rfl rfl (by decide) (fun z724 => ?_) (fun z724 => ?_)
      · refine bp_iload (q := 731) 421 rfl rfl rfl ?_
        refine bp_if_ne (q := 734) (tgt := 746) 422 rfl rfl (by decide) (fun z => absurd z (by decide)) (fun z731 => ?_)
        refine bp_aload_n (q := 735) 423 rfl rfl rfl rfl ?_
        refine bp_iconst (v := 0) (q := 736) 424 rfl rfl (by decide) ?_
        refine bp_lald (q := 737) 425 rfl rfl hk2 (by rw [hl2]; exact vp_in_nI (n := 0) (by decide) (by decide)) ?_
        rw [show bp_J h2 o ((0 : Int32).toNatClampNeg) = bp_J h1 o 0 from hm2.fi.J o 0, hJ]
        refine bp_iload (q := 739) 426 rfl rfl rfl ?_
        refine bp_i2l (q := 740) 427 rfl rfl ?_
        refine bp_lcmp (q := 741) 428 rfl rfl ?_
        refine bp_if_eq (q := 744) (tgt := 746) 429 rfl rfl (by decide) (fun z741 => ?_) (fun z741 => ?_)
        · refine bp_goto (tgt := 749) 432 rfl (by decide) ?_
          exact hN _ _ _ _ _ _ _ _ _ _ _ _ (hP.end_ hno hm2 hC hxs okp hE)
        · exact absurd ((lg_cmp_eq _ _).mpr rfl) z741
      · exact absurd rfl z724
end LAW3
