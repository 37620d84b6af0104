/-! the braced reading keeps its bounds, and goes on -/
theorem nil_or_snoc {α : Type} (l : List α) : l = [] ∨ ∃ a b, l = a ++ [b] := by
  rcases List.eq_nil_or_concat l with h | ⟨a, b, h⟩
  · exact Or.inl h
  · exact Or.inr ⟨a, b, by rw [h, List.concat_eq_append]⟩
theorem p_sn {ps : List (Nat × Nat × Nat)} {q : Nat × Nat × Nat} {j : Nat} (h : j < ps.length) : (ps ++ [q]).getD j (0, 0, 0) = ps.getD j (0, 0, 0) := by
  rw [List.getD_eq_getElem?_getD, List.getD_eq_getElem?_getD, List.getElem?_append_left h]
theorem p_sn' {ps : List (Nat × Nat × Nat)} {q : Nat × Nat × Nat} : (ps ++ [q]).getD ps.length (0, 0, 0) = q := by
  rw [List.getD_eq_getElem?_getD, List.getElem?_append_right (Nat.le_refl _), Nat.sub_self]; rfl
theorem n_sn {xs : List Nat} {q j : Nat} (h : j < xs.length) : (xs ++ [q]).getD j 0 = xs.getD j 0 := by
  rw [List.getD_eq_getElem?_getD, List.getD_eq_getElem?_getD, List.getElem?_append_left h]
theorem n_sn' {xs : List Nat} {q : Nat} : (xs ++ [q]).getD xs.length 0 = q := by
  rw [List.getD_eq_getElem?_getD, List.getElem?_append_right (Nat.le_refl _), Nat.sub_self]; rfl
theorem cdL_sn {L : List (Nat × Nat)} {x y : Nat} : cdL (L ++ [(x, y)]) = cdL L ++ [x] := List.map_append
theorem lkL_sn {L : List (Nat × Nat)} {x y : Nat} : lkL (L ++ [(x, y)]) = lkL L ++ [y] := List.map_append
theorem cdL_len {L : List (Nat × Nat)} : (cdL L).length = L.length := List.length_map ..
theorem lkL_len {L : List (Nat × Nat)} : (lkL L).length = L.length := List.length_map ..
theorem okP.put {L : List (Nat × Nat)} {ps : List (Nat × Nat × Nat)} {x y : Nat} (h : okP L ps) (hl : L.length < 400) (h1 : 32 ≤ x) (h2 : x < 256) (h3 : y < 6400) : okP (L ++ [(x, y)]) ps := by
  refine ⟨by rw [List.length_append]; exact hl, h.2.1, fun j hj => ?_, fun k hk => ?_⟩
  · obtain ⟨a, b, c, d⟩ := h.2.2.1 j hj
    exact ⟨a, b, by rw [List.length_append]; omega, d⟩
  · rw [List.length_append] at hk
    rw [cdL_sn, lkL_sn]
    by_cases e : k < L.length
    · rw [n_sn (by rw [cdL_len]; exact e), n_sn (by rw [lkL_len]; exact e)]
      exact h.2.2.2 k e
    · have e2 : k = L.length := by simp at hk; omega
      subst e2
      have a := n_sn' (xs := cdL L) (q := x)
      have b := n_sn' (xs := lkL L) (q := y)
      rw [cdL_len] at a
      rw [lkL_len] at b
      rw [a, b]
      exact ⟨⟨h1, h2⟩, h3⟩
theorem pst_sn {ps : List (Nat × Nat × Nat)} {q : Nat × Nat × Nat} {j : Nat} (h : j ≤ ps.length) : pst (ps ++ [q]) j = pst ps j := by
  unfold pst p_e
  split
  · rfl
  · rw [p_sn (by omega)]
theorem pst_le {L : List (Nat × Nat)} {ps : List (Nat × Nat × Nat)} (h : okP L ps) {j : Nat} (hj : j ≤ ps.length) : pst ps j ≤ L.length := by
  unfold pst
  split
  · omega
  · exact (h.2.2.1 (j - 1) (by omega)).2.2.1
theorem okP.gat {L : List (Nat × Nat)} {ps : List (Nat × Nat × Nat)} {x y : Nat} (h : okP L ps) (hl : ps.length < 16) (h1 : x < 3) (h2 : y < 10) : okP L (ps ++ [(x, y, L.length)]) := by
  refine ⟨h.1, by rw [List.length_append]; exact hl, fun j hj => ?_, h.2.2.2⟩
  rw [List.length_append] at hj
  by_cases e : j < ps.length
  · rw [pst_sn (by omega)]
    unfold p_a p_i p_e
    rw [p_sn e]
    exact h.2.2.1 j e
  · have e2 : j = ps.length := by simp at hj; omega
    subst e2
    rw [pst_sn (Nat.le_refl _)]
    unfold p_a p_i p_e
    rw [p_sn']
    exact ⟨h1, h2, Nat.le_refl _, pst_le h (Nat.le_refl _)⟩
theorem fz4 : (-4 : Int32) ≠ 0 := by decide
theorem fz5 : (-5 : Int32) ≠ 0 := by decide
theorem fz6 : (-6 : Int32) ≠ 0 := by decide
theorem fz7 : (-7 : Int32) ≠ 0 := by decide
theorem fz8 : (-8 : Int32) ≠ 0 := by decide
theorem fz9 : (-9 : Int32) ≠ 0 := by decide
theorem fz10 : (-10 : Int32) ≠ 0 := by decide
section BROK
variable {T : List Nat} {i j lv lv' th k : Nat} {fa me : Int32} {fr it it' en b : Bool} {v v' : Nat → Nat} {nt nt' : List (Nat → Nat)} {tb tb' nm nm' : List Nat} {L L' : List (Nat × Nat)} {ps ps' : List (Nat × Nat × Nat)}
theorem okX.goto (h : okX T i lv it v nt tb nm L ps) (h1 : i ≤ j) (h2 : j ≤ T.length + 1) : okX T j lv it v nt tb nm L ps := ⟨h2, h.2.1, h.2.2.1, h.2.2.2.1, h.2.2.2.2.1, h.2.2.2.2.2.1, ⟨fun z => Nat.le_trans (h.2.2.2.2.2.2.1.1 z) h1, h.2.2.2.2.2.2.1.2⟩, ⟨by have := h.2.2.2.2.2.2.2.1.1; omega, h.2.2.2.2.2.2.2.1.2⟩, h.2.2.2.2.2.2.2.2⟩
theorem okX.sLv (h : okX T i lv it v nt tb nm L ps) (h1 : lv' ≤ 9) : okX T i lv' it v nt tb nm L ps := ⟨h.1, h1, h.2.2⟩
theorem okX.sV (h : okX T i lv it v nt tb nm L ps) (h1 : okV v') : okX T i lv it v' nt tb nm L ps := ⟨h.1, h.2.1, h1, h.2.2.2⟩
theorem okX.sNt (h : okX T i lv it v nt tb nm L ps) (h1 : ∀ u ∈ nt', okV u) (h2 : nt'.length ≤ 12) : okX T i lv it v nt' tb nm L ps := ⟨h.1, h.2.1, h.2.2.1, h1, h2, h.2.2.2.2.2⟩
theorem okX.sTb (h : okX T i lv it v nt tb nm L ps) (h1 : tb'.length ≤ 8 ∧ (∀ x ∈ tb', x < 8) ∧ (it' = false → tb' ≠ [])) (h2 : (it' = true → nm'.length ≤ i) ∧ nm'.length ≤ 400 ∧ ∀ x ∈ nm', x < 128) : okX T i lv it' v nt tb' nm' L ps := ⟨h.1, h.2.1, h.2.2.1, h.2.2.2.1, h.2.2.2.2.1, h1, h2, h.2.2.2.2.2.2.2⟩
theorem okX.pg (h : okX T i lv it v nt tb nm L ps) (h1 : L'.length ≤ i ∧ L'.length ≤ T.length) (h2 : okP L' ps') : okX T i lv it v nt tb nm L' ps' := ⟨h.1, h.2.1, h.2.2.1, h.2.2.2.1, h.2.2.2.2.1, h.2.2.2.2.2.1, h.2.2.2.2.2.2.1, h1, h2⟩
/-- bounds, and the place is behind j or there is a fault -/
def okN (T : List Nat) (j : Nat) : BS → Prop := fun σ => okB T σ ∧ (j < σ.1 ∨ σ.2.1 ≠ 0)
theorem okN_open (h : okX T i lv it v nt tb nm L ps) (hi : i < T.length) : okN T i (bOpen th (i, fa, me, lv, fr, it, en, v, nt, tb, nm, L, ps)) := by
  show okN T i (if 12 ≤ nt.length then _ else _)
  split
  · exact ⟨h.sLv (Nat.zero_le _), Or.inr (by first | exact fz7 | exact fz5 | exact fz4 | exact fz6 | exact fz8)⟩
  · refine ⟨((h.sLv (Nat.zero_le _)).sNt (fun u hu => ?_) (by rw [List.length_append]; simp; omega)).goto (Nat.le_succ i) (by omega), Or.inl (Nat.lt_succ_self i)⟩
    rcases List.mem_append.mp hu with z | z
    · exact h.2.2.2.1 u z
    · rw [List.mem_singleton] at z; rw [z]; exact h.2.2.1
theorem getLastD_ok (hv : okV v) (h : ∀ u ∈ nt, okV u) : okV (nt.getLastD v) := by
  rcases nil_or_snoc nt with rfl | ⟨l, x, rfl⟩
  · exact hv
  · have e : (l ++ [x]).getLastD v = x := by simp
    have : x ∈ l ++ [x] := List.mem_append_right _ (List.mem_singleton.mpr rfl)
    rw [e]; exact h x this
theorem okN_close (h : okX T i lv it v nt tb nm L ps) (hi : i < T.length) : okN T i (bClose (i, fa, me, lv, fr, it, en, v, nt, tb, nm, L, ps)) :=
  ⟨(((h.sLv (Nat.zero_le _)).sV (getLastD_ok h.2.2.1 h.2.2.2.1)).sNt (fun u hu => h.2.2.2.1 u (List.dropLast_subset _ hu)) (by rw [List.length_dropLast]; have := h.2.2.2.2.1; omega)).goto (Nat.le_succ i) (by omega), Or.inl (Nat.lt_succ_self i)⟩
theorem okN_letter {x len : Nat} (hT : okT T) (h : okX T i lv it v nt tb nm L ps) (hi : i < T.length) (h1 : 1 ≤ len) (h2 : i + len ≤ T.length + 1) (hx : x < 256) : okN T i (bLetter th x len (i, fa, me, lv, fr, it, en, v, nt, tb, nm, L, ps)) := by
  show okN T i (if lv ≠ 0 then _ else if x < 32 then _ else _)
  have hl := h.2.1
  have h := h.sLv (lv' := lv - 1) (by omega)
  split
  · exact ⟨h.goto (by omega) h2, Or.inl (by show i < i + len; omega)⟩
  · split
    · exact ⟨h.goto (by omega) h2, Or.inl (by show i < i + len; omega)⟩
    · rename_i z
      have hL := h.2.2.2.2.2.2.2.1
      have hT1 := hT.1
      exact ⟨(h.goto (Nat.le_succ i) (by omega)).pg (by rw [List.length_append]; simp; omega) (h.2.2.2.2.2.2.2.2.put (by omega) (by omega) hx (lkV_lt h.2.2.1)) |>.goto (by omega) h2, Or.inl (by show i < i + len; omega)⟩
theorem okN_star (h : okX T i lv it v nt tb nm L ps) (h2 : i + 1 < T.length) : okN T i (bStar T b (i, fa, me, lv, fr, it, en, v, nt, tb, nm, L, ps)) := by
  show okN T i (if lv ≠ 0 then _ else if b = true then _ else _)
  have hl := h.2.1
  have h := h.sLv (lv' := lv - 1) (by omega)
  split
  · exact ⟨h.goto (by omega) (by omega), Or.inl (by show i < i + 2; omega)⟩
  · split
    · have := pgE_in T (T.length - (i + 2)) 0 (i + 2)
      exact ⟨h.goto (by omega) (this.2 (by omega)), Or.inl (by show i < pgE T _ _ _; omega)⟩
    · exact ⟨h.goto (by omega) (by omega), Or.inl (by show i < i + 2; omega)⟩
theorem stS_lt : ∀ m, m < 8 → ∀ b, b < 5 → (b = 1 ∨ b = 2 ∨ b = 4) → ∀ o : Bool, stS m b o < 8 := by decide +kernel
theorem wi_cl {n : Int32} {x y : Nat} (hy : y < 1000000) (hx : x ≤ y) (h : wi n (nI x) (nI y) = true) : ∃ k, x ≤ k ∧ k ≤ y ∧ n = nI k ∧ n.toNatClampNeg = k := by
  unfold wi at h
  rw [Bool.and_eq_true, decide_eq_true_eq, decide_eq_true_eq] at h
  have h0 : ¬ n < 0 := fun z => by
    have a := Int32.le_iff_toInt_le.mp h.1
    have c := Int32.lt_iff_toInt_lt.mp z
    rw [nI_toInt (by omega)] at a
    have e0 : (0 : Int32).toInt = 0 := rfl
    omega
  obtain ⟨k, hk, rfl⟩ := nI_of h0
  have a := (nI_leI (by omega) (by omega)).mp h.1
  have c := (nI_leI (by omega) (by omega)).mp h.2
  exact ⟨k, a, c, rfl, nI_clamp hk⟩
theorem u1_same {α : Type} {f : Nat → α} {a : Nat} {x : α} : bp_u1 f a x a = x := if_pos rfl
theorem u1_ne {α : Type} {f : Nat → α} {a k : Nat} {x : α} (h : k ≠ a) : bp_u1 f a x k = f k := if_neg h
theorem okV_u0 (h : okV v) (hx : k < 8) : okV (bp_u1 v 0 k) := ⟨hx, h.2⟩
theorem okV_u1 (h : okV v) (hx : 1 ≤ k ∧ k < 100) : okV (bp_u1 v 1 k) := ⟨h.1, hx.1, hx.2, h.2.2.2⟩
theorem okV_u2 (h : okV v) (hx : k < 8) : okV (bp_u1 v 2 k) := ⟨h.1, h.2.1, h.2.2.1, hx, h.2.2.2.2⟩
theorem okV_u3 (h : okV v) (hx : k < 3) : okV (bp_u1 v 3 k) := ⟨h.1, h.2.1, h.2.2.1, h.2.2.2.1, hx, h.2.2.2.2.2⟩
theorem okV_u4 (h : okV v) (hx : k < 10) : okV (bp_u1 v 4 k) := ⟨h.1, h.2.1, h.2.2.1, h.2.2.2.1, h.2.2.2.2.1, hx, h.2.2.2.2.2.2⟩
theorem okV_u5 (h : okV v) (hx : k < 10) : okV (bp_u1 v 5 k) := ⟨h.1, h.2.1, h.2.2.1, h.2.2.2.1, h.2.2.2.2.1, h.2.2.2.2.2.1, hx⟩
theorem getD_lt {l : List Nat} {q : Nat} (h : ∀ x ∈ l, x < q) (hq : 0 < q) (k : Nat) : l.getD k 0 < q := by
  rw [List.getD_eq_getElem?_getD]
  cases e : l[k]? with
  | none => exact hq
  | some y => exact h y (List.mem_of_getElem? e)
/-- what nfit says of the number -/
theorem nfit_d {w d : Nat} {n : Int32} (h : nfit tb w n d = true) (hw : w ≠ 0 ∧ w ≠ 15) : d ≤ 5 := by
  unfold nfit at h
  rw [if_neg (fun z => z.elim hw.1 hw.2)] at h
  by_cases e : 5 < d
  · rw [if_pos e] at h; cases h
  · omega
theorem nfit_n {w d : Nat} {n : Int32} (h : nfit tb w n d = true) (hw : w ≠ 0 ∧ w ≠ 15) (hd : d ≠ 0) : (if w = 4 then wi n 1 99 else if w = 5 then decide (¬ (n < 0 ∨ nI tb.length ≤ n)) else if w = 10 then wi n 0 9 else if w = 13 then wi n 0 9 else if w = 14 then wi n 32 255 else true) = true := by
  have hd5 := nfit_d h hw
  unfold nfit at h
  rw [if_neg (fun z => z.elim hw.1 hw.2), if_neg (by omega), if_neg hd] at h
  exact h
theorem nfit_0 {w d : Nat} {n : Int32} (h : nfit tb w n d = true) (hw : w = 14) : d ≠ 0 := fun z => by
  subst hw z
  unfold nfit at h
  rw [if_neg (by decide), if_neg (by decide), if_pos rfl] at h
  exact absurd h (by decide)
theorem okV_W {w d : Nat} {n : Int32} (hv : okV v) (htb : ∀ x ∈ tb, x < 8) (hf : nfit tb w n d = true) : okV (vW tb v w n d) := by
  unfold vW
  by_cases e : w = 1
  · rw [if_pos e]; exact okV_u0 hv (stS_lt _ hv.1 1 (by decide) (Or.inl rfl) _)
  rw [if_neg e]
  clear e
  by_cases e : w = 2
  · rw [if_pos e]; exact okV_u0 hv (stS_lt _ hv.1 2 (by decide) (Or.inr (Or.inl rfl)) _)
  rw [if_neg e]
  clear e
  by_cases e : w = 3
  · rw [if_pos e]; exact okV_u0 hv (stS_lt _ hv.1 4 (by decide) (Or.inr (Or.inr rfl)) _)
  rw [if_neg e]
  clear e
  by_cases e : w = 4
  · rw [if_pos e]
    subst e
    refine okV_u1 hv ?_
    unfold nuO
    split
    · decide
    · rename_i hd
      have := nfit_n hf ⟨by decide, by decide⟩ hd
      rw [if_pos rfl] at this
      obtain ⟨k, h1, h2, -, h4⟩ := wi_cl (x := 1) (y := 99) (by decide) (by decide) this
      omega
  rw [if_neg e]
  clear e
  by_cases e : w = 5
  · rw [if_pos e]; exact okV_u2 hv (getD_lt htb (by decide) _)
  rw [if_neg e]
  clear e
  by_cases e : w = 6
  · rw [if_pos e]; exact okV_plain hv
  rw [if_neg e]
  clear e
  by_cases e : w = 7
  · rw [if_pos e]; exact okV_u3 hv (by decide)
  rw [if_neg e]
  clear e
  by_cases e : w = 8
  · rw [if_pos e]; exact okV_u3 hv (by decide)
  rw [if_neg e]
  clear e
  by_cases e : w = 9
  · rw [if_pos e]; exact okV_u3 hv (by decide)
  rw [if_neg e]
  clear e
  by_cases e : w = 10
  · rw [if_pos e]
    subst e
    refine okV_u4 hv ?_
    unfold nuO
    split
    · decide
    · rename_i hd
      have := nfit_n hf ⟨by decide, by decide⟩ hd
      obtain ⟨k, h1, h2, -, h4⟩ := wi_cl (x := 0) (y := 9) (by decide) (by decide) this
      omega
  rw [if_neg e]
  clear e
  by_cases e : w = 11
  · rw [if_pos e]; exact okV_u4 (okV_u3 hv (by decide)) (by decide)
  rw [if_neg e]
  clear e
  by_cases e : w = 13
  · rw [if_pos e]
    subst e
    refine okV_u5 hv ?_
    unfold nuO
    split
    · decide
    · rename_i hd
      have := nfit_n hf ⟨by decide, by decide⟩ hd
      obtain ⟨k, h1, h2, -, h4⟩ := wi_cl (x := 0) (y := 9) (by decide) (by decide) this
      omega
  rw [if_neg e]
  clear e
  exact hv
theorem okB_par {x y : Nat} (h : okX T i lv it v nt tb nm L ps) (hx : x < 3) (hy : y < 10) : okB T (bPar th x y (i, fa, me, lv, fr, it, en, v, nt, tb, nm, L, ps)) := by
  show okB T (if 16 ≤ ps.length then _ else _)
  split
  · exact h
  · exact h.pg h.2.2.2.2.2.2.2.1 (h.2.2.2.2.2.2.2.2.gat (by omega) hx hy)
theorem bPar_at {x y : Nat} : (bPar th x y (i, fa, me, lv, fr, it, en, v, nt, tb, nm, L, ps)).1 = i := by
  show (if 16 ≤ ps.length then _ else _ : BS).1 = i
  split <;> rfl
/-- j: where the word begins -/
theorem okN_obey {w d : Nat} {n : Int32} (hT : okT T) (h : okX T i lv it v nt tb nm L ps) (hj : j + 1 < i) (hL : L.length ≤ j) (hi : i ≤ T.length) : okN T j (bObey th b w n d (i, fa, me, lv, fr, it, en, v, nt, tb, nm, L, ps)) := by
  show okN T j (if lv ≠ 0 then _ else if nfit tb w n d = false then _ else if w = 12 then _ else if w = 14 then _ else if w = 15 then (if b = true then _ else _) else _)
  have hl := h.2.1
  have h := h.sLv (lv' := lv - 1) (by omega)
  split
  · exact ⟨h, Or.inl (by show j < i; omega)⟩
  split
  · exact ⟨h, Or.inr (by first | exact fz7 | exact fz5 | exact fz4 | exact fz6 | exact fz8)⟩
  rename_i hf
  have hf : nfit tb w n d = true := by simpa using hf
  split
  · exact ⟨okB_par h h.2.2.1.2.2.2.2.1 h.2.2.1.2.2.2.2.2.1, Or.inl (by rw [bPar_at]; omega)⟩
  split
  · rename_i e
    subst e
    have hT1 := hT.1
    have := nfit_n hf ⟨by decide, by decide⟩ (nfit_0 hf rfl)
    obtain ⟨k, h1, h2, -, h4⟩ := wi_cl (x := 32) (y := 255) (by decide) (by decide) this
    exact ⟨(h.sLv (by have := h.2.2.1.2.2.2.2.2.2; omega)).pg (by rw [List.length_append]; simp; omega) (h.2.2.2.2.2.2.2.2.put (by omega) (by omega) (by omega) (lkV_lt h.2.2.1)), Or.inl (by show j < i; omega)⟩
  split
  · split
    · exact ⟨h.sTb ⟨by decide, fun x hx => absurd hx List.not_mem_nil, fun z => nomatch z⟩ ⟨fun _ => Nat.zero_le _, Nat.zero_le _, fun x hx => absurd hx List.not_mem_nil⟩, Or.inl (by show j < i; omega)⟩
    · exact ⟨h, Or.inl (by show j < i; omega)⟩
  · exact ⟨h.sV (okV_W h.2.2.1 h.2.2.2.2.2.1.2.1 hf), Or.inl (by show j < i; omega)⟩
theorem hxV_lt {k x : Nat} (h : hxV k = some x) : x < 16 ∧ k ≠ 0 := by
  unfold hxV at h
  split at h
  · rename_i z
    unfold dgL at z
    simp at z
    cases h
    omega
  · split at h
    · cases h; omega
    · cases h
theorem hxC_in {k : Nat} (h : (hxC T k).isSome = true) : k + 1 < T.length ∧ (hxC T k).getD 0 < 256 := by
  unfold hxC at h ⊢
  cases e1 : hxV (tc T k) with
  | none => rw [e1] at h; cases h
  | some x =>
    cases e2 : hxV (tc T (k + 1)) with
    | none => rw [e1, e2] at h; cases h
    | some y =>
      have a := hxV_lt e1
      have c := hxV_lt e2
      refine ⟨tc_in c.2, ?_⟩
      show 16 * x + y < 256
      omega
theorem okN_back (hT : okT T) (h : okX T i lv it v nt tb nm L ps) (hi : i < T.length) : okN T i (bBack T th b (i, fa, me, lv, fr, it, en, v, nt, tb, nm, L, ps)) := by
  unfold bBack
  show okN T i (if smL (tc T (i + 1)) = true then bObey th b (wdW T i) (nuV T (wdT T i)) (nuD T (wdT T i)) (wdN T i, fa, me, lv, fr, it, en, v, nt, tb, nm, L, ps) else if tc T (i + 1) = 39 ∧ (hxC T (i + 2)).isSome = true then bLetter th ((hxC T (i + 2)).getD 0) 4 (i, fa, me, lv, fr, it, en, v, nt, tb, nm, L, ps) else if tc T (i + 1) = 123 ∨ tc T (i + 1) = 125 ∨ tc T (i + 1) = 92 then bLetter th (tc T (i + 1)) 2 (i, fa, me, lv, fr, it, en, v, nt, tb, nm, L, ps) else if tc T (i + 1) = 126 then bLetter th 160 2 (i, fa, me, lv, fr, it, en, v, nt, tb, nm, L, ps) else if tc T (i + 1) = 42 then bStar T b (i, fa, me, lv, fr, it, en, v, nt, tb, nm, L, ps) else bFl (-4) th (i, fa, me, lv, fr, it, en, v, nt, tb, nm, L, ps))
  split
  · rename_i z
    have := wdN_in z
    exact okN_obey hT (h.goto (by omega) (by omega)) this.1 h.2.2.2.2.2.2.2.1.1 this.2
  split
  · rename_i z
    have := hxC_in z.2
    exact okN_letter hT h hi (by decide) (by omega) this.2
  split
  · rename_i z
    have h0 : tc T (i + 1) ≠ 0 := by omega
    have := tc_in h0
    exact okN_letter hT h hi (by decide) (by omega) (by have := tc_lt hT (i + 1); omega)
  split
  · rename_i z
    have := tc_in' z (by decide)
    exact okN_letter hT h hi (by decide) (by omega) (by decide)
  split
  · rename_i z
    exact okN_star h (tc_in' z (by decide))
  · exact ⟨h, Or.inr (by first | exact fz7 | exact fz5 | exact fz4 | exact fz6 | exact fz8)⟩
theorem okN_tab {x : Nat} (hT : okT T) (h : okX T i lv it v nt tb nm L ps) (hi : i < T.length) (hx : x < 128) (hit : it = true) : okN T i (bTab th x (i, fa, me, lv, fr, it, en, v, nt, tb, nm, L, ps)) := by
  show okN T i (if smL x = true then _ else if x = 59 ∧ (enC tb nm).isSome = true ∧ tb.length < 8 then _ else if x = 125 then (if nm = [] then bClose (i, fa, me, lv, fr, false, en, v, nt, (if tb = [] then [0] else tb), nm, L, ps) else _) else _)
  have hnm := h.2.2.2.2.2.2.1
  have htb := h.2.2.2.2.2.1
  have h0 : (if tb = [] then [0] else tb).length ≤ 8 ∧ (∀ x ∈ (if tb = [] then [0] else tb), x < 8) ∧ ∀ z : Bool, z = false → (if tb = [] then [0] else tb) ≠ [] := by
    split
    · exact ⟨by decide, fun x hx => by rw [List.mem_singleton] at hx; subst hx; decide, fun _ _ z => nomatch z⟩
    · rename_i z
      exact ⟨htb.1, htb.2.1, fun _ _ => z⟩
  split
  · refine ⟨((h.goto (Nat.le_succ i) (by omega)).sTb htb ⟨fun z => by have := hnm.1 z; rw [List.length_append]; simp; omega, by have := hnm.1 hit; have := hT.1; rw [List.length_append]; simp; omega, fun y hy => ?_⟩), Or.inl (Nat.lt_succ_self i)⟩
    rcases List.mem_append.mp hy with z | z
    · exact hnm.2.2 y z
    · rw [List.mem_singleton] at z; omega
  split
  · rename_i z
    refine ⟨((h.goto (Nat.le_succ i) (by omega)).sTb ⟨by rw [List.length_append]; exact z.2.2, fun y hy => ?_, fun _ q => by simp at q⟩ ⟨fun _ => Nat.zero_le _, Nat.zero_le _, fun x hx => absurd hx List.not_mem_nil⟩), Or.inl (Nat.lt_succ_self i)⟩
    rcases List.mem_append.mp hy with q | q
    · exact htb.2.1 y q
    · rw [List.mem_singleton] at q
      obtain ⟨k, hk⟩ := Option.isSome_iff_exists.mp z.2.1
      rw [q, hk]
      exact enC_lt hk
  split
  · split
    · exact okN_close (h.sTb ⟨h0.1, h0.2.1, h0.2.2 false⟩ ⟨(fun z => nomatch z), hnm.2⟩) hi
    · exact ⟨h.sTb ⟨h0.1, h0.2.1, h0.2.2 it⟩ hnm, Or.inr (by first | exact fz7 | exact fz5 | exact fz4 | exact fz6 | exact fz8)⟩
  · exact ⟨h, Or.inr (by first | exact fz7 | exact fz5 | exact fz4 | exact fz6 | exact fz8)⟩
theorem okN_thing (hT : okT T) (h : okX T i lv it v nt tb nm L ps) (hi : i < T.length) : okN T i (bThing T (i, fa, me, lv, fr, it, en, v, nt, tb, nm, L, ps)) := by
  show okN T i (if tc T i = 10 then _ else if it = true then bTab i (tc T i) (i, fa, me, lv, fr, it, en, v, nt, tb, nm, L, ps) else if tc T i = 123 then bOpen i (i, fa, me, lv, true, it, en, v, nt, tb, nm, L, ps) else if tc T i = 125 then bClose (i, fa, me, lv, false, it, en, v, nt, tb, nm, L, ps) else if tc T i = 92 then bBack T i fr (i, fa, me, lv, false, it, en, v, nt, tb, nm, L, ps) else bLetter i (tc T i) 1 (i, fa, me, lv, false, it, en, v, nt, tb, nm, L, ps))
  have hx := tc_lt hT i
  split
  · exact ⟨h.goto (Nat.le_succ i) (by omega), Or.inl (Nat.lt_succ_self i)⟩
  split
  · rename_i z
    exact okN_tab hT h hi hx z
  split
  · exact okN_open h hi
  split
  · exact okN_close h hi
  split
  · exact okN_back hT h hi
  · exact okN_letter hT h hi (by decide) (by omega) (by omega)
theorem okB_thing (hT : okT T) {σ : BS} (h : okB T σ) (hi : σ.1 < T.length) : okN T σ.1 (bThing T σ) := by
  obtain ⟨i, fa, me, lv, fr, it, en, v, nt, tb, nm, L, ps⟩ := σ
  exact okN_thing hT h hi
/-! how many things there may be doesn't matter, if they are enough -/
theorem bRes_enough (hT : okT T) : ∀ n m (σ : BS), okB T σ → T.length ≤ n + σ.1 → T.length ≤ m + σ.1 → bRes T n σ = bRes T m σ
  | 0, 0, σ, _, _, _ => rfl
  | 0, m + 1, σ, h, h1, h2 => by
    show _ = (if _ then _ else _)
    rw [if_pos (Or.inr (Or.inl (by omega)))]; rfl
  | n + 1, 0, σ, h, h1, h2 => by
    show (if _ then _ else _) = _
    rw [if_pos (Or.inr (Or.inl (by omega)))]; rfl
  | n + 1, m + 1, σ, h, h1, h2 => by
    show (if _ then _ else _) = (if _ then _ else _)
    by_cases z : σ.2.1 ≠ 0 ∨ T.length ≤ σ.1 ∨ σ.2.2.2.2.2.2.1 = true
    · rw [if_pos z, if_pos z]
    · rw [if_neg z, if_neg z]
      have hi : σ.1 < T.length := Nat.not_le.mp fun q => z (Or.inr (Or.inl q))
      have q := okB_thing hT h hi
      rcases q.2 with y | y
      · exact bRes_enough hT n m _ q.1 (by omega) (by omega)
      · have stop : ∀ k, bRes T k (bThing T σ) = bThing T σ := fun k => by
          cases k with
          | zero => exact if_neg y
          | succ k => exact (if_pos (Or.inl y)).trans (if_neg y)
        rw [stop, stop]
end BROK
