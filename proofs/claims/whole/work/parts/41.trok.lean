/-! the tagged reading keeps its bounds, and goes on -/
theorem dgT_in (T : List Nat) : ∀ n k x, k ≤ T.length → k ≤ (dgT T n k x).1 ∧ (dgT T n k x).1 ≤ T.length ∧ (dgT T n k x).1 ≤ k + n
  | 0, k, x, h => ⟨Nat.le_refl _, h, Nat.le_refl _⟩
  | n + 1, k, x, h => by
    unfold dgT
    split
    · rename_i z
      have := dg_in z
      have q := dgT_in T n (k + 1) (10 * x + (tc T k - 48)) (by omega)
      omega
    · exact ⟨Nat.le_refl _, h, Nat.le_add_right _ _⟩
theorem dgT_lt (T : List Nat) : ∀ n k x m, x < 10 ^ m → (dgT T n k x).2 < 10 ^ (m + n)
  | 0, k, x, m, h => h
  | n + 1, k, x, m, h => by
    unfold dgT
    split
    · rename_i z
      have h9 : tc T k ≤ 57 := by
        unfold dgL at z
        simp at z
        exact z.2
      have := dgT_lt T n (k + 1) (10 * x + (tc T k - 48)) (m + 1) (by rw [Nat.pow_succ]; omega)
      rw [show m + (n + 1) = m + 1 + n by omega]
      exact this
    · exact Nat.lt_of_lt_of_le h (Nat.pow_le_pow_right (by decide) (by omega))
theorem tnV_lt (T : List Nat) (k : Nat) : tnV T k < 1000000 ∨ tnV T k = 4294967295 := by
  unfold tnV
  split
  · exact Or.inr rfl
  · exact Or.inl (dgT_lt T 6 k 0 0 (by decide))
theorem m1_nI : nI 4294967295 = -1 := by decide +kernel
theorem tnE_in {T : List Nat} {k : Nat} (h : k ≤ T.length) : k ≤ tnE T k ∧ tnE T k ≤ T.length := ⟨(dgT_in T 6 k 0 h).1, (dgT_in T 6 k 0 h).2.1⟩
/-- a number within bounds -/
theorem wi_tn {T : List Nat} {k x y : Nat} (hx : x ≤ y) (hy : y < 100000) (h : wi (nI (tnV T k)) (nI x) (nI y) = true) : x ≤ tnV T k ∧ tnV T k ≤ y := by
  rcases tnV_lt T k with z | z
  · rw [wi_nI z (by omega) (by omega)] at h
    simpa using h
  · rw [z, m1_nI] at h
    unfold wi at h
    rw [Bool.and_eq_true, decide_eq_true_eq] at h
    have a := Int32.le_iff_toInt_le.mp h.1
    rw [nI_toInt (by omega)] at a
    have e1 : (-1 : Int32).toInt = -1 := rfl
    omega
theorem pLast_sn {ps : List (Nat × Nat × Nat)} {q : Nat × Nat × Nat} {e : Nat} : pLast (ps ++ [q]) e = ps ++ [(q.1, q.2.1, e)] := by
  unfold pLast
  rw [List.dropLast_concat]
  simp
theorem okP.last {L : List (Nat × Nat)} {ps : List (Nat × Nat × Nat)} {x y e a b : Nat} (h : okP L (ps ++ [(x, y, e)])) (hl : L.length < 400) (h1 : 32 ≤ a) (h2 : a < 256) (h3 : b < 6400) : okP (L ++ [(a, b)]) (ps ++ [(x, y, L.length + 1)]) := by
  have q := h.put hl h1 h2 h3
  refine ⟨q.1, by rw [List.length_append]; have := h.2.1; rw [List.length_append] at this; exact this, fun j hj => ?_, q.2.2.2⟩
  rw [List.length_append] at hj
  have qj := q.2.2.1 j (by rw [List.length_append]; exact hj)
  by_cases e' : j < ps.length
  · rw [pst_sn (by omega)] at qj ⊢
    unfold p_a p_i p_e at qj ⊢
    rw [p_sn e'] at qj ⊢
    exact qj
  · have e2 : j = ps.length := by simp at hj; omega
    subst e2
    rw [pst_sn (Nat.le_refl _)] at qj ⊢
    unfold p_a p_i p_e at qj ⊢
    rw [p_sn'] at qj ⊢
    refine ⟨qj.1, qj.2.1, ?_, ?_⟩
    · rw [List.length_append]; exact Nat.le_refl _
    · have h5 : e ≤ (L ++ [(a, b)]).length := qj.2.2.1
      rw [List.length_append] at h5
      have h6 : pst ps ps.length ≤ e := qj.2.2.2
      show pst ps ps.length ≤ L.length + 1
      simp at h5
      omega
section TROK
variable {T : List Nat} {i j ot rs sy sz co th k : Nat} {fa me : Int32} {ip hl ed : Bool} {L : List (Nat × Nat)} {ps : List (Nat × Nat × Nat)}
def okM (T : List Nat) (j : Nat) : TS → Prop := fun σ => okU T σ ∧ (j < σ.1 ∨ σ.2.1 ≠ 0)
theorem okY.bad {k : Int32} (h : okY T i fa ip ot rs sy sz co L ps) (hk : k ≠ 0) : okY T i k ip ot rs sy sz co L ps := ⟨h.1, h.2.1, h.2.2.1, h.2.2.2.1, fun z => absurd z hk, h.2.2.2.2.2⟩
theorem okY.bad2 {k : Int32} {sz' co' : Nat} (h : okY T i fa ip ot rs sy sz co L ps) (hk : k ≠ 0) : okY T i k ip ot rs sy sz' co' L ps := ⟨h.1, h.2.1, h.2.2.1, h.2.2.2.1, fun z => absurd z hk, h.2.2.2.2.2⟩
theorem okY.goto (h : okY T i fa ip ot rs sy sz co L ps) (h1 : i ≤ j) (h2 : j ≤ T.length) : okY T j fa ip ot rs sy sz co L ps := ⟨h2, h.2.1, h.2.2.1, h.2.2.2.1, h.2.2.2.2.1, h.2.2.2.2.2.1, h.2.2.2.2.2.2.1, ⟨by have := h.2.2.2.2.2.2.2.1.1; omega, h.2.2.2.2.2.2.2.1.2⟩, h.2.2.2.2.2.2.2.2⟩
theorem okM_letter {x : Nat} (hT : okT T) (h : okY T i fa ip ot rs sy sz co L ps) (h0 : fa = 0) (hi : i < T.length) (h1 : i < j) (h2 : j ≤ T.length) (hx : 32 ≤ x) (hx2 : x < 256) : okM T i (tLetter th x j (i, fa, me, ip, ot, rs, hl, ed, sy, sz, co, L, ps)) := by
  show okM T i (if ip = false ∨ ed = true then _ else if ot ≠ 0 ∧ hl = false ∧ llk L ps = some (sy + 8 * co + 64 * sz) then _ else _)
  split
  · exact ⟨h.bad (by decide), Or.inr (by first | exact fz9 | exact fz5 | exact fz10 | exact fz8)⟩
  split
  · exact ⟨h.bad (by decide), Or.inr (by first | exact fz9 | exact fz5 | exact fz10 | exact fz8)⟩
  · rename_i y _
    have hip : ip = true := by cases ip with | true => rfl | false => exact absurd (Or.inl rfl) y
    have hne := h.2.2.2.2.2.1 hip
    rcases nil_or_snoc ps with e | ⟨qs, q, e⟩
    · exact absurd e hne
    · subst e
      obtain ⟨a, b, e⟩ := q
      have hz := h.2.2.2.2.1 h0
      have hLl := h.2.2.2.2.2.2.2.1
      have hT1 := hT.1
      have hs := h.2.2.2.1
      refine ⟨?_, Or.inl h1⟩
      show okY T j fa ip ot rs sy sz co (L ++ [(x, sy + 8 * co + 64 * sz)]) (pLast (qs ++ [(a, b, e)]) (L.length + 1))
      rw [pLast_sn]
      refine ⟨h2, h.2.1, h.2.2.1, h.2.2.2.1, h.2.2.2.2.1, fun _ q => by simp at q, ?_, ?_, h.2.2.2.2.2.2.2.2.last (by omega) hx hx2 (by omega)⟩
      · rw [List.length_append, List.length_append]
        show pst _ (qs.length + 1) = L.length + 1
        unfold pst p_e
        rw [if_neg (by omega), Nat.add_sub_cancel, p_sn']
      · rw [List.length_append]; simp; omega
theorem alA_lt {T : List Nat} (k : Nat) : alA T k < 3 := by unfold alA; (repeat' split) <;> decide
theorem inA_lt {T : List Nat} (k : Nat) : inA T k < 10 := by unfold inA; split <;> omega
theorem okM_par2 {x y : Nat} (h : okY T i fa ip ot rs sy sz co L ps) (h1 : i ≤ k) (hx : x < 3) (hy : y < 10) : okM T i (tPar2 T th x y k (i, fa, me, ip, ot, rs, hl, ed, sy, sz, co, L, ps)) := by
  show okM T i (if tc T k ≠ 62 ∨ ip = true then _ else if 16 ≤ ps.length then _ else _)
  split
  · exact ⟨h.bad (by decide), Or.inr (by first | exact fz9 | exact fz5 | exact fz10 | exact fz8)⟩
  split
  · exact ⟨h.bad (by decide), Or.inr (by first | exact fz9 | exact fz5 | exact fz10 | exact fz8)⟩
  · rename_i z _
    have hk : k < T.length := tc_in' (x := 62) (by by_cases q : tc T k = 62; exact q; exact absurd (Or.inl q) z) (by decide)
    refine ⟨⟨by show k + 1 ≤ _; omega, h.2.1, h.2.2.1, h.2.2.2.1, h.2.2.2.2.1, fun _ q => by simp at q, ?_, ⟨by have := h.2.2.2.2.2.2.2.1.1; show L.length ≤ k + 1; omega, h.2.2.2.2.2.2.2.1.2⟩, h.2.2.2.2.2.2.2.2.gat (by omega) hx hy⟩, Or.inl (by show i < k + 1; omega)⟩
    rw [List.length_append]
    show pst _ (ps.length + 1) = L.length
    unfold pst p_e
    rw [if_neg (by omega), Nat.add_sub_cancel, p_sn']
theorem okM_par (h : okY T i fa ip ot rs sy sz co L ps) : okM T i (tPar T th (i, fa, me, ip, ot, rs, hl, ed, sy, sz, co, L, ps)) := by
  unfold tPar
  split
  · split
    · exact ⟨h.bad (by decide), Or.inr (by first | exact fz9 | exact fz5 | exact fz10 | exact fz8)⟩
    · exact okM_par2 h (by show i ≤ i + 3 + _ + _; omega) (alA_lt _) (inA_lt _)
  · exact okM_par2 h (by show i ≤ i + 2; omega) (by decide) (by decide)
theorem okM_parE (h : okY T i fa ip ot rs sy sz co L ps) (hi : i + 4 ≤ T.length) : okM T i (tParE th (i, fa, me, ip, ot, rs, hl, ed, sy, sz, co, L, ps)) := by
  show okM T i (if ip = false ∨ ot ≠ 0 then _ else _)
  split
  · exact ⟨h.bad (by decide), Or.inr (by first | exact fz9 | exact fz5 | exact fz10 | exact fz8)⟩
  · have g := h.goto (j := i + 4) (by omega) hi
    exact ⟨⟨g.1, g.2.1, g.2.2.1, g.2.2.2.1, g.2.2.2.2.1, (fun z => nomatch z), g.2.2.2.2.2.2⟩, Or.inl (by show i < i + 4; omega)⟩
theorem okM_tagE {g : Nat} (h : okY T i fa ip ot rs sy sz co L ps) (hi : i + 4 ≤ T.length) : okM T i (tTagE th g (i, fa, me, ip, ot, rs, hl, ed, sy, sz, co, L, ps)) := by
  show okM T i (if ot / 2 ^ g = 1 then (if ot - 2 ^ g = 0 then _ else _) else _)
  have q := h.goto (j := i + 4) (by omega) hi
  split
  · split
    · exact ⟨⟨q.1, by decide, q.2.2.1, by decide, fun _ => by decide, q.2.2.2.2.2⟩, Or.inl (by show i < i + 4; omega)⟩
    · exact ⟨⟨q.1, Nat.lt_of_le_of_lt (Nat.sub_le _ _) q.2.1, q.2.2⟩, Or.inl (by show i < i + 4; omega)⟩
  · exact ⟨h.bad (by decide), Or.inr (by first | exact fz9 | exact fz5 | exact fz10 | exact fz8)⟩
theorem okM_endTag (h : okY T i fa ip ot rs sy sz co L ps) : okM T i (tEndTag T th (i, fa, me, ip, ot, rs, hl, ed, sy, sz, co, L, ps)) := by
  show okM T i (if tc T (i + 3) ≠ 62 ∨ (tc T (i + 2) ≠ 112 ∧ tgO (tc T (i + 2)) = none) then _ else if ot ≠ 0 ∧ hl = false then _ else if tc T (i + 2) = 112 then tParE th (i, fa, me, ip, ot, rs, hl, ed, sy, sz, co, L, ps) else tTagE th ((tgO (tc T (i + 2))).getD 0) (i, fa, me, ip, ot, rs, hl, ed, sy, sz, co, L, ps))
  split
  · exact ⟨h.bad (by decide), Or.inr (by first | exact fz9 | exact fz5 | exact fz10 | exact fz8)⟩
  rename_i z
  have hk : i + 3 < T.length := tc_in' (x := 62) (by by_cases q : tc T (i + 3) = 62; exact q; exact absurd (Or.inl q) z) (by decide)
  split
  · exact ⟨h.bad (by decide), Or.inr (by first | exact fz9 | exact fz5 | exact fz10 | exact fz8)⟩
  split
  · exact okM_parE h (by omega)
  · exact okM_tagE h (by omega)
theorem tgO_lt {k g : Nat} (h : tgO k = some g) : g < 5 := by
  unfold tgO at h
  repeat' split at h
  all_goals first | (cases h; decide) | cases h
theorem okM_run {g : Option Nat} (h : okY T i fa ip ot rs sy sz co L ps) (h0 : fa = 0) (hi : i < T.length) (hth : th ≤ 400) (hg : ∀ k, g = some k → k < 5) : okM T i (tRun T th g (i, fa, me, ip, ot, rs, hl, ed, sy, sz, co, L, ps)) := by
  cases g with
  | none => exact ⟨h.bad (by decide), Or.inr (by first | exact fz9 | exact fz5 | exact fz10 | exact fz8)⟩
  | some g =>
    show okM T i (if ip = false ∨ hl = true ∨ ot / 2 ^ g ≠ 0 ∨ rtOk T i g = false then _ else if lokO g (tnV T (i + 3)) = false then _ else _)
    split
    · exact ⟨h.bad (by decide), Or.inr (by first | exact fz9 | exact fz5 | exact fz10 | exact fz8)⟩
    rename_i z
    split
    · exact ⟨h.bad2 (by decide), Or.inr (by first | exact fz9 | exact fz5 | exact fz10 | exact fz8)⟩
    rename_i y
    have hlo : lokO g (tnV T (i + 3)) = true := by simpa using y
    have hg5 := hg g rfl
    have hok : rtOk T i g = true := by
      cases e : rtOk T i g with
      | true => rfl
      | false => exact absurd (Or.inr (Or.inr (Or.inr e))) z
    have hot : ot / 2 ^ g = 0 := by
      by_cases q : ot / 2 ^ g = 0
      · exact q
      · exact absurd (Or.inr (Or.inr (Or.inl q))) z
    have hot2 : ot < 2 ^ g := by
      have := Nat.two_pow_pos g
      exact (Nat.div_eq_zero_iff.mp hot).resolve_left (by omega)
    obtain ⟨e, he, hc⟩ : ∃ e, rtE T i (some g) = some e ∧ tc T e = 62 := by
      unfold rtOk at hok
      cases e : rtE T i (some g) with
      | none => rw [e] at hok; cases hok
      | some e' => rw [e] at hok; exact ⟨e', rfl, of_decide_eq_true hok⟩
    have hel := tc_in' hc (by decide)
    have hie : i < e := by
      unfold rtE at he
      split at he
      · split at he
        · rename_i w
          cases he
          have := tnE_in (T := T) (k := i + 3) (by have := tc_in' w.1 (by decide); omega)
          omega
        · cases he
      · cases he; omega
    have hp : 2 ^ g + 2 ^ g ≤ 32 := by
      have q : g = 0 ∨ g = 1 ∨ g = 2 ∨ g = 3 ∨ g = 4 := by omega
      rcases q with q | q | q | q | q <;> subst q <;> decide
    have hz := h.2.2.2.2.1 h0
    refine ⟨?_, Or.inl (by show i < (rtE T i (some g)).getD 0 + 1; rw [he]; show i < e + 1; omega)⟩
    show okY T ((rtE T i (some g)).getD 0 + 1) fa ip (ot + 2 ^ g) (if ot = 0 then th else rs) (if g = 3 ∨ g = 4 then sy else stS sy (2 ^ g) false) (if g = 3 then tnV T (i + 3) else sz) (if g = 4 then tnV T (i + 3) else co) L ps
    rw [he]
    have q := h.goto (j := e + 1) (by omega) (by omega)
    refine ⟨q.1, by omega, ?_, ?_, fun _ => ⟨?_, ?_⟩, q.2.2.2.2.2⟩
    · split
      · exact hth
      · exact q.2.2.1
    · split
      · exact q.2.2.2.1
      · rename_i w
        have q2 : g = 0 ∨ g = 1 ∨ g = 2 := by omega
        rcases q2 with q2 | q2 | q2 <;> subst q2
        · exact stS_lt _ h.2.2.2.1 1 (by decide) (Or.inl rfl) _
        · exact stS_lt _ h.2.2.2.1 2 (by decide) (Or.inr (Or.inl rfl)) _
        · exact stS_lt _ h.2.2.2.1 4 (by decide) (Or.inr (Or.inr rfl)) _
    · split
      · rename_i w
        subst w
        have : (wi (nI (tnV T (i + 3))) 1 99 && decide (tnV T (i + 3) ≠ 12)) = true := hlo
        rw [Bool.and_eq_true] at this
        have := wi_tn (x := 1) (y := 99) (by decide) (by decide) this.1
        omega
      · exact hz.1
    · split
      · rename_i w
        subst w
        have := wi_tn (T := T) (k := i + 3) (x := 1) (y := 7) (by decide) (by decide) hlo
        omega
      · exact hz.2
theorem spl_in {u v : Nat} {ys : List Nat} (h : spl T u v ys = true) : v ≤ T.length := by
  unfold spl at h
  simp at h
  exact h.1
theorem okM_named (hT : okT T) (h : okY T i fa ip ot rs sy sz co L ps) (h0 : fa = 0) (hi : i < T.length) : okM T i (tNamed T th (i, fa, me, ip, ot, rs, hl, ed, sy, sz, co, L, ps)) := by
  show okM T i (if spl T i (i + 4) [38, 108, 116, 59] = true then tLetter th 60 (i + 4) (i, fa, me, ip, ot, rs, hl, ed, sy, sz, co, L, ps) else if spl T i (i + 4) [38, 103, 116, 59] = true then tLetter th 62 (i + 4) (i, fa, me, ip, ot, rs, hl, ed, sy, sz, co, L, ps) else if spl T i (i + 5) [38, 97, 109, 112, 59] = true then tLetter th 38 (i + 5) (i, fa, me, ip, ot, rs, hl, ed, sy, sz, co, L, ps) else if tnOk T (i + 1) = false ∨ tc T (tnE T (i + 1)) ≠ 59 ∨ ip = false ∨ ed = true then _ else if wi (nI (tnV T (i + 1))) 127 255 = false then _ else tLetter th (tnV T (i + 1)) (tnE T (i + 1) + 1) (i, fa, me, ip, ot, rs, hl, ed, sy, sz, co, L, ps))
  split
  · rename_i z
    exact okM_letter hT h h0 hi (by omega) (spl_in z) (by decide) (by decide)
  split
  · rename_i z
    exact okM_letter hT h h0 hi (by omega) (spl_in z) (by decide) (by decide)
  split
  · rename_i z
    exact okM_letter hT h h0 hi (by omega) (spl_in z) (by decide) (by decide)
  split
  · exact ⟨h.bad (by decide), Or.inr (by first | exact fz9 | exact fz5 | exact fz10 | exact fz8)⟩
  rename_i z
  split
  · exact ⟨h.bad (by decide), Or.inr (by first | exact fz9 | exact fz5 | exact fz10 | exact fz8)⟩
  · rename_i y
    have y : wi (nI (tnV T (i + 1))) 127 255 = true := by simpa using y
    have q := wi_tn (x := 127) (y := 255) (by decide) (by decide) y
    have hc : tc T (tnE T (i + 1)) = 59 := by
      by_cases w : tc T (tnE T (i + 1)) = 59
      · exact w
      · exact absurd (Or.inr (Or.inl w)) z
    have hl' := tc_in' hc (by decide)
    have := tnE_in (T := T) (k := i + 1) (by omega)
    exact okM_letter hT h h0 hi (by omega) (by omega) (by omega) (by omega)
theorem okM_tag (hT : okT T) (h : okY T i fa ip ot rs sy sz co L ps) (h0 : fa = 0) (hi : i < T.length) (hth : th ≤ 400) : okM T i (tTag T th (i, fa, me, ip, ot, rs, hl, ed, sy, sz, co, L, ps)) := by
  unfold tTag
  split
  · exact okM_par h
  split
  · exact okM_endTag h
  · exact okM_run h h0 hi hth (fun k hk => tgO_lt hk)
theorem okM_thing (hT : okT T) (hp : ∀ k, k < T.length → tc T k = 10 ∨ 32 ≤ tc T k) (h : okY T i fa ip ot rs sy sz co L ps) (h0 : fa = 0) (hi : i < T.length) : okM T i (tThing T (i, fa, me, ip, ot, rs, hl, ed, sy, sz, co, L, ps)) := by
  unfold tThing
  split
  · exact okM_tag hT h h0 hi (by show i ≤ 400; have := hT.1; omega)
  split
  · exact okM_named hT h h0 hi
  split
  · exact ⟨h.bad (by decide), Or.inr (by first | exact fz9 | exact fz5 | exact fz10 | exact fz8)⟩
  · rename_i z
    have z : ¬ (tc T i = 62 ∨ tc T i = 10) := z
    have := tc_lt hT i
    exact okM_letter hT h h0 hi (by show i < i + 1; omega) (by show i + 1 ≤ _; omega) (by show 32 ≤ tc T i; have := hp i hi; omega) (by show tc T i < 256; omega)
theorem okU_thing (hT : okT T) (hp : ∀ k, k < T.length → tc T k = 10 ∨ 32 ≤ tc T k) {σ : TS} (h : okU T σ) (h0 : σ.2.1 = 0) (hi : σ.1 < T.length) : okM T σ.1 (tThing T σ) := by
  obtain ⟨i, fa, me, ip, ot, rs, hl, ed, sy, sz, co, L, ps⟩ := σ
  exact okM_thing hT hp h h0 hi
theorem tRes_enough (hT : okT T) (hp : ∀ k, k < T.length → tc T k = 10 ∨ 32 ≤ tc T k) : ∀ n m (σ : TS), okU T σ → T.length ≤ n + σ.1 → T.length ≤ m + σ.1 → tRes T n σ = tRes T m σ
  | 0, 0, σ, _, _, _ => rfl
  | 0, m + 1, σ, h, h1, h2 => by
    show _ = (if _ then _ else _)
    rw [if_pos (Or.inr (by omega))]; rfl
  | n + 1, 0, σ, h, h1, h2 => by
    show (if _ then _ else _) = _
    rw [if_pos (Or.inr (by omega))]; rfl
  | n + 1, m + 1, σ, h, h1, h2 => by
    show (if _ then _ else _) = (if _ then _ else _)
    by_cases z : σ.2.1 ≠ 0 ∨ T.length ≤ σ.1
    · rw [if_pos z, if_pos z]
    · rw [if_neg z, if_neg z]
      have hi : σ.1 < T.length := Nat.not_le.mp fun q => z (Or.inr q)
      have h0 : σ.2.1 = 0 := by
        by_cases q : σ.2.1 = 0
        · exact q
        · exact absurd (Or.inl q) z
      have q := okU_thing hT hp h h0 hi
      rcases q.2 with y | y
      · exact tRes_enough hT hp n m _ q.1 (by omega) (by omega)
      · have stop : ∀ k, tRes T k (tThing T σ) = tThing T σ := fun k => by
          cases k with
          | zero => exact if_neg y
          | succ k => exact (if_pos (Or.inl y)).trans (if_neg y)
        rw [stop, stop]
end TROK
