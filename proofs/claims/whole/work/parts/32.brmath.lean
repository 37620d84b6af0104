/-! a braced reading, thing by thing: place, fault, where it was met, how many to leave out, right behind a brace, in the table, ended, state, noted states, table, name, letters, paragraphs -/
abbrev BS : Type := Nat × Int32 × Int32 × Nat × Bool × Bool × Bool × (Nat → Nat) × List (Nat → Nat) × List Nat × List Nat × List (Nat × Nat) × List (Nat × Nat × Nat)
def smL (k : Nat) : Bool := decide (97 ≤ k) && decide (k ≤ 122)
def dgL (k : Nat) : Bool := decide (48 ≤ k) && decide (k ≤ 57)
def lkV (v : Nat → Nat) : Nat := v 0 + 8 * v 2 + 64 * v 1
def bFl (k : Int32) (x : Nat) : BS → BS := fun (i, fa, me, lv, fr, it, en, v, nt, tb, nm, L, ps) => (i, k, nI x, lv, fr, it, en, v, nt, tb, nm, L, ps)
def bOpen (th : Nat) : BS → BS := fun (i, fa, me, lv, fr, it, en, v, nt, tb, nm, L, ps) => if 12 ≤ nt.length then (i, -7, nI th, 0, fr, it, en, v, nt, tb, nm, L, ps) else (i + 1, fa, me, 0, fr, it, en, v, nt ++ [v], tb, nm, L, ps)
def bClose : BS → BS := fun (i, fa, me, lv, fr, it, en, v, nt, tb, nm, L, ps) => (i + 1, fa, me, 0, fr, it, decide (nt.dropLast = []), nt.getLastD v, nt.dropLast, tb, nm, L, ps)
def bLetter (th code len : Nat) : BS → BS := fun (i, fa, me, lv, fr, it, en, v, nt, tb, nm, L, ps) => if lv ≠ 0 then (i + len, fa, me, lv - 1, fr, it, en, v, nt, tb, nm, L, ps) else if code < 32 then (i + len, -5, nI th, lv - 1, fr, it, en, v, nt, tb, nm, L, ps) else (i + len, fa, me, lv - 1, fr, it, en, v, nt, tb, nm, L ++ [(code, lkV v)], ps)
/-- to the end of the group -/
def pgE (T : List Nat) : Nat → Nat → Nat → Nat
  | 0, _, k => k
  | n + 1, q, k => if T.length ≤ k then k else if tc T k = 125 ∧ q = 0 then k else pgE T n (if tc T k = 123 then q + 1 else if tc T k = 125 then q - 1 else q) (k + (if tc T k = 92 then 2 else 1))
def bStar (T : List Nat) (b : Bool) : BS → BS := fun (i, fa, me, lv, fr, it, en, v, nt, tb, nm, L, ps) => if lv ≠ 0 then (i + 2, fa, me, lv - 1, fr, it, en, v, nt, tb, nm, L, ps) else if b then (pgE T (T.length - (i + 2)) 0 (i + 2), fa, me, lv - 1, fr, it, en, v, nt, tb, nm, L, ps) else (i + 2, fa, me, lv - 1, fr, it, en, v, nt, tb, nm, L, ps)
/-- the end of the small letters from k on -/
def slE (T : List Nat) : Nat → Nat → Nat
  | 0, k => k
  | n + 1, k => if smL (tc T k) then slE T n (k + 1) else k
/-- digits from k on: end, how many, value -/
def dgE (T : List Nat) : Nat → Nat → Nat → Nat → Nat × Nat × Nat
  | 0, k, d, x => (k, d, x)
  | n + 1, k, d, x => if dgL (tc T k) then dgE T n (k + 1) (d + 1) (if d + 1 ≤ 5 then 10 * x + (tc T k - 48) else x) else (k, d, x)
def nuK (T : List Nat) (k : Nat) : Nat := if tc T k = 45 then k + 1 else k
def nuX (T : List Nat) (k : Nat) : Nat × Nat × Nat := dgE T (T.length - nuK T k) (nuK T k) 0 0
/-- a number at k: where it ends, its digits, its value -/
def nuN (T : List Nat) (k : Nat) : Nat := if (nuX T k).2.1 = 0 then k else (nuX T k).1
def nuD (T : List Nat) (k : Nat) : Nat := (nuX T k).2.1
def nuV (T : List Nat) (k : Nat) : Int32 := if tc T k = 45 then - nI (nuX T k).2.2 else nI (nuX T k).2.2
def spT (k : Nat) : List Nat := if k = 1 then [98] else if k = 2 then [105] else if k = 3 then [117, 108] else if k = 4 then [102, 115] else if k = 5 then [99, 102] else if k = 6 then [112, 108, 97, 105, 110] else if k = 7 then [113, 108] else if k = 8 then [113, 99] else if k = 9 then [113, 114] else if k = 10 then [108, 105] else if k = 11 then [112, 97, 114, 100] else if k = 12 then [112, 97, 114] else if k = 13 then [117, 99] else if k = 14 then [117] else if k = 15 then [99, 111, 108, 111, 114, 116, 98, 108] else []
def wdf (T : List Nat) (u v : Nat) : Nat → Nat → Nat
  | 0, _ => 0
  | n + 1, k => if spl T u v (spT k) then k else wdf T u v n (k + 1)
/-- the word behind the backslash at k: its end, which it is, and where the next thing stands -/
def wdT (T : List Nat) (k : Nat) : Nat := slE T (T.length - (k + 1)) (k + 1)
def wdW (T : List Nat) (k : Nat) : Nat := wdf T (k + 1) (wdT T k) 15 1
def wdN (T : List Nat) (k : Nat) : Nat := if tc T (nuN T (wdT T k)) = 32 then nuN T (wdT T k) + 1 else nuN T (wdT T k)
def nfit (tb : List Nat) (w : Nat) (n : Int32) (d : Nat) : Bool := if w = 0 ∨ w = 15 then true else if 5 < d then false else if d = 0 then decide (w ≠ 14) else if w = 4 then wi n 1 99 else if w = 5 then decide (¬ (n < 0 ∨ nI tb.length ≤ n)) else if w = 10 then wi n 0 9 else if w = 13 then wi n 0 9 else if w = 14 then wi n 32 255 else true
def nuO (d : Nat) (n x : Int32) : Int32 := if d = 0 then x else n
def stS (m b : Nat) (off : Bool) : Nat := if off then (if m / b % 2 = 1 then m - b else m) else (if m / b % 2 = 1 then m else m + b)
def bPar (th x y : Nat) : BS → BS := fun (i, fa, me, lv, fr, it, en, v, nt, tb, nm, L, ps) => if 16 ≤ ps.length then (i, -8, nI th, lv, fr, it, en, v, nt, tb, nm, L, ps) else (i, fa, me, lv, fr, it, en, v, nt, tb, nm, L, ps ++ [(x, y, L.length)])
/-- the state after a word that only changes it -/
def vW (tb : List Nat) (v : Nat → Nat) (w : Nat) (n : Int32) (d : Nat) : Nat → Nat := if w = 1 then bp_u1 v 0 (stS (v 0) 1 (decide (nuO d n 1 = 0))) else if w = 2 then bp_u1 v 0 (stS (v 0) 2 (decide (nuO d n 1 = 0))) else if w = 3 then bp_u1 v 0 (stS (v 0) 4 (decide (nuO d n 1 = 0))) else if w = 4 then bp_u1 v 1 (nuO d n 12).toNatClampNeg else if w = 5 then bp_u1 v 2 (tb.getD (nuO d n 0).toNatClampNeg 0) else if w = 6 then vPlain v else if w = 7 then bp_u1 v 3 0 else if w = 8 then bp_u1 v 3 1 else if w = 9 then bp_u1 v 3 2 else if w = 10 then bp_u1 v 4 (nuO d n 0).toNatClampNeg else if w = 11 then bp_u1 (bp_u1 v 3 0) 4 0 else if w = 13 then bp_u1 v 5 (nuO d n 1).toNatClampNeg else v
def bObey (th : Nat) (b : Bool) (w : Nat) (n : Int32) (d : Nat) : BS → BS := fun (i, fa, me, lv, fr, it, en, v, nt, tb, nm, L, ps) => if lv ≠ 0 then (i, fa, me, lv - 1, fr, it, en, v, nt, tb, nm, L, ps) else if nfit tb w n d = false then (i, -5, nI th, lv - 1, fr, it, en, v, nt, tb, nm, L, ps) else if w = 12 then bPar th (v 3) (v 4) (i, fa, me, lv - 1, fr, it, en, v, nt, tb, nm, L, ps) else if w = 14 then (i, fa, me, v 5, fr, it, en, v, nt, tb, nm, L ++ [(n.toNatClampNeg, lkV v)], ps) else if w = 15 then (if b then (i, fa, me, lv - 1, fr, true, en, v, nt, [], [], L, ps) else (i, fa, me, lv - 1, fr, it, en, v, nt, tb, nm, L, ps)) else (i, fa, me, lv - 1, fr, it, en, vW tb v w n d, nt, tb, nm, L, ps)
def hxV (k : Nat) : Option Nat := if dgL k then some (k - 48) else if 97 ≤ k ∧ k ≤ 102 then some (k - 87) else none
def hxC (T : List Nat) (k : Nat) : Option Nat := match hxV (tc T k), hxV (tc T (k + 1)) with
  | some x, some y => some (16 * x + y)
  | _, _ => none
def bAt (j : Nat) : BS → BS := fun (_, σ) => (j, σ)
def bBack (T : List Nat) (th : Nat) (b : Bool) : BS → BS := fun σ =>
  if smL (tc T (σ.1 + 1)) then bObey th b (wdW T σ.1) (nuV T (wdT T σ.1)) (nuD T (wdT T σ.1)) (bAt (wdN T σ.1) σ)
  else if tc T (σ.1 + 1) = 39 ∧ (hxC T (σ.1 + 2)).isSome then bLetter th ((hxC T (σ.1 + 2)).getD 0) 4 σ
  else if tc T (σ.1 + 1) = 123 ∨ tc T (σ.1 + 1) = 125 ∨ tc T (σ.1 + 1) = 92 then bLetter th (tc T (σ.1 + 1)) 2 σ
  else if tc T (σ.1 + 1) = 126 then bLetter th 160 2 σ
  else if tc T (σ.1 + 1) = 42 then bStar T b σ
  else bFl (-4) th σ
def bTab (th x : Nat) : BS → BS := fun (i, fa, me, lv, fr, it, en, v, nt, tb, nm, L, ps) =>
  if smL x then (i + 1, fa, me, lv, fr, it, en, v, nt, tb, nm ++ [x], L, ps)
  else if x = 59 ∧ (enC tb nm).isSome ∧ tb.length < 8 then (i + 1, fa, me, lv, fr, it, en, v, nt, tb ++ [(enC tb nm).getD 0], [], L, ps)
  else if x = 125 then (if nm = [] then bClose (i, fa, me, lv, fr, false, en, v, nt, (if tb = [] then [0] else tb), nm, L, ps) else (i, -6, nI th, lv, fr, it, en, v, nt, (if tb = [] then [0] else tb), nm, L, ps))
  else (i, -6, nI th, lv, fr, it, en, v, nt, tb, nm, L, ps)
def bThing (T : List Nat) : BS → BS := fun (i, fa, me, lv, fr, it, en, v, nt, tb, nm, L, ps) =>
  if tc T i = 10 then (i + 1, fa, me, lv, fr, it, en, v, nt, tb, nm, L, ps)
  else if it then bTab i (tc T i) (i, fa, me, lv, fr, it, en, v, nt, tb, nm, L, ps)
  else if tc T i = 123 then bOpen i (i, fa, me, lv, true, it, en, v, nt, tb, nm, L, ps)
  else if tc T i = 125 then bClose (i, fa, me, lv, false, it, en, v, nt, tb, nm, L, ps)
  else if tc T i = 92 then bBack T i fr (i, fa, me, lv, false, it, en, v, nt, tb, nm, L, ps)
  else bLetter i (tc T i) 1 (i, fa, me, lv, false, it, en, v, nt, tb, nm, L, ps)
/-- from k on: the first that is not a character 10, or the end -/
def nlE (T : List Nat) : Nat → Nat → Nat
  | 0, k => k
  | n + 1, k => if tc T k = 10 then nlE T n (k + 1) else k
def bFin (T : List Nat) : BS → BS := fun (i, fa, me, lv, fr, it, en, v, nt, tb, nm, L, ps) =>
  if en = false then (i, -2, nI T.length, lv, fr, it, en, v, nt, tb, nm, L, ps)
  else if nlE T (T.length - i) i < T.length then (i, -3, nI (nlE T (T.length - i) i), lv, fr, it, en, v, nt, tb, nm, L, ps)
  else if pst ps ps.length < L.length then bPar T.length 0 0 (i, fa, me, lv, fr, it, en, v, nt, tb, nm, L, ps)
  else (i, fa, me, lv, fr, it, en, v, nt, tb, nm, L, ps)
def bStart (T nm : List Nat) : BS := if tc T 0 = 123 then (0, 0, -1, 0, false, false, false, vStart, [], [0], nm, [], []) else (0, -2, nI 0, 0, false, false, false, vStart, [], [0], nm, [], [])
/-- the whole reading, with as many things as n -/
def bRes (T : List Nat) : Nat → BS → BS
  | 0, σ => if σ.2.1 = 0 then bFin T σ else σ
  | n + 1, σ => if σ.2.1 ≠ 0 ∨ T.length ≤ σ.1 ∨ σ.2.2.2.2.2.2.1 = true then (if σ.2.1 = 0 then bFin T σ else σ) else bRes T n (bThing T σ)
/-! what always holds -/
def okV (v : Nat → Nat) : Prop := v 0 < 8 ∧ 1 ≤ v 1 ∧ v 1 < 100 ∧ v 2 < 8 ∧ v 3 < 3 ∧ v 4 < 10 ∧ v 5 < 10
def okX (T : List Nat) (i lv : Nat) (it : Bool) (v : Nat → Nat) (nt : List (Nat → Nat)) (tb nm : List Nat) (L : List (Nat × Nat)) (ps : List (Nat × Nat × Nat)) : Prop :=
  i ≤ T.length + 1 ∧ lv ≤ 9 ∧ okV v ∧ (∀ u ∈ nt, okV u) ∧ nt.length ≤ 12 ∧ (tb.length ≤ 8 ∧ (∀ x ∈ tb, x < 8) ∧ (it = false → tb ≠ [])) ∧ ((it = true → nm.length ≤ i) ∧ nm.length ≤ 400 ∧ ∀ x ∈ nm, x < 128) ∧ (L.length ≤ i ∧ L.length ≤ T.length) ∧ okP L ps
def okB (T : List Nat) : BS → Prop := fun (i, fa, me, lv, fr, it, en, v, nt, tb, nm, L, ps) => okX T i lv it v nt tb nm L ps
theorem okV_start : okV vStart := by unfold okV; decide
theorem okV_plain {v : Nat → Nat} (h : okV v) : okV (vPlain v) := ⟨show 0 < 8 by decide, show 1 ≤ 12 by decide, show 12 < 100 by decide, show 0 < 8 by decide, h.2.2.2.2.1, h.2.2.2.2.2.1, h.2.2.2.2.2.2⟩
theorem lkV_lt {v : Nat → Nat} (h : okV v) : lkV v < 6400 := by
  obtain ⟨h0, h1, h2, h3, -⟩ := h
  unfold lkV
  omega
theorem tc_in {T : List Nat} {k : Nat} (h : tc T k ≠ 0) : k < T.length := Nat.not_le.mp fun z => h (tc_out z)
theorem tc_in' {T : List Nat} {k x : Nat} (h : tc T k = x) (hx : x ≠ 0) : k < T.length := tc_in (by rw [h]; exact hx)
theorem sm_in {T : List Nat} {k : Nat} (h : smL (tc T k) = true) : k < T.length := tc_in (fun z => by rw [z] at h; exact absurd h (by decide))
theorem dg_in {T : List Nat} {k : Nat} (h : dgL (tc T k) = true) : k < T.length := tc_in (fun z => by rw [z] at h; exact absurd h (by decide))
theorem slE_in (T : List Nat) : ∀ n k, k ≤ T.length → k ≤ slE T n k ∧ slE T n k ≤ T.length
  | 0, k, h => ⟨Nat.le_refl _, h⟩
  | n + 1, k, h => by
    unfold slE
    split
    · rename_i z
      have := sm_in z
      have q := slE_in T n (k + 1) (by omega)
      omega
    · omega
theorem dgE_in (T : List Nat) : ∀ n k d x, k ≤ T.length → (dgE T n k d x).1 ≤ T.length ∧ (dgE T n k d x).1 + d = k + (dgE T n k d x).2.1
  | 0, k, d, x, h => ⟨h, rfl⟩
  | n + 1, k, d, x, h => by
    unfold dgE
    split
    · rename_i z
      have := dg_in z
      have q := dgE_in T n (k + 1) (d + 1) (if d + 1 ≤ 5 then 10 * x + (tc T k - 48) else x) (by omega)
      omega
    · exact ⟨h, rfl⟩
/-- a value of at most d digits -/
theorem dgE_v (T : List Nat) : ∀ n k d x, x < 10 ^ min d 5 → (dgE T n k d x).2.2 < 10 ^ min (dgE T n k d x).2.1 5
  | 0, k, d, x, h => h
  | n + 1, k, d, x, h => by
    unfold dgE
    split
    · rename_i z
      refine dgE_v T n (k + 1) (d + 1) _ ?_
      have h9 : tc T k ≤ 57 := by
        unfold dgL at z
        simp at z
        exact z.2
      by_cases hd : d + 1 ≤ 5
      · rw [if_pos hd, Nat.min_eq_left hd]
        rw [Nat.min_eq_left (by omega)] at h
        rw [Nat.pow_succ]
        omega
      · rw [if_neg hd]
        rw [Nat.min_eq_right (by omega)] at h ⊢
        exact h
    · exact h
theorem nuK_in {T : List Nat} {k : Nat} (h : k ≤ T.length) : nuK T k ≤ T.length ∧ k ≤ nuK T k := by
  unfold nuK
  split
  · rename_i z
    have := tc_in' z (by decide)
    omega
  · omega
theorem nuN_in {T : List Nat} {k : Nat} (h : k ≤ T.length) : k ≤ nuN T k ∧ nuN T k ≤ T.length := by
  have h1 := nuK_in h
  have h2 := dgE_in T (T.length - nuK T k) (nuK T k) 0 0 h1.1
  unfold nuN nuX
  split <;> omega
theorem nuX_lt (T : List Nat) (k : Nat) : (nuX T k).2.2 < 100000 := by
  have h := dgE_v T (T.length - nuK T k) (nuK T k) 0 0 (by decide)
  unfold nuX
  refine Nat.lt_of_lt_of_le h ?_
  exact Nat.pow_le_pow_right (by decide) (Nat.min_le_right _ _)
theorem nuX_0 {T : List Nat} {k : Nat} (h : nuD T k = 0) : (nuX T k).2.2 = 0 := by
  have q := dgE_v T (T.length - nuK T k) (nuK T k) 0 0 (by decide)
  have e : (dgE T (T.length - nuK T k) (nuK T k) 0 0).2.1 = 0 := h
  rw [e] at q
  unfold nuX
  simpa using q
theorem wdN_in {T : List Nat} {k : Nat} (h : smL (tc T (k + 1)) = true) : k + 1 < wdN T k ∧ wdN T k ≤ T.length := by
  have h1 := sm_in h
  have h2 : k + 1 < wdT T k ∧ wdT T k ≤ T.length := by
    unfold wdT
    obtain ⟨n, hn⟩ : ∃ n, T.length - (k + 1) = n + 1 := ⟨T.length - (k + 1) - 1, by omega⟩
    rw [hn]
    unfold slE
    rw [if_pos h]
    have := slE_in T n (k + 1 + 1) (by omega)
    omega
  have h3 := nuN_in h2.2
  unfold wdN
  split
  · rename_i z
    have := tc_in' z (by decide)
    omega
  · omega
theorem pgE_in (T : List Nat) : ∀ n q k, k ≤ pgE T n q k ∧ (k ≤ T.length + 1 → pgE T n q k ≤ T.length + 1)
  | 0, q, k => ⟨Nat.le_refl _, fun h => h⟩
  | n + 1, q, k => by
    unfold pgE
    split
    · exact ⟨Nat.le_refl _, fun h => h⟩
    · split
      · exact ⟨Nat.le_refl _, fun h => h⟩
      · have := pgE_in T n (if tc T k = 123 then q + 1 else if tc T k = 125 then q - 1 else q) (k + (if tc T k = 92 then 2 else 1))
        have e : (if tc T k = 92 then 2 else 1) ≤ 2 := by split <;> decide
        exact ⟨by omega, fun h => this.2 (by omega)⟩
