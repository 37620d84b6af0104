/-! a tagged reading, thing by thing: place, fault, where it was met, in a paragraph, open tags, where the run begins, it has a letter, it is ending, style, size, colour, letters, paragraphs -/
abbrev TS : Type := Nat × Int32 × Int32 × Bool × Nat × Nat × Bool × Bool × Nat × Nat × Nat × List (Nat × Nat) × List (Nat × Nat × Nat)
def tFl (k : Int32) (x : Nat) : TS → TS := fun (i, fa, me, ip, ot, rs, hl, ed, sy, sz, co, L, ps) => (i, k, nI x, ip, ot, rs, hl, ed, sy, sz, co, L, ps)
def tEnd : TS → TS := fun (i, fa, me, ip, ot, rs, hl, ed, sy, sz, co, L, ps) => (i, fa, me, ip, 0, rs, false, false, 0, 12, 0, L, ps)
/-- the look of the last letter of the last paragraph -/
def llk (L : List (Nat × Nat)) (ps : List (Nat × Nat × Nat)) : Option Nat := if pst ps (ps.length - 1) < p_e ps (ps.length - 1) then some ((lkL L).getD (p_e ps (ps.length - 1) - 1) 0) else none
def pLast (ps : List (Nat × Nat × Nat)) (e : Nat) : List (Nat × Nat × Nat) := ps.dropLast ++ [((ps.getLastD (0, 0, 0)).1, (ps.getLastD (0, 0, 0)).2.1, e)]
def tLetter (th x j : Nat) : TS → TS := fun (i, fa, me, ip, ot, rs, hl, ed, sy, sz, co, L, ps) =>
  if ip = false ∨ ed = true then (i, -9, nI th, ip, ot, rs, hl, ed, sy, sz, co, L, ps)
  else if ot ≠ 0 ∧ hl = false ∧ llk L ps = some (sy + 8 * co + 64 * sz) then (i, -10, nI rs, ip, ot, rs, hl, ed, sy, sz, co, L, ps)
  else (j, fa, me, ip, ot, rs, (if ot ≠ 0 then true else hl), ed, sy, sz, co, L ++ [(x, sy + 8 * co + 64 * sz)], pLast ps (L.length + 1))
def tgO (k : Nat) : Option Nat := if k = 98 then some 0 else if k = 105 then some 1 else if k = 117 then some 2 else if k = 115 then some 3 else if k = 99 then some 4 else none
def alA (T : List Nat) (k : Nat) : Nat := if tc T k = 67 then 1 else if tc T k = 82 then 2 else 0
def inA (T : List Nat) (k : Nat) : Nat := if 49 ≤ tc T k ∧ tc T k ≤ 57 then tc T k - 48 else 0
def bn1 (k : Nat) : Nat := if k = 0 then 0 else 1
/-- a paragraph tag whose text goes on at k -/
def tPar2 (T : List Nat) (th x y k : Nat) : TS → TS := fun (i, fa, me, ip, ot, rs, hl, ed, sy, sz, co, L, ps) =>
  if tc T k ≠ 62 ∨ ip = true then (i, -9, nI th, ip, ot, rs, hl, ed, sy, sz, co, L, ps)
  else if 16 ≤ ps.length then (i, -8, nI th, ip, ot, rs, hl, ed, sy, sz, co, L, ps)
  else (k + 1, fa, me, true, ot, rs, hl, ed, sy, sz, co, L, ps ++ [(x, y, L.length)])
def tPar (T : List Nat) (th : Nat) : TS → TS := fun σ =>
  if tc T (σ.1 + 2) = 32 then
    (if alA T (σ.1 + 3) = 0 ∧ inA T (σ.1 + 3 + bn1 (alA T (σ.1 + 3))) = 0 then tFl (-9) th σ
     else tPar2 T th (alA T (σ.1 + 3)) (inA T (σ.1 + 3 + bn1 (alA T (σ.1 + 3)))) (σ.1 + 3 + bn1 (alA T (σ.1 + 3)) + bn1 (inA T (σ.1 + 3 + bn1 (alA T (σ.1 + 3))))) σ)
  else tPar2 T th 0 0 (σ.1 + 2) σ
def tParE (th : Nat) : TS → TS := fun (i, fa, me, ip, ot, rs, hl, ed, sy, sz, co, L, ps) => if ip = false ∨ ot ≠ 0 then (i, -9, nI th, ip, ot, rs, hl, ed, sy, sz, co, L, ps) else (i + 4, fa, me, false, ot, rs, hl, ed, sy, sz, co, L, ps)
def tTagE (th g : Nat) : TS → TS := fun (i, fa, me, ip, ot, rs, hl, ed, sy, sz, co, L, ps) =>
  if ot / 2 ^ g = 1 then (if ot - 2 ^ g = 0 then (i + 4, fa, me, ip, 0, rs, false, false, 0, 12, 0, L, ps) else (i + 4, fa, me, ip, ot - 2 ^ g, rs, hl, true, sy, sz, co, L, ps))
  else (i, -9, nI th, ip, ot, rs, hl, ed, sy, sz, co, L, ps)
def tEndTag (T : List Nat) (th : Nat) : TS → TS := fun (i, fa, me, ip, ot, rs, hl, ed, sy, sz, co, L, ps) =>
  if tc T (i + 3) ≠ 62 ∨ (tc T (i + 2) ≠ 112 ∧ tgO (tc T (i + 2)) = none) then (i, -9, nI th, ip, ot, rs, hl, ed, sy, sz, co, L, ps)
  else if ot ≠ 0 ∧ hl = false then (i, -10, nI th, ip, ot, rs, hl, ed, sy, sz, co, L, ps)
  else if tc T (i + 2) = 112 then tParE th (i, fa, me, ip, ot, rs, hl, ed, sy, sz, co, L, ps)
  else tTagE th ((tgO (tc T (i + 2))).getD 0) (i, fa, me, ip, ot, rs, hl, ed, sy, sz, co, L, ps)
/-- up to n digits from k on: end and value -/
def dgT (T : List Nat) : Nat → Nat → Nat → Nat × Nat
  | 0, k, x => (k, x)
  | n + 1, k, x => if dgL (tc T k) then dgT T n (k + 1) (10 * x + (tc T k - 48)) else (k, x)
def tnE (T : List Nat) (k : Nat) : Nat := (dgT T 6 k 0).1
def tnV (T : List Nat) (k : Nat) : Nat := if tc T k = 48 then 4294967295 else (dgT T 6 k 0).2
def tnOk (T : List Nat) (k : Nat) : Bool := decide (k < tnE T k) && decide (tnE T k ≤ k + 5)
/-- where the > of a run's tag must stand -/
def rtE (T : List Nat) (i : Nat) (g : Option Nat) : Option Nat := if g = some 3 ∨ g = some 4 then (if tc T (i + 2) = 32 ∧ tnOk T (i + 3) = true then some (tnE T (i + 3)) else none) else some (i + 2)
def rtOk (T : List Nat) (i g : Nat) : Bool := match rtE T i (some g) with
  | some e => decide (tc T e = 62)
  | none => false
def lokO (g x : Nat) : Bool := if g = 3 then wi (nI x) 1 99 && decide (x ≠ 12) else if g = 4 then wi (nI x) 1 7 else true
def tRun (T : List Nat) (th : Nat) (g : Option Nat) : TS → TS := fun (i, fa, me, ip, ot, rs, hl, ed, sy, sz, co, L, ps) =>
  match g with
  | none => (i, -9, nI th, ip, ot, rs, hl, ed, sy, sz, co, L, ps)
  | some g =>
    if ip = false ∨ hl = true ∨ ot / 2 ^ g ≠ 0 ∨ rtOk T i g = false then (i, -9, nI th, ip, ot, rs, hl, ed, sy, sz, co, L, ps)
    else if lokO g (tnV T (i + 3)) = false then (i, -5, nI th, ip, ot, rs, hl, ed, sy, (if g = 3 then tnV T (i + 3) else sz), (if g = 4 then tnV T (i + 3) else co), L, ps)
    else ((rtE T i (some g)).getD 0 + 1, fa, me, ip, ot + 2 ^ g, (if ot = 0 then th else rs), hl, ed, (if g = 3 ∨ g = 4 then sy else stS sy (2 ^ g) false), (if g = 3 then tnV T (i + 3) else sz), (if g = 4 then tnV T (i + 3) else co), L, ps)
def tTag (T : List Nat) (th : Nat) : TS → TS := fun σ => if tc T (σ.1 + 1) = 112 then tPar T th σ else if tc T (σ.1 + 1) = 47 then tEndTag T th σ else tRun T th (tgO (tc T (σ.1 + 1))) σ
def tNamed (T : List Nat) (th : Nat) : TS → TS := fun (i, fa, me, ip, ot, rs, hl, ed, sy, sz, co, L, ps) =>
  if spl T i (i + 4) [38, 108, 116, 59] = true then tLetter th 60 (i + 4) (i, fa, me, ip, ot, rs, hl, ed, sy, sz, co, L, ps)
  else if spl T i (i + 4) [38, 103, 116, 59] = true then tLetter th 62 (i + 4) (i, fa, me, ip, ot, rs, hl, ed, sy, sz, co, L, ps)
  else if spl T i (i + 5) [38, 97, 109, 112, 59] = true then tLetter th 38 (i + 5) (i, fa, me, ip, ot, rs, hl, ed, sy, sz, co, L, ps)
  else if tnOk T (i + 1) = false ∨ tc T (tnE T (i + 1)) ≠ 59 ∨ ip = false ∨ ed = true then (i, -9, nI th, ip, ot, rs, hl, ed, sy, sz, co, L, ps)
  else if wi (nI (tnV T (i + 1))) 127 255 = false then (i, -5, nI th, ip, ot, rs, hl, ed, sy, sz, co, L, ps)
  else tLetter th (tnV T (i + 1)) (tnE T (i + 1) + 1) (i, fa, me, ip, ot, rs, hl, ed, sy, sz, co, L, ps)
def tThing (T : List Nat) : TS → TS := fun σ =>
  if tc T σ.1 = 60 then tTag T σ.1 σ else if tc T σ.1 = 38 then tNamed T σ.1 σ else if tc T σ.1 = 62 ∨ tc T σ.1 = 10 then tFl (-9) σ.1 σ else tLetter σ.1 (tc T σ.1) (σ.1 + 1) σ
def tFin (T : List Nat) : TS → TS := fun (i, fa, me, ip, ot, rs, hl, ed, sy, sz, co, L, ps) => if ip = true then (i, -9, nI T.length, ip, ot, rs, hl, ed, sy, sz, co, L, ps) else (i, fa, me, ip, ot, rs, hl, ed, sy, sz, co, L, ps)
def tStart (rs : Nat) : TS := (0, 0, -1, false, 0, rs, false, false, 0, 12, 0, [], [])
def tRes (T : List Nat) : Nat → TS → TS
  | 0, σ => if σ.2.1 = 0 then tFin T σ else σ
  | n + 1, σ => if σ.2.1 ≠ 0 ∨ T.length ≤ σ.1 then (if σ.2.1 = 0 then tFin T σ else σ) else tRes T n (tThing T σ)
/-! what always holds while there is no fault -/
def okY (T : List Nat) (i : Nat) (fa : Int32) (ip : Bool) (ot rs sy sz co : Nat) (L : List (Nat × Nat)) (ps : List (Nat × Nat × Nat)) : Prop :=
  i ≤ T.length ∧ ot < 32 ∧ rs ≤ 400 ∧ sy < 8 ∧ (fa = 0 → sz < 100 ∧ co < 8) ∧ (ip = true → ps ≠ []) ∧ pst ps ps.length = L.length ∧ (L.length ≤ i ∧ L.length ≤ T.length) ∧ okP L ps
def okU (T : List Nat) : TS → Prop := fun (i, fa, me, ip, ot, rs, hl, ed, sy, sz, co, L, ps) => okY T i fa ip ot rs sy sz co L ps
