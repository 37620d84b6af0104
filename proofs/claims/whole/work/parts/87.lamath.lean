/-! what the class does where the reference has looked ahead -/
def tB (ρ : TS) (f : Int32) (x : Nat) : Prop := ρ.2.1 = f ∧ ρ.2.2.1 = nI x
def TT (T : List Nat) (σ : TS) : TS := tRes T T.length σ
theorem TT_f {T : List Nat} {σ : TS} (h : σ.2.1 ≠ 0) : TT T σ = σ := by
  unfold TT
  cases T.length with
  | zero => exact if_neg h
  | succ k => exact (if_pos (Or.inl h)).trans (if_neg h)
theorem TT_step {T : List Nat} {σ : TS} (hC : okC T) (h : okU T σ) (hf : σ.2.1 = 0) (hi : σ.1 < T.length) : TT T σ = TT T (tThing T σ) := by
  obtain ⟨n, hn⟩ : ∃ n, T.length = n + 1 := ⟨T.length - 1, by omega⟩
  have z : ¬ (σ.2.1 ≠ 0 ∨ T.length ≤ σ.1) := by
    rintro (z | z)
    · exact z hf
    · omega
  have e : TT T σ = tRes T n (tThing T σ) := by
    unfold TT
    rw [hn]
    exact if_neg z
  have q := okU_thing hC.1 hC.2 h hf hi
  rw [e]
  rcases q.2 with y | y
  · exact tRes_enough hC.1 hC.2 n T.length _ q.1 (by omega) (by omega)
  · rw [TT_f y]
    cases n with
    | zero => exact if_neg y
    | succ k => exact (if_pos (Or.inl y)).trans (if_neg y)
theorem TT_fin {T : List Nat} {σ : TS} (hf : σ.2.1 = 0) (hi : T.length ≤ σ.1) : TT T σ = tFin T σ := by
  unfold TT
  cases T.length with
  | zero => exact if_pos hf
  | succ k =>
    show (if σ.2.1 ≠ 0 ∨ T.length ≤ σ.1 then _ else _) = _
    rw [if_pos (Or.inr hi), if_pos hf]
theorem TT_bad {T : List Nat} {σ : TS} {f : Int32} {x : Nat} (hC : okC T) (h : okU T σ) (hf : σ.2.1 = 0) (hi : σ.1 < T.length) (hb : tB (tThing T σ) f x) (hn : f ≠ 0) : tFa (TT T σ) = f ∧ tMe (TT T σ) = nI x := by
  rw [TT_step hC h hf hi, TT_f (by rw [hb.1]; exact hn)]
  exact hb
theorem dgN_wi {T : List Nat} {f lo hi bt : Nat} (h1 : lo ≤ hi) (h2 : hi < 100000) : (dgN T f lo hi bt = -1 ∧ (wi (nI (tnV T f)) (nI lo) (nI hi) && decide (tnV T f ≠ bt)) = false) ∨ (dgN T f lo hi bt = nI (tnV T f) ∧ lo ≤ tnV T f ∧ tnV T f ≤ hi ∧ tnV T f ≠ bt ∧ (wi (nI (tnV T f)) (nI lo) (nI hi) && decide (tnV T f ≠ bt)) = true) := by
  by_cases c : tc T f = 48 ∨ (dgT T 6 f 0).2 < lo ∨ hi < (dgT T 6 f 0).2 ∨ (dgT T 6 f 0).2 = bt
  · refine Or.inl ⟨if_pos c, ?_⟩
    rw [Bool.eq_false_iff]
    intro z
    rw [Bool.and_eq_true, decide_eq_true_eq] at z
    have q := wi_tn h1 h2 z.1
    have q2 := z.2
    unfold tnV at q q2
    by_cases e : tc T f = 48
    · rw [if_pos e] at q; omega
    · rw [if_neg e] at q q2; omega
  · have e : ¬ tc T f = 48 := fun z => c (Or.inl z)
    have eV : tnV T f = (dgT T 6 f 0).2 := if_neg e
    have q1 : lo ≤ (dgT T 6 f 0).2 := Nat.not_lt.mp (fun z => c (Or.inr (Or.inl z)))
    have q2 : (dgT T 6 f 0).2 ≤ hi := Nat.not_lt.mp (fun z => c (Or.inr (Or.inr (Or.inl z))))
    have q3 : ¬ (dgT T 6 f 0).2 = bt := fun z => c (Or.inr (Or.inr (Or.inr z)))
    refine Or.inr ⟨?_, ?_, ?_, ?_, ?_⟩
    · rw [eV]; exact if_neg c
    · rw [eV]; exact q1
    · rw [eV]; exact q2
    · rw [eV]; exact q3
    · rw [eV, wi_nI (by omega) (by omega) (by omega), decide_eq_true q1, decide_eq_true q2, decide_eq_true q3]; rfl
section LA
variable {T : List Nat} {i k e : Nat} {n fa me : Int32} {ip hl ed : Bool} {ot rs sy sz co : Nat} {L : List (Nat × Nat)} {ps : List (Nat × Nat × Nat)}
theorem spl2 {a b : Nat} (hz : nz [a, b] = true) : spl T i (i + 2) [a, b] = true ↔ tc T i = a ∧ tc T (i + 1) = b := by
  rw [spl_rd hz]; simp [rdB]
theorem spl3 {a b c : Nat} (hz : nz [a, b, c] = true) : spl T i (i + 3) [a, b, c] = true ↔ tc T i = a ∧ tc T (i + 1) = b ∧ tc T (i + 2) = c := by
  rw [spl_rd hz]; simp [rdB]
theorem spl4 {a b c d : Nat} (hz : nz [a, b, c, d] = true) : spl T i (i + 4) [a, b, c, d] = true ↔ tc T i = a ∧ tc T (i + 1) = b ∧ tc T (i + 2) = c ∧ tc T (i + 3) = d := by
  rw [spl_rd hz]; simp [rdB]
theorem LAr.le (h : LAr T i k n e) : k ≤ 14 := by
  rcases h with h | ⟨_, h | h | h | h | h | h | h | h | h | h | h | h | h | h⟩ <;> (have := h.1; omega)
theorem LAr.c0 (h : LAr T i 0 n e) : T.length ≤ i := by
  rcases h with h | ⟨_, h | h | h | h | h | h | h | h | h | h | h | h | h | h⟩ <;> first | exact absurd h.1 (by decide) | exact h.2
theorem LAr.in (h : LAr T i k n e) (hk : k ≠ 0) : i < T.length := by
  rcases h with h | h
  · exact absurd h.1 hk
  · exact h.1
theorem LAr.c1 (h : LAr T i 1 n e) : n = 0 ∧ e = i + 3 ∧ spl T i (i + 3) [60, 98, 62] = true := by
  rcases h with h | ⟨_, h | h | h | h | h | h | h | h | h | h | h | h | h | h⟩ <;> first | exact absurd h.1 (by decide) | exact h.2
theorem LAr.c2 (h : LAr T i 2 n e) : n = 0 ∧ e = i + 3 ∧ spl T i (i + 3) [60, 105, 62] = true := by
  rcases h with h | ⟨_, h | h | h | h | h | h | h | h | h | h | h | h | h | h⟩ <;> first | exact absurd h.1 (by decide) | exact h.2
theorem LAr.c3 (h : LAr T i 3 n e) : n = 0 ∧ e = i + 3 ∧ spl T i (i + 3) [60, 117, 62] = true := by
  rcases h with h | ⟨_, h | h | h | h | h | h | h | h | h | h | h | h | h | h⟩ <;> first | exact absurd h.1 (by decide) | exact h.2
theorem LAr.c4 (h : LAr T i 4 n e) : n = dgN T (i + 3) 1 99 12 ∧ e = tnE T (i + 3) + 1 ∧ spl T i (i + 3) [60, 115, 32] = true ∧ sDg T (i + 3) 62 := by
  rcases h with h | ⟨_, h | h | h | h | h | h | h | h | h | h | h | h | h | h⟩ <;> first | exact absurd h.1 (by decide) | exact h.2
theorem LAr.c5 (h : LAr T i 5 n e) : n = dgN T (i + 3) 1 7 0 ∧ e = tnE T (i + 3) + 1 ∧ spl T i (i + 3) [60, 99, 32] = true ∧ sDg T (i + 3) 62 := by
  rcases h with h | ⟨_, h | h | h | h | h | h | h | h | h | h | h | h | h | h⟩ <;> first | exact absurd h.1 (by decide) | exact h.2
theorem LAr.c6 (h : LAr T i 6 n e) : n = 0 ∧ e = i + 4 ∧ spl T i (i + 4) [60, 47, 98, 62] = true := by
  rcases h with h | ⟨_, h | h | h | h | h | h | h | h | h | h | h | h | h | h⟩ <;> first | exact absurd h.1 (by decide) | exact h.2
theorem LAr.c7 (h : LAr T i 7 n e) : n = 0 ∧ e = i + 4 ∧ spl T i (i + 4) [60, 47, 105, 62] = true := by
  rcases h with h | ⟨_, h | h | h | h | h | h | h | h | h | h | h | h | h | h⟩ <;> first | exact absurd h.1 (by decide) | exact h.2
theorem LAr.c8 (h : LAr T i 8 n e) : n = 0 ∧ e = i + 4 ∧ spl T i (i + 4) [60, 47, 117, 62] = true := by
  rcases h with h | ⟨_, h | h | h | h | h | h | h | h | h | h | h | h | h | h⟩ <;> first | exact absurd h.1 (by decide) | exact h.2
theorem LAr.c9 (h : LAr T i 9 n e) : n = 0 ∧ e = i + 4 ∧ spl T i (i + 4) [60, 47, 115, 62] = true := by
  rcases h with h | ⟨_, h | h | h | h | h | h | h | h | h | h | h | h | h | h⟩ <;> first | exact absurd h.1 (by decide) | exact h.2
theorem LAr.c10 (h : LAr T i 10 n e) : n = 0 ∧ e = i + 4 ∧ spl T i (i + 4) [60, 47, 99, 62] = true := by
  rcases h with h | ⟨_, h | h | h | h | h | h | h | h | h | h | h | h | h | h⟩ <;> first | exact absurd h.1 (by decide) | exact h.2
theorem LAr.c11 (h : LAr T i 11 n e) : n = 0 ∧ e = i + 4 ∧ spl T i (i + 4) [60, 47, 112, 62] = true := by
  rcases h with h | ⟨_, h | h | h | h | h | h | h | h | h | h | h | h | h | h⟩ <;> first | exact absurd h.1 (by decide) | exact h.2
theorem LAr.c12 (h : LAr T i 12 n e) : hdOk T i ∧ n = nI (10 * hdX T i + hdY T i) ∧ e = hdK T i + 1 := by
  rcases h with h | ⟨_, h | h | h | h | h | h | h | h | h | h | h | h | h | h⟩ <;> first | exact absurd h.1 (by decide) | exact h.2
theorem LAr.c13 (h : LAr T i 13 n e) : ltR T i n e := by
  rcases h with h | ⟨_, h | h | h | h | h | h | h | h | h | h | h | h | h | h⟩ <;> first | exact absurd h.1 (by decide) | exact h.2
theorem LAr.c14 (h : LAr T i 14 n e) : (spl T i (i + 3) [60, 98, 62] = false ∧ spl T i (i + 3) [60, 105, 62] = false ∧ spl T i (i + 3) [60, 117, 62] = false ∧ spl T i (i + 4) [60, 47, 98, 62] = false ∧ spl T i (i + 4) [60, 47, 105, 62] = false ∧ spl T i (i + 4) [60, 47, 117, 62] = false ∧ spl T i (i + 4) [60, 47, 115, 62] = false ∧ spl T i (i + 4) [60, 47, 99, 62] = false ∧ spl T i (i + 4) [60, 47, 112, 62] = false) ∧ ¬ (spl T i (i + 3) [60, 115, 32] = true ∧ sDg T (i + 3) 62) ∧ ¬ (spl T i (i + 3) [60, 99, 32] = true ∧ sDg T (i + 3) 62) ∧ ¬ hdOk T i ∧ ltN T i := by
  rcases h with h | ⟨_, h | h | h | h | h | h | h | h | h | h | h | h | h | h⟩ <;> first | exact absurd h.1 (by decide) | exact h.2
/-! run tags -/
theorem tT_g (h : tc T i = 60) (h1 : tc T (i + 1) ≠ 112) (h2 : tc T (i + 1) ≠ 47) : tThing T (i, fa, me, ip, ot, rs, hl, ed, sy, sz, co, L, ps) = tRun T i (tgO (tc T (i + 1))) (i, fa, me, ip, ot, rs, hl, ed, sy, sz, co, L, ps) := (if_pos h).trans ((if_neg h1).trans (if_neg h2))
theorem tT_e (h : tc T i = 60) (h2 : tc T (i + 1) = 47) : tThing T (i, fa, me, ip, ot, rs, hl, ed, sy, sz, co, L, ps) = tEndTag T i (i, fa, me, ip, ot, rs, hl, ed, sy, sz, co, L, ps) := (if_pos h).trans ((if_neg (by rw [h2]; decide)).trans (if_pos h2))
theorem tT_p (h : tc T i = 60) (h1 : tc T (i + 1) = 112) : tThing T (i, fa, me, ip, ot, rs, hl, ed, sy, sz, co, L, ps) = tPar T i (i, fa, me, ip, ot, rs, hl, ed, sy, sz, co, L, ps) := (if_pos h).trans (if_pos h1)
theorem tRun_u {g : Nat} : tRun T i (some g) (i, fa, me, ip, ot, rs, hl, ed, sy, sz, co, L, ps) = (if ip = false ∨ hl = true ∨ ot / 2 ^ g ≠ 0 ∨ rtOk T i g = false then (i, -9, nI i, ip, ot, rs, hl, ed, sy, sz, co, L, ps)
    else if lokO g (tnV T (i + 3)) = false then (i, -5, nI i, ip, ot, rs, hl, ed, sy, (if g = 3 then tnV T (i + 3) else sz), (if g = 4 then tnV T (i + 3) else co), L, ps)
    else ((rtE T i (some g)).getD 0 + 1, fa, me, ip, ot + 2 ^ g, (if ot = 0 then i else rs), hl, ed, (if g = 3 ∨ g = 4 then sy else stS sy (2 ^ g) false), (if g = 3 then tnV T (i + 3) else sz), (if g = 4 then tnV T (i + 3) else co), L, ps)) := rfl
def RTg (T : List Nat) (i g : Nat) (n : Int32) (e : Nat) : Prop := i < T.length ∧ tc T i = 60 ∧ tgO (tc T (i + 1)) = some g ∧ tc T (i + 1) ≠ 112 ∧ tc T (i + 1) ≠ 47 ∧ rtOk T i g = true ∧ (rtE T i (some g)).getD 0 + 1 = e ∧ ((n < 0 ∧ lokO g (tnV T (i + 3)) = false) ∨ (¬ n < 0 ∧ lokO g (tnV T (i + 3)) = true ∧ (g = 3 → n = nI (tnV T (i + 3)) ∧ 1 ≤ tnV T (i + 3) ∧ tnV T (i + 3) ≤ 99 ∧ tnV T (i + 3) ≠ 12) ∧ (g = 4 → n = nI (tnV T (i + 3)) ∧ 1 ≤ tnV T (i + 3) ∧ tnV T (i + 3) ≤ 7)))
theorem LAr.run0 {g ch : Nat} (hi : i < T.length) (hg : g < 3) (hn : n = 0) (he : e = i + 3) (hs : tc T i = 60 ∧ tc T (i + 1) = ch ∧ tc T (i + 2) = 62) (h1 : tgO ch = some g) (h2 : ch ≠ 112) (h3 : ch ≠ 47) : RTg T i g n e := by
  have hE : rtE T i (some g) = some (i + 2) := if_neg (by rintro (z | z) <;> (injection z; omega))
  refine ⟨hi, hs.1, by rw [hs.2.1]; exact h1, by rw [hs.2.1]; exact h2, by rw [hs.2.1]; exact h3, ?_, by rw [hE, he]; rfl, Or.inr ⟨by rw [hn]; decide, ?_, fun z => by omega, fun z => by omega⟩⟩
  · unfold rtOk; rw [hE]; exact decide_eq_true hs.2.2
  · unfold lokO; rw [if_neg (by omega), if_neg (by omega)]
theorem LAr.run (h : LAr T i k n e) (h1 : 1 ≤ k) (h5 : k ≤ 5) : RTg T i (k - 1) n e := by
  have hi := h.in (by omega)
  have c : k = 1 ∨ k = 2 ∨ k = 3 ∨ k = 4 ∨ k = 5 := by omega
  rcases c with c | c | c | c | c <;> subst c
  · have q := h.c1
    exact LAr.run0 hi (by decide) q.1 q.2.1 ((spl3 rfl).mp q.2.2) rfl (by decide) (by decide)
  · have q := h.c2
    exact LAr.run0 hi (by decide) q.1 q.2.1 ((spl3 rfl).mp q.2.2) rfl (by decide) (by decide)
  · have q := h.c3
    exact LAr.run0 hi (by decide) q.1 q.2.1 ((spl3 rfl).mp q.2.2) rfl (by decide) (by decide)
  · obtain ⟨q1, q2, q3, q4, q5⟩ := h.c4
    have hs := (spl3 rfl).mp q3
    have hE : rtE T i (some 3) = some (tnE T (i + 3)) := (if_pos (Or.inl rfl)).trans (if_pos ⟨hs.2.2, q4⟩)
    refine ⟨hi, hs.1, by rw [hs.2.1]; rfl, by rw [hs.2.1]; decide, by rw [hs.2.1]; decide, ?_, ?_, ?_⟩
    · show rtOk T i 3 = true
      unfold rtOk; rw [hE]; exact decide_eq_true q5
    · show (rtE T i (some 3)).getD 0 + 1 = e
      rw [hE, q2]; rfl
    · rcases dgN_wi (T := T) (f := i + 3) (lo := 1) (hi := 99) (bt := 12) (by decide) (by decide) with z | z
      · exact Or.inl ⟨by rw [q1, z.1]; decide, z.2⟩
      · exact Or.inr ⟨by rw [q1, z.1]; exact nI_pos (by omega), z.2.2.2.2, fun _ => ⟨by rw [q1, z.1], z.2.1, z.2.2.1, z.2.2.2.1⟩, fun w => absurd w (by decide)⟩
  · obtain ⟨q1, q2, q3, q4, q5⟩ := h.c5
    have hs := (spl3 rfl).mp q3
    have hE : rtE T i (some 4) = some (tnE T (i + 3)) := (if_pos (Or.inr rfl)).trans (if_pos ⟨hs.2.2, q4⟩)
    refine ⟨hi, hs.1, by rw [hs.2.1]; rfl, by rw [hs.2.1]; decide, by rw [hs.2.1]; decide, ?_, ?_, ?_⟩
    · show rtOk T i 4 = true
      unfold rtOk; rw [hE]; exact decide_eq_true q5
    · show (rtE T i (some 4)).getD 0 + 1 = e
      rw [hE, q2]; rfl
    · rcases dgN_wi (T := T) (f := i + 3) (lo := 1) (hi := 7) (bt := 0) (by decide) (by decide) with z | z
      · refine Or.inl ⟨by rw [q1, z.1]; decide, ?_⟩
        show wi (nI (tnV T (i + 3))) 1 7 = false
        rw [Bool.eq_false_iff]
        intro y
        have y2 := wi_tn (T := T) (k := i + 3) (x := 1) (y := 7) (by decide) (by decide) y
        have := z.2
        rw [show wi (nI (tnV T (i + 3))) (nI 1) (nI 7) = true from y, decide_eq_true (show tnV T (i + 3) ≠ 0 by omega)] at this
        cases this
      · refine Or.inr ⟨by rw [q1, z.1]; exact nI_pos (by omega), ?_, fun w => absurd w (by decide), fun _ => ⟨by rw [q1, z.1], z.2.1, z.2.2.1⟩⟩
        have := z.2.2.2.2
        rw [Bool.and_eq_true] at this
        exact this.1
theorem RTg.no {g : Nat} (h : RTg T i g n e) (hb : ip = false ∨ hl = true ∨ ot / 2 ^ g ≠ 0) : tB (tThing T (i, fa, me, ip, ot, rs, hl, ed, sy, sz, co, L, ps)) (-9) i := by
  rw [tT_g h.2.1 h.2.2.2.1 h.2.2.2.2.1, h.2.2.1, tRun_u, if_pos (by rcases hb with z | z | z; exact Or.inl z; exact Or.inr (Or.inl z); exact Or.inr (Or.inr (Or.inl z)))]
  exact ⟨rfl, rfl⟩
theorem RTg.c {g : Nat} (h : RTg T i g n e) (h1 : ip = true) (h2 : hl = false) (h3 : ot / 2 ^ g = 0) : ¬ (ip = false ∨ hl = true ∨ ot / 2 ^ g ≠ 0 ∨ rtOk T i g = false) := by
  rintro (z | z | z | z)
  · rw [h1] at z; cases z
  · rw [h2] at z; cases z
  · exact z h3
  · rw [h.2.2.2.2.2.1] at z; cases z
theorem RTg.f5 {g : Nat} (h : RTg T i g n e) (h1 : ip = true) (h2 : hl = false) (h3 : ot / 2 ^ g = 0) (hn : n < 0) : tB (tThing T (i, fa, me, ip, ot, rs, hl, ed, sy, sz, co, L, ps)) (-5) i := by
  have hlk : lokO g (tnV T (i + 3)) = false := by
    rcases h.2.2.2.2.2.2.2 with z | z
    · exact z.2
    · exact absurd hn z.1
  rw [tT_g h.2.1 h.2.2.2.1 h.2.2.2.2.1, h.2.2.1, tRun_u, if_neg (h.c h1 h2 h3), if_pos hlk]
  exact ⟨rfl, rfl⟩
theorem RTg.ok {g : Nat} (h : RTg T i g n e) (h1 : ip = true) (h2 : hl = false) (h3 : ot / 2 ^ g = 0) (hn : ¬ n < 0) : tThing T (i, fa, me, ip, ot, rs, hl, ed, sy, sz, co, L, ps) = (e, fa, me, ip, ot + 2 ^ g, (if ot = 0 then i else rs), hl, ed, (if g = 3 ∨ g = 4 then sy else stS sy (2 ^ g) false), (if g = 3 then tnV T (i + 3) else sz), (if g = 4 then tnV T (i + 3) else co), L, ps) := by
  have hlk : lokO g (tnV T (i + 3)) = true := by
    rcases h.2.2.2.2.2.2.2 with z | z
    · exact absurd z.1 hn
    · exact z.2.1
  rw [tT_g h.2.1 h.2.2.2.1 h.2.2.2.2.1, h.2.2.1, tRun_u, if_neg (h.c h1 h2 h3), if_neg (by rw [hlk]; decide), h.2.2.2.2.2.2.1]
/-! end tags -/
theorem tEnd_u : tEndTag T i (i, fa, me, ip, ot, rs, hl, ed, sy, sz, co, L, ps) = (if tc T (i + 3) ≠ 62 ∨ (tc T (i + 2) ≠ 112 ∧ tgO (tc T (i + 2)) = none) then (i, -9, nI i, ip, ot, rs, hl, ed, sy, sz, co, L, ps)
  else if ot ≠ 0 ∧ hl = false then (i, -10, nI i, ip, ot, rs, hl, ed, sy, sz, co, L, ps)
  else if tc T (i + 2) = 112 then tParE i (i, fa, me, ip, ot, rs, hl, ed, sy, sz, co, L, ps)
  else tTagE i ((tgO (tc T (i + 2))).getD 0) (i, fa, me, ip, ot, rs, hl, ed, sy, sz, co, L, ps)) := rfl
theorem LAr.end0 {g ch : Nat} (hs : tc T i = 60 ∧ tc T (i + 1) = 47 ∧ tc T (i + 2) = ch ∧ tc T (i + 3) = 62) (h1 : tgO ch = some g) (h2 : ch ≠ 112) : tThing T (i, fa, me, ip, ot, rs, hl, ed, sy, sz, co, L, ps) = (if ot ≠ 0 ∧ hl = false then (i, -10, nI i, ip, ot, rs, hl, ed, sy, sz, co, L, ps) else tTagE i g (i, fa, me, ip, ot, rs, hl, ed, sy, sz, co, L, ps)) := by
  rw [tT_e hs.1 hs.2.1, tEnd_u, hs.2.2.1, hs.2.2.2, if_neg (by rintro (z | z); exact z rfl; rw [h1] at z; cases z.2), if_neg h2, h1]
  rfl
theorem LAr.tagE (h : LAr T i k n e) (h1 : 6 ≤ k) (h5 : k ≤ 10) : n = 0 ∧ e = i + 4 ∧ tThing T (i, fa, me, ip, ot, rs, hl, ed, sy, sz, co, L, ps) = (if ot ≠ 0 ∧ hl = false then (i, -10, nI i, ip, ot, rs, hl, ed, sy, sz, co, L, ps) else tTagE i (k - 6) (i, fa, me, ip, ot, rs, hl, ed, sy, sz, co, L, ps)) := by
  have c : k = 6 ∨ k = 7 ∨ k = 8 ∨ k = 9 ∨ k = 10 := by omega
  rcases c with c | c | c | c | c <;> subst c
  · have q := h.c6
    exact ⟨q.1, q.2.1, LAr.end0 ((spl4 rfl).mp q.2.2) rfl (by decide)⟩
  · have q := h.c7
    exact ⟨q.1, q.2.1, LAr.end0 ((spl4 rfl).mp q.2.2) rfl (by decide)⟩
  · have q := h.c8
    exact ⟨q.1, q.2.1, LAr.end0 ((spl4 rfl).mp q.2.2) rfl (by decide)⟩
  · have q := h.c9
    exact ⟨q.1, q.2.1, LAr.end0 ((spl4 rfl).mp q.2.2) rfl (by decide)⟩
  · have q := h.c10
    exact ⟨q.1, q.2.1, LAr.end0 ((spl4 rfl).mp q.2.2) rfl (by decide)⟩
theorem LAr.parE (h : LAr T i 11 n e) : n = 0 ∧ e = i + 4 ∧ tThing T (i, fa, me, ip, ot, rs, hl, ed, sy, sz, co, L, ps) = (if ot ≠ 0 ∧ hl = false then (i, -10, nI i, ip, ot, rs, hl, ed, sy, sz, co, L, ps) else tParE i (i, fa, me, ip, ot, rs, hl, ed, sy, sz, co, L, ps)) := by
  have q := h.c11
  have hs := (spl4 rfl).mp q.2.2
  refine ⟨q.1, q.2.1, ?_⟩
  rw [tT_e hs.1 hs.2.1, tEnd_u, if_neg (by rintro (z | z); exact z hs.2.2.2; exact z.1 hs.2.2.1), if_pos hs.2.2.1]
/-! paragraph heads -/
theorem tPar2_u {x y k : Nat} : tPar2 T i x y k (i, fa, me, ip, ot, rs, hl, ed, sy, sz, co, L, ps) = (if tc T k ≠ 62 ∨ ip = true then (i, -9, nI i, ip, ot, rs, hl, ed, sy, sz, co, L, ps)
  else if 16 ≤ ps.length then (i, -8, nI i, ip, ot, rs, hl, ed, sy, sz, co, L, ps)
  else (k + 1, fa, me, true, ot, rs, hl, ed, sy, sz, co, L, ps ++ [(x, y, L.length)])) := rfl
theorem tPar_hd : tPar T i (i, fa, me, ip, ot, rs, hl, ed, sy, sz, co, L, ps) = (if tc T (i + 2) = 32 ∧ hdX T i = 0 ∧ hdY T i = 0 then (i, -9, nI i, ip, ot, rs, hl, ed, sy, sz, co, L, ps) else tPar2 T i (hdX T i) (hdY T i) (hdK T i) (i, fa, me, ip, ot, rs, hl, ed, sy, sz, co, L, ps)) := by
  by_cases c : tc T (i + 2) = 32
  · have e1 : hdX T i = alA T (i + 3) := if_pos c
    have e2 : hdY T i = inA T (i + 3 + bn1 (alA T (i + 3))) := if_pos c
    have e3 : hdK T i = i + 3 + bn1 (alA T (i + 3)) + bn1 (inA T (i + 3 + bn1 (alA T (i + 3)))) := if_pos c
    rw [e1, e2, e3]
    refine (if_pos c).trans ?_
    by_cases d : alA T (i + 3) = 0 ∧ inA T (i + 3 + bn1 (alA T (i + 3))) = 0
    · exact (if_pos d).trans (if_pos ⟨c, d⟩).symm
    · exact (if_neg d).trans (if_neg (fun z => d z.2)).symm
  · have e1 : hdX T i = 0 := if_neg c
    have e2 : hdY T i = 0 := if_neg c
    have e3 : hdK T i = i + 2 := if_neg c
    rw [e1, e2, e3, if_neg (fun z => c z.1)]
    exact if_neg c
theorem hdX_lt : hdX T i < 3 := by
  unfold hdX
  split
  · exact alA_lt _
  · decide
theorem hdY_lt : hdY T i < 10 := by
  unfold hdY
  split
  · exact inA_lt _
  · decide
theorem LAr.head (h : LAr T i 12 n e) : n = nI (10 * hdX T i + hdY T i) ∧ e = hdK T i + 1 ∧ tThing T (i, fa, me, ip, ot, rs, hl, ed, sy, sz, co, L, ps) = (if ip = true then (i, -9, nI i, ip, ot, rs, hl, ed, sy, sz, co, L, ps) else if 16 ≤ ps.length then (i, -8, nI i, ip, ot, rs, hl, ed, sy, sz, co, L, ps) else (e, fa, me, true, ot, rs, hl, ed, sy, sz, co, L, ps ++ [(hdX T i, hdY T i, L.length)])) := by
  obtain ⟨⟨q1, q2, q3⟩, q4, q5⟩ := h.c12
  have hs := (spl2 rfl).mp q1
  refine ⟨q4, q5, ?_⟩
  rw [tT_p hs.1 hs.2, tPar_hd, if_neg q2, tPar2_u, q5]
  by_cases c : ip = true
  · rw [if_pos (Or.inr c), if_pos c]
  · rw [if_neg (by rintro (z | z); exact z q3; exact c z), if_neg c]
/-! letters -/
theorem tNm_u : tNamed T i (i, fa, me, ip, ot, rs, hl, ed, sy, sz, co, L, ps) = (if sLt T i = true then tLetter i 60 (i + 4) (i, fa, me, ip, ot, rs, hl, ed, sy, sz, co, L, ps)
  else if sGt T i = true then tLetter i 62 (i + 4) (i, fa, me, ip, ot, rs, hl, ed, sy, sz, co, L, ps)
  else if sAm T i = true then tLetter i 38 (i + 5) (i, fa, me, ip, ot, rs, hl, ed, sy, sz, co, L, ps)
  else if tnOk T (i + 1) = false ∨ tc T (tnE T (i + 1)) ≠ 59 ∨ ip = false ∨ ed = true then (i, -9, nI i, ip, ot, rs, hl, ed, sy, sz, co, L, ps)
  else if wi (nI (tnV T (i + 1))) 127 255 = false then (i, -5, nI i, ip, ot, rs, hl, ed, sy, sz, co, L, ps)
  else tLetter i (tnV T (i + 1)) (tnE T (i + 1) + 1) (i, fa, me, ip, ot, rs, hl, ed, sy, sz, co, L, ps)) := rfl
theorem tLt_u {x j : Nat} : tLetter i x j (i, fa, me, ip, ot, rs, hl, ed, sy, sz, co, L, ps) = (if ip = false ∨ ed = true then (i, -9, nI i, ip, ot, rs, hl, ed, sy, sz, co, L, ps)
  else if ot ≠ 0 ∧ hl = false ∧ llk L ps = some (sy + 8 * co + 64 * sz) then (i, -10, nI rs, ip, ot, rs, hl, ed, sy, sz, co, L, ps)
  else (j, fa, me, ip, ot, rs, (if ot ≠ 0 then true else hl), ed, sy, sz, co, L ++ [(x, sy + 8 * co + 64 * sz)], pLast ps (L.length + 1))) := rfl
theorem tLt_no {x j : Nat} (h : ip = false ∨ ed = true) : tB (tLetter i x j (i, fa, me, ip, ot, rs, hl, ed, sy, sz, co, L, ps)) (-9) i := by
  rw [tLt_u, if_pos h]; exact ⟨rfl, rfl⟩
theorem tT_38 (h : tc T i = 38) : tThing T (i, fa, me, ip, ot, rs, hl, ed, sy, sz, co, L, ps) = tNamed T i (i, fa, me, ip, ot, rs, hl, ed, sy, sz, co, L, ps) := (if_neg (by show ¬ tc T i = 60; omega)).trans (if_pos h)
theorem LAr.letter (hC : okC T) (h : LAr T i 13 n e) : (ip = false ∨ ed = true → tB (tThing T (i, fa, me, ip, ot, rs, hl, ed, sy, sz, co, L, ps)) (-9) i) ∧ (n < 0 → ¬ (ip = false ∨ ed = true) → tB (tThing T (i, fa, me, ip, ot, rs, hl, ed, sy, sz, co, L, ps)) (-5) i) ∧ (¬ n < 0 → ¬ (ip = false ∨ ed = true) → ∃ x, n = nI x ∧ 32 ≤ x ∧ x < 256 ∧ tThing T (i, fa, me, ip, ot, rs, hl, ed, sy, sz, co, L, ps) = tLetter i x e (i, fa, me, ip, ot, rs, hl, ed, sy, sz, co, L, ps)) := by
  have hi := h.in (by decide)
  have hlt := tc_lt hC.1 i
  obtain ⟨nC, q | ⟨q0, q⟩⟩ := h.c13
  · obtain ⟨q1, q2, q3⟩ := q
    have e0 : tThing T (i, fa, me, ip, ot, rs, hl, ed, sy, sz, co, L, ps) = tLetter i (tc T i) (i + 1) (i, fa, me, ip, ot, rs, hl, ed, sy, sz, co, L, ps) := (if_neg (fun z => nC (Or.inr (Or.inl z)))).trans ((if_neg q1).trans (if_neg (by rintro (z | z); exact nC (Or.inr (Or.inr (Or.inl z))); exact nC (Or.inr (Or.inr (Or.inr z))))))
    rw [e0]
    refine ⟨fun z => tLt_no z, fun z _ => ?_, fun _ _ => ⟨tc T i, q2, ?_, by omega, by rw [q3]⟩⟩
    · rw [q2] at z; exact absurd z (nI_pos (by omega))
    · exact (hC.2 i hi).resolve_left (fun z => nC (Or.inr (Or.inr (Or.inr z))))
  · rw [tT_38 q0, tNm_u]
    rcases q with ⟨a1, a2, a3⟩ | ⟨a0, a1, a2, a3⟩ | ⟨a0, a01, a1, a2, a3⟩ | ⟨a0, a01, a02, a1, a2, a3⟩
    · rw [if_pos a1]
      exact ⟨fun z => tLt_no z, fun z _ => by rw [a2] at z; exact absurd z (by decide), fun _ _ => ⟨60, a2, by decide, by decide, by rw [a3]⟩⟩
    · rw [if_neg (by rw [a0]; decide), if_pos a1]
      exact ⟨fun z => tLt_no z, fun z _ => by rw [a2] at z; exact absurd z (by decide), fun _ _ => ⟨62, a2, by decide, by decide, by rw [a3]⟩⟩
    · rw [if_neg (by rw [a0]; decide), if_neg (by rw [a01]; decide), if_pos a1]
      exact ⟨fun z => tLt_no z, fun z _ => by rw [a2] at z; exact absurd z (by decide), fun _ _ => ⟨38, a2, by decide, by decide, by rw [a3]⟩⟩
    · rw [if_neg (by rw [a0]; decide), if_neg (by rw [a01]; decide), if_neg (by rw [a02]; decide)]
      have hno : ¬ (ip = false ∨ ed = true) → ¬ (tnOk T (i + 1) = false ∨ tc T (tnE T (i + 1)) ≠ 59 ∨ ip = false ∨ ed = true) := fun z => by
        rintro (y | y | y)
        · rw [a1.1] at y; cases y
        · exact y a1.2
        · exact z y
      refine ⟨fun z => ?_, fun z y => ?_, fun z y => ?_⟩
      · rw [if_pos (Or.inr (Or.inr z))]; exact ⟨rfl, rfl⟩
      · rw [if_neg (hno y)]
        rcases dgN_wi (T := T) (f := i + 1) (lo := 127) (hi := 255) (bt := 0) (by decide) (by decide) with w | w
        · have : wi (nI (tnV T (i + 1))) 127 255 = false := by
            rw [Bool.eq_false_iff]
            intro u
            have u2 := wi_tn (T := T) (k := i + 1) (x := 127) (y := 255) (by decide) (by decide) u
            have := w.2
            rw [show wi (nI (tnV T (i + 1))) (nI 127) (nI 255) = true from u, decide_eq_true (show tnV T (i + 1) ≠ 0 by omega)] at this
            cases this
          rw [if_pos this]; exact ⟨rfl, rfl⟩
        · rw [a2, w.1] at z; exact absurd z (nI_pos (by omega))
      · rw [if_neg (hno y)]
        rcases dgN_wi (T := T) (f := i + 1) (lo := 127) (hi := 255) (bt := 0) (by decide) (by decide) with w | w
        · rw [a2, w.1] at z; exact absurd (by decide) z
        · have w5 := w.2.2.2.2
          rw [Bool.and_eq_true] at w5
          rw [if_neg (by rw [show wi (nI (tnV T (i + 1))) 127 255 = true from w5.1]; decide)]
          exact ⟨tnV T (i + 1), by rw [a2, w.1], by omega, by omega, by rw [a3]⟩
/-! nothing stands there -/
theorem LAr.none_ (hC : okC T) (h : LAr T i 14 n e) : tB (tThing T (i, fa, me, ip, ot, rs, hl, ed, sy, sz, co, L, ps)) (-9) i := by
  have hi := h.in (by decide)
  obtain ⟨⟨n1, n2, n3, n4, n5, n6, n7, n8, n9⟩, d1, d2, d3, d4⟩ := h.c14
  have N3 : ∀ {a b c : Nat}, nz [a, b, c] = true → spl T i (i + 3) [a, b, c] = false → ¬ (tc T i = a ∧ tc T (i + 1) = b ∧ tc T (i + 2) = c) := fun hz hf z => by rw [(spl3 hz).mpr z] at hf; cases hf
  have N4 : ∀ {a b c d : Nat}, nz [a, b, c, d] = true → spl T i (i + 4) [a, b, c, d] = false → ¬ (tc T i = a ∧ tc T (i + 1) = b ∧ tc T (i + 2) = c ∧ tc T (i + 3) = d) := fun hz hf z => by rw [(spl4 hz).mpr z] at hf; cases hf
  by_cases c : tc T i = 60
  · by_cases c1 : tc T (i + 1) = 112
    · rw [tT_p c c1, tPar_hd]
      by_cases c2 : tc T (i + 2) = 32 ∧ hdX T i = 0 ∧ hdY T i = 0
      · rw [if_pos c2]; exact ⟨rfl, rfl⟩
      · rw [if_neg c2, tPar2_u, if_pos (Or.inl (fun z => d3 ⟨(spl2 rfl).mpr ⟨c, c1⟩, c2, z⟩))]; exact ⟨rfl, rfl⟩
    by_cases c2 : tc T (i + 1) = 47
    · rw [tT_e c c2, tEnd_u]
      rw [if_pos (by
        by_cases c3 : tc T (i + 3) = 62
        · refine Or.inr ⟨fun z => N4 rfl n9 ⟨c, c2, z, c3⟩, ?_⟩
          unfold tgO
          rw [if_neg (fun z => N4 rfl n4 ⟨c, c2, z, c3⟩), if_neg (fun z => N4 rfl n5 ⟨c, c2, z, c3⟩), if_neg (fun z => N4 rfl n6 ⟨c, c2, z, c3⟩), if_neg (fun z => N4 rfl n7 ⟨c, c2, z, c3⟩), if_neg (fun z => N4 rfl n8 ⟨c, c2, z, c3⟩)]
        · exact Or.inl c3)]
      exact ⟨rfl, rfl⟩
    · rw [tT_g c c1 c2]
      cases hg : tgO (tc T (i + 1)) with
      | none => exact ⟨rfl, rfl⟩
      | some g =>
        rw [tRun_u, if_pos (Or.inr (Or.inr (Or.inr ?_)))]
        · exact ⟨rfl, rfl⟩
        · rw [Bool.eq_false_iff]
          intro z
          have hg5 := tgO_lt hg
          unfold rtOk at z
          unfold tgO at hg
          have cg : g = 0 ∨ g = 1 ∨ g = 2 ∨ g = 3 ∨ g = 4 := by omega
          rcases cg with y | y | y | y | y <;> subst y
          · have ch : tc T (i + 1) = 98 := by
              revert hg; (repeat' split) <;> intro hg <;> first | assumption | (injection hg; omega) | cases hg
            rw [show rtE T i (some 0) = some (i + 2) from if_neg (by decide)] at z
            exact N3 rfl n1 ⟨c, ch, of_decide_eq_true z⟩
          · have ch : tc T (i + 1) = 105 := by
              revert hg; (repeat' split) <;> intro hg <;> first | assumption | (injection hg; omega) | cases hg
            rw [show rtE T i (some 1) = some (i + 2) from if_neg (by decide)] at z
            exact N3 rfl n2 ⟨c, ch, of_decide_eq_true z⟩
          · have ch : tc T (i + 1) = 117 := by
              revert hg; (repeat' split) <;> intro hg <;> first | assumption | (injection hg; omega) | cases hg
            rw [show rtE T i (some 2) = some (i + 2) from if_neg (by decide)] at z
            exact N3 rfl n3 ⟨c, ch, of_decide_eq_true z⟩
          · have ch : tc T (i + 1) = 115 := by
              revert hg; (repeat' split) <;> intro hg <;> first | assumption | (injection hg; omega) | cases hg
            by_cases w : tc T (i + 2) = 32 ∧ tnOk T (i + 3) = true
            · rw [show rtE T i (some 3) = some (tnE T (i + 3)) from (if_pos (Or.inl rfl)).trans (if_pos w)] at z
              exact d1 ⟨(spl3 rfl).mpr ⟨c, ch, w.1⟩, w.2, of_decide_eq_true z⟩
            · rw [show rtE T i (some 3) = none from (if_pos (Or.inl rfl)).trans (if_neg w)] at z
              cases z
          · have ch : tc T (i + 1) = 99 := by
              revert hg; (repeat' split) <;> intro hg <;> first | assumption | (injection hg; omega) | cases hg
            by_cases w : tc T (i + 2) = 32 ∧ tnOk T (i + 3) = true
            · rw [show rtE T i (some 4) = some (tnE T (i + 3)) from (if_pos (Or.inr rfl)).trans (if_pos w)] at z
              exact d2 ⟨(spl3 rfl).mpr ⟨c, ch, w.1⟩, w.2, of_decide_eq_true z⟩
            · rw [show rtE T i (some 4) = none from (if_pos (Or.inr rfl)).trans (if_neg w)] at z
              cases z
  by_cases c1 : tc T i = 38
  · rw [tT_38 c1, tNm_u]
    have d5 : sLt T i = false ∧ sGt T i = false ∧ sAm T i = false ∧ ¬ sDg T (i + 1) 59 := by
      rcases d4 with z | z
      · unfold ltC at z; omega
      · exact z.2
    rw [if_neg (by rw [d5.1]; decide), if_neg (by rw [d5.2.1]; decide), if_neg (by rw [d5.2.2.1]; decide), if_pos (by
      by_cases w : tnOk T (i + 1) = true
      · exact Or.inr (Or.inl (fun z => d5.2.2.2 ⟨w, z⟩))
      · exact Or.inl (by simpa using w))]
    exact ⟨rfl, rfl⟩
  · have hz : 1 ≤ tc T i := (hC.1.2 i hi).1
    have c2 : tc T i = 62 ∨ tc T i = 10 := by
      rcases d4 with z | z
      · unfold ltC at z; omega
      · exact absurd z.1 c1
    rw [show tThing T (i, fa, me, ip, ot, rs, hl, ed, sy, sz, co, L, ps) = (i, -9, nI i, ip, ot, rs, hl, ed, sy, sz, co, L, ps) from (if_neg c).trans ((if_neg c1).trans (if_pos c2))]
    exact ⟨rfl, rfl⟩
theorem tFin_u : tFin T (i, fa, me, ip, ot, rs, hl, ed, sy, sz, co, L, ps) = (if ip = true then (i, -9, nI T.length, ip, ot, rs, hl, ed, sy, sz, co, L, ps) else (i, fa, me, ip, ot, rs, hl, ed, sy, sz, co, L, ps)) := rfl
end LA
