/-! the readers inside the object; bounds at the end of a reading -/
theorem okB_fin {T : List Nat} {σ : BS} (h : okB T σ) : okB T (bFin T σ) := by
  obtain ⟨i, fa, me, lv, fr, it, en, v, nt, tb, nm, L, ps⟩ := σ
  show okB T (if en = false then _ else if nlE T (T.length - i) i < T.length then _ else if pst ps ps.length < L.length then bPar T.length 0 0 (i, fa, me, lv, fr, it, en, v, nt, tb, nm, L, ps) else _)
  split
  · exact h
  split
  · exact h
  split
  · exact okB_par h (by decide) (by decide)
  · exact h
theorem okB_res {T : List Nat} (hT : okT T) : ∀ n (σ : BS), okB T σ → okB T (bRes T n σ)
  | 0, σ, h => by
    show okB T (if σ.2.1 = 0 then bFin T σ else σ)
    split
    · exact okB_fin h
    · exact h
  | n + 1, σ, h => by
    show okB T (if σ.2.1 ≠ 0 ∨ T.length ≤ σ.1 ∨ σ.2.2.2.2.2.2.1 = true then (if σ.2.1 = 0 then bFin T σ else σ) else bRes T n (bThing T σ))
    split
    · split
      · exact okB_fin h
      · exact h
    · rename_i z
      exact okB_res hT n _ (okB_thing hT h (Nat.not_le.mp fun q => z (Or.inr (Or.inl q)))).1
theorem okU_fin {T : List Nat} {σ : TS} (h : okU T σ) : okU T (tFin T σ) := by
  obtain ⟨i, fa, me, ip, ot, rs, hl, ed, sy, sz, co, L, ps⟩ := σ
  show okU T (if ip = true then _ else _)
  split
  · exact okY.bad h (by decide)
  · exact h
theorem okU_res {T : List Nat} (hT : okT T) (hp : ∀ k, k < T.length → tc T k = 10 ∨ 32 ≤ tc T k) : ∀ n (σ : TS), okU T σ → okU T (tRes T n σ)
  | 0, σ, h => by
    show okU T (if σ.2.1 = 0 then tFin T σ else σ)
    split
    · exact okU_fin h
    · exact h
  | n + 1, σ, h => by
    show okU T (if σ.2.1 ≠ 0 ∨ T.length ≤ σ.1 then (if σ.2.1 = 0 then tFin T σ else σ) else tRes T n (tThing T σ))
    split
    · split
      · exact okU_fin h
      · exact h
    · rename_i z
      have h0 : σ.2.1 = 0 := by
        by_cases q : σ.2.1 = 0
        · exact q
        · exact absurd (Or.inl q) z
      exact okU_res hT hp n _ (okU_thing hT hp h h0 (Nat.not_le.mp fun q => z (Or.inr q))).1
section XLEM2
variable {KP : bp_H × (Nat → Prop)} {Z : Nat → Nat} {C S : Nat} {h h' : bp_H} {aO na na' : Nat} {T xs : List Nat} {L Ld : List (Nat × Nat)} {ps psd : List (Nat × Nat × Nat)} {me : Int32} {c s c' s' c0 s0 : Nat}
theorem XI.apt (H : XI KP Z C S h aO na T xs L ps me c s) : bApt (zA Z) (zD Z) na := by
  have hz := H.1
  refine ⟨fun i j hi hj e => aIx_inj i hi j hj (hz.1 _ _ (aIx_lt i hi).1 (aIx_lt j hj).1 e), fun i j hi hj e => aIx_D i hi j hj (hz.1 _ _ (by omega) (aIx_lt j hj).1 e), fun j hj => hz.2.2.1 _ (aIx_lt j hj).1 (aIx_lt j hj).2.1 (aIx_lt j hj).2.2, fun i hi => hz.2.2.1 _ (by omega) (by omega) (by omega)⟩
theorem XI.br (H : XI KP Z C S h aO na T xs L ps me c s) : ∃ (i : Nat) (fa me' : Int32) (lv : Nat) (fr it en : Bool) (v : Nat → Nat) (nt : List (Nat → Nat)) (tb nm : List Nat) (Ld : List (Nat × Nat)) (psd : List (Nat × Nat × Nat)) (th w : Nat) (n : Int32) (d : Nat), BrX 401 (C + 36801 - bp_L h aO) (S + 73602 - 2 * bp_L h aO) (zA Z) (zD Z) T h na h na i fa me' lv fr it en v nt tb nm Ld psd th w n d c s ∧ nm.length ≤ 400 ∧ ∀ x ∈ nm, x < 128 := by
  have ap := H.apt
  obtain ⟨hz, h1, h2, h2L, h3, h4, ⟨Ld, psd, h5⟩, ⟨nm, b1, ⟨i, fa, me', lv, fr, it, en, v, nt, tb, th, w, n, d, b2, b3, b4, t1, t2, t3, t4, t5, t6, t7, t8⟩, b6, b7⟩, h7, h8, h9, ⟨r1, r2, r3, r4⟩, _⟩ := H
  refine ⟨i, fa, me', lv, fr, it, en, v, nt, tb, nm, Ld, psd, th, w, n, d, ⟨⟨bp_Fr.rf, fun _ _ => rfl, Or.inl rfl⟩, ap, b1, b2, b3, b4, ⟨t1, t2, t3, t4, t5, t6, t7, t8, ⟨b6, r2, ?_, ?_⟩, fun e => ap.2.2.1 4 (by decide) e.symm⟩, h2, h5⟩, b7⟩
  · omega
  · omega
theorem XI.ofBr {i : Nat} {fa me' : Int32} {lv : Nat} {fr it en : Bool} {v : Nat → Nat} {nt : List (Nat → Nat)} {tb nm : List Nat} {th w : Nat} {n : Int32} {d : Nat} (H : XI KP Z C S h aO na T xs L ps me c s) (B : BrX 401 (C + 36801 - bp_L h aO) (S + 73602 - 2 * bp_L h aO) (zA Z) (zD Z) T h na h' na' i fa me' lv fr it en v nt tb nm Ld psd th w n d c' s') (hn1 : nm.length ≤ 400) (hn2 : ∀ x ∈ nm, x < 128) : XI KP Z C S h' aO na' T xs L ps me c' s' := by
  have hz := H.1
  have hk := H.kz
  obtain ⟨⟨b1, b1k, b1n⟩, b2, b3, b4, b5, b6, b7, b8, b9⟩ := B
  have nF : ∀ i, i < 44 → i ≠ 39 → i ≠ 16 → decide ((4 ≤ i ∧ i ≤ 30) : Prop) = false → ¬ bF (zA Z) (zD Z) na (Z i) := fun i hi i1 i2 z q => by
    have z := of_decide_eq_false z
    rcases q with ⟨j, hj, j6, j7, q⟩ | q | ⟨j, hj, q⟩
    · have e := hz.1 i (aIx j) hi (aIx_lt j hj).1 q
      have : ∀ j, j < 20 → j ≠ 6 → j ≠ 7 → 4 ≤ aIx j ∧ aIx j ≤ 30 := by decide
      have := this j hj j6 j7
      omega
    · exact hz.2.2.1 i hi i1 i2 q.symm
    · have e := hz.1 i (30 - j) hi (by omega) q
      omega
  have st := H.stay (h' := h') (fun i => decide (4 ≤ i ∧ i ≤ 30)) (fun i hi i1 i2 z => b1 _ (hk i hi i1 i2) (nF i hi i1 i2 z))
  have eO : bp_sm h h' aO := b1 _ H.kO (fun q => by
    rcases q with ⟨j, hj, _, _, q⟩ | q | ⟨j, hj, q⟩
    · exact hz.2.1 _ (aIx_lt j hj).1 (aIx_lt j hj).2.1 (aIx_lt j hj).2.2 q
    · exact hz.2.2.2 q
    · exact hz.2.1 _ (by omega) (by omega) (by omega) q)
  have hne : ∀ y, bp_K h y ≠ 0 → y ≠ na → na' ≠ y := fun y hy hn q => by
    rcases b1n with z | z
    · exact hn (q.symm.trans z)
    · rw [q] at z; exact hy z
  obtain ⟨t1, t2, t3, t4, t5, t6, t7, t8, ⟨g1, g2, g3, g4⟩, t9⟩ := b7
  have rm := H.2.2.2.2.2.2.2.2.2.2.2.1
  refine ⟨⟨hz.1, hz.2.1, fun i hi i1 i2 => hne _ (hk i hi i1 i2) (fun q => hz.2.2.1 i hi i1 i2 q.symm), fun q => hne aO H.kO (hz.2.2.2) q.symm⟩, st.1 rfl, b8, (st.2.1 rfl rfl).2, st.2.2.1 rfl eO, st.2.2.2.1 (by decide), ⟨_, _, b9⟩, ⟨nm, b3, ⟨i, fa, me', lv, fr, it, en, v, nt, tb, th, w, n, d, b4, b5, b6, t1, t2, t3, t4, t5, t6, t7, t8⟩, g1, hn1, hn2⟩, st.2.2.2.2.2.2.1 rfl, st.2.2.2.2.2.2.2.1 rfl rfl, st.2.2.2.2.2.2.2.2 rfl, ?_, H.2.2.2.2.2.2.2.2.2.2.2.2.fr b1 (fun y hy h1 h2 z => by
    rcases z with ⟨j, hj, _, _, z⟩ | z | ⟨j, hj, z⟩
    · exact hy _ (aIx_lt j hj).1 (aIx_lt j hj).2.1 (aIx_lt j hj).2.2 z
    · exact h2 z
    · exact hy _ (by omega) (by omega) (by omega) z) (Or.inl rfl) b1n⟩
  unfold xRm at *
  rw [eO.2.1]
  omega
theorem XI.tr (H : XI KP Z C S h aO na T xs L ps me c s) : ∃ (i : Nat) (fa me' : Int32) (ip : Bool) (ot rs : Nat) (hl ed : Bool) (sy sz co : Nat) (Ld : List (Nat × Nat)) (psd : List (Nat × Nat × Nat)) (th nu ne : Nat), TrX (zB Z) (zD Z) T h h i fa me' ip ot rs hl ed sy sz co Ld psd th nu ne ∧ rs ≤ 400 := by
  obtain ⟨hz, h1, h2, h2L, h3, h4, ⟨Ld, psd, h5⟩, h6, ⟨t1, i, fa, me', ip, ot, rs, hl, ed, sy, sz, co, th, nu, ne, t2, t3⟩, h8, h9, h10⟩ := H
  refine ⟨i, fa, me', ip, ot, rs, hl, ed, sy, sz, co, Ld, psd, th, nu, ne, ⟨bp_Fi.rf, ⟨hz.ne 42 3, hz.ne 41 3, fun i j hi hj e => ?_⟩, t1, t2, h2, h5⟩, t3⟩
  have q : j = 0 ∨ j = 1 ∨ j = 2 := by omega
  rcases q with q | q | q <;> subst q
  · have := hz.1 (30 - i) 3 (by omega) (by decide) e; omega
  · have := hz.1 (30 - i) 42 (by omega) (by decide) e; omega
  · have := hz.1 (30 - i) 41 (by omega) (by decide) e; omega
theorem XI.ofTr {i : Nat} {fa me' : Int32} {ip : Bool} {ot rs : Nat} {hl ed : Bool} {sy sz co th nu ne : Nat} (H : XI KP Z C S h aO na T xs L ps me c s) (B : TrX (zB Z) (zD Z) T h h' i fa me' ip ot rs hl ed sy sz co Ld psd th nu ne) (hr : rs ≤ 400) : XI KP Z C S h' aO na T xs L ps me c s := by
  have hz := H.1
  obtain ⟨f, b2, b3, b4, b5, b6⟩ := B
  have nF : ∀ y, (∀ i, i < 44 → i ≠ 39 → i ≠ 16 → y ≠ Z i) → ¬ tF (zB Z) (zD Z) y := fun y hy q => by
    rcases q with q | ⟨j, hj, q⟩
    · exact hy 3 (by decide) (by decide) (by decide) q
    · exact hy (30 - j) (by omega) (by omega) (by omega) q
  have eO : bp_sm h h' aO := f.sm (nF _ hz.2.1)
  have eN : bp_sm h h' na := f.sm (nF _ hz.2.2.1)
  have st := H.stay (h' := h') (fun i => decide (i = 3 ∨ (23 ≤ i ∧ i ≤ 30))) (fun i hi i1 i2 z => f.sm (fun q => by
    have z := of_decide_eq_false z
    rcases q with q | ⟨j, hj, q⟩
    · exact z (Or.inl (hz.1 i 3 hi (by decide) q))
    · have := hz.1 i (30 - j) hi (by omega) q
      omega))
  exact ⟨hz, st.1 rfl, b5, (st.2.1 rfl rfl).2, st.2.2.1 rfl eO, st.2.2.2.1 (by decide), ⟨_, _, b6⟩, st.2.2.2.2.2.1 (by decide) eN, ⟨b3, i, fa, me', ip, ot, rs, hl, ed, sy, sz, co, th, nu, ne, b4, hr⟩, st.2.2.2.2.2.2.2.1 rfl rfl, st.2.2.2.2.2.2.2.2 rfl, H.2.2.2.2.2.2.2.2.2.2.2.1.sm eO eN, H.2.2.2.2.2.2.2.2.2.2.2.2.fi f nF⟩
end XLEM2
