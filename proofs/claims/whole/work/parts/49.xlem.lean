/-! what stays of the object's picture when some cells change -/
theorem bp_Fi.sm {F : Nat → Prop} {h h' : bp_H} (f : bp_Fi F h h') {b : Nat} (hb : ¬ F b) : bp_sm h h' b := ⟨f.K b, f.L b, f.2.2.2 b hb, fun k => f.J b k, fun k => f.R b k⟩
theorem bp_sm.rf {h : bp_H} {b : Nat} : bp_sm h h b := ⟨rfl, rfl, fun _ => rfl, fun _ => rfl, fun _ => rfl⟩
theorem Rw.sm {h h' : bp_H} {r a : Nat} {xs : List Nat} (H : Rw h r a xs) (e : bp_sm h h' r) (g : bp_sm h h' a) : Rw h' r a xs := ⟨e.1.trans H.1, (e.2.2.2.2 0).trans H.2.1, (e.2.2.1 1).trans H.2.2.1, g.1.trans H.2.2.2.1, by rw [g.2.1]; exact H.2.2.2.2.1, by rw [g.2.1]; exact H.2.2.2.2.2.1, fun j hj => (g.2.2.1 j).trans (H.2.2.2.2.2.2 j hj)⟩
theorem So.sm {h h' : bp_H} {o : Nat} {v : Nat → Nat} (H : So h o v) (e : bp_sm h h' o) : So h' o v := ⟨e.1.trans H.1, fun j hj => (e.2.2.1 j).trans (H.2 j hj)⟩
theorem xO.sm {Z : Nat → Nat} {h h' : bp_H} {me : Int32} (H : xO Z h me) (e : bp_sm h h' (Z 43)) : xO Z h' me := ⟨e.1.trans H.1, (e.2.2.2.2 0).trans H.2.1, (e.2.2.2.2 1).trans H.2.2.1, (e.2.2.2.2 2).trans H.2.2.2.1, (e.2.2.2.2 3).trans H.2.2.2.2.1, (e.2.2.2.2 4).trans H.2.2.2.2.2.1, (e.2.2.2.2 5).trans H.2.2.2.2.2.2.1, (e.2.2.2.2 6).trans H.2.2.2.2.2.2.2.1, (e.2.2.2.2 7).trans H.2.2.2.2.2.2.2.2.1, (e.2.2.1 8).trans H.2.2.2.2.2.2.2.2.2⟩
theorem xBW.sm {Z : Nat → Nat} {h h' : bp_H} {en : Nat → Nat} (H : xBW Z h en) (e : bp_sm h h' (Z 2)) (g : bp_sm h h' (Z 1)) : xBW Z h' en := ⟨e.1.trans H.1, (e.2.2.2.2 0).trans H.2.1, (e.2.2.2.2 1).trans H.2.2.1, (e.2.2.2.2 2).trans H.2.2.2.1, g.1.trans H.2.2.2.2.1, g.2.1.trans H.2.2.2.2.2.1, fun j hj => (g.2.2.1 j).trans (H.2.2.2.2.2.2 j hj)⟩
theorem xTW.sm {Z : Nat → Nat} {h h' : bp_H} (H : xTW Z h) (e : bp_sm h h' (Z 0)) : xTW Z h' := ⟨e.1.trans H.1, (e.2.2.2.2 0).trans H.2.1, (e.2.2.2.2 1).trans H.2.2⟩
theorem xTR.sm {Z : Nat → Nat} {h h' : bp_H} (H : xTR Z h) (e : bp_sm h h' (Z 3)) : xTR Z h' := by
  obtain ⟨⟨k, r, p⟩, i, fa, me, ip, ot, rs, hl, ed, sy, sz, co, th, nu, ne, hI, hr⟩ := H
  refine ⟨⟨e.1.trans k, (e.2.2.2.2 10).trans r, (e.2.2.2.2 11).trans p⟩, i, fa, me, ip, ot, rs, hl, ed, sy, sz, co, th, nu, ne, ?_, hr⟩
  unfold trI at *
  simp only [e.2.2.1]
  exact hI
theorem xBR.sm {Z : Nat → Nat} {h h' : bp_H} {na : Nat} {nm : List Nat} (H : xBR Z h na nm) (e : ∀ j, j < 20 → j ≠ 6 → j ≠ 7 → bp_sm h h' (Z (aIx j))) (en : bp_sm h h' na) : xBR Z h' na nm := by
  obtain ⟨⟨k, r0, r1, r2, r3, r4⟩, ⟨i, fa, me, lv, fr, it, en', v, nt, tb, th, w, n, d, hI, hS, hN, t1, t2, t3, t4, t5, t6, t7, t8⟩, hR, hm⟩ := H
  have e0 := e 0 (by decide) (by decide) (by decide)
  have e1 := e 1 (by decide) (by decide) (by decide)
  have e2 := e 2 (by decide) (by decide) (by decide)
  have e3 := e 3 (by decide) (by decide) (by decide)
  have e4 := e 4 (by decide) (by decide) (by decide)
  have e5 := e 5 (by decide) (by decide) (by decide)
  refine ⟨⟨e0.1.trans k, (e0.2.2.2.2 0).trans r0, (e0.2.2.2.2 1).trans r1, (e0.2.2.2.2 2).trans r2, (e0.2.2.2.2 11).trans r3, (e0.2.2.2.2 12).trans r4⟩, ⟨i, fa, me, lv, fr, it, en', v, nt, tb, th, w, n, d, hI.sm e0.2.2.1, hS.sm e1, ⟨e2.1.trans hN.1, e2.2.1.trans hN.2.1, fun k hk => ⟨(e2.2.2.2.2 k).trans (hN.2.2.1 k hk).1, (e (8 + k) (by omega) (by omega) (by omega)).1.trans (hN.2.2.1 k hk).2⟩, hN.2.2.2.1, fun k hk => (hN.2.2.2.2 k hk).sm (e (8 + k) (by have := hN.2.2.2.1; omega) (by omega) (by omega))⟩, e3.1.trans t1, (e3.2.2.2.2 0).trans t2, (e3.2.2.2.2 1).trans t3, (e3.2.2.1 2).trans t4, e4.1.trans t5, e4.2.1.trans t6, t7, fun j hj => (e4.2.2.1 j).trans (t8 j hj)⟩, hR.sm e5 en, hm⟩
theorem xRm.sm {h h' : bp_H} {aO na C S c s : Nat} (H : xRm h aO na C S c s) (e : bp_sm h h' aO) (g : bp_sm h h' na) : xRm h' aO na C S c s := by
  unfold xRm at *
  rw [e.2.1, g.2.1]
  exact H
theorem aIx_lt : ∀ j, j < 20 → aIx j < 44 ∧ aIx j ≠ 39 ∧ aIx j ≠ 16 := by decide
theorem aIx_inj : ∀ i, i < 20 → ∀ j, j < 20 → aIx i = aIx j → i = j := by decide
theorem aIx_D : ∀ i, i < 8 → ∀ j, j < 20 → 30 - i ≠ aIx j := by decide
theorem Pg.k {h : bp_H} {P : Nat → Nat} {L : List (Nat × Nat)} {ps : List (Nat × Nat × Nat)} (H : Pg h P L ps) : ∀ j, j < 8 → bp_K h (P j) ≠ 0 := fun j hj => by
  have e : j = 0 ∨ j = 1 ∨ j = 2 ∨ j = 3 ∨ j = 4 ∨ j = 5 ∨ j = 6 ∨ j = 7 := by omega
  rcases e with e | e | e | e | e | e | e | e <;> subst e
  · rw [H.1]; decide
  · rw [H.2.2.2.2.2.2.2.1.1]; decide
  · rw [H.2.2.2.2.2.2.2.2.1.1]; decide
  · rw [H.2.2.2.2.2.2.2.2.2.1.1]; decide
  · rw [H.2.2.2.2.2.2.2.2.2.2.2.2.1.1]; decide
  · rw [H.2.2.2.2.2.2.2.2.2.2.2.2.1.2.2.2.1]; decide
  · rw [H.2.2.2.2.2.2.2.2.2.2.2.2.2.1.1]; decide
  · rw [H.2.2.2.2.2.2.2.2.2.2.2.2.2.1.2.2.2.1]; decide
theorem xPR.fi {KP : bp_H × (Nat → Prop)} {Z : Nat → Nat} {h h' : bp_H} {aO na : Nat} {F : Nat → Prop} (H : xPR KP Z h aO na) (f : bp_Fi F h h') (hn : ∀ y, (∀ i, i < 44 → i ≠ 39 → i ≠ 16 → y ≠ Z i) → ¬ F y) : xPR KP Z h' aO na := fun b hb => ⟨(H b hb).1, (H b hb).2.1, (H b hb).2.2.1, (H b hb).2.2.2.1, (H b hb).2.2.2.2.tr (f.sm (hn b (H b hb).2.1))⟩
theorem xPR.fr {KP : bp_H × (Nat → Prop)} {Z : Nat → Nat} {h h' : bp_H} {aO na aO' na' : Nat} {F : Nat → Prop} (H : xPR KP Z h aO na) (f : bp_Fr F h h') (hn : ∀ y, (∀ i, i < 44 → i ≠ 39 → i ≠ 16 → y ≠ Z i) → y ≠ aO → y ≠ na → ¬ F y) (hO : aO' = aO ∨ bp_K h aO' = 0) (hN : na' = na ∨ bp_K h na' = 0) : xPR KP Z h' aO' na' := fun b hb => by
  obtain ⟨q1, q2, q3, q4, q5⟩ := H b hb
  have qk : bp_K h b ≠ 0 := by rw [q5.1]; exact q1
  refine ⟨q1, q2, fun e => ?_, fun e => ?_, q5.tr (f b qk (hn b q2 q3 q4))⟩
  · rcases hO with z | z
    · exact q3 (e.trans z)
    · rw [e] at qk; exact qk z
  · rcases hN with z | z
    · exact q4 (e.trans z)
    · rw [e] at qk; exact qk z
section XLEM
variable {KP : bp_H × (Nat → Prop)} {Z : Nat → Nat} {C S : Nat} {h h' : bp_H} {aO na aO' na' : Nat} {T T' xs xs' : List Nat} {L L' : List (Nat × Nat)} {ps ps' : List (Nat × Nat × Nat)} {me me' : Int32} {c s c' s' : Nat}
/-- each cell is there -/
theorem XI.kz (H : XI KP Z C S h aO na T xs L ps me c s) : ∀ i, i < 44 → i ≠ 39 → i ≠ 16 → bp_K h (Z i) ≠ 0 := by
  intro i hi h39 h16
  obtain ⟨-, h1, h2, -, h3, h4, ⟨Ld, psd, h5⟩, ⟨nm, b1, ⟨_, _, _, _, _, _, _, _, _, _, _, _, _, _, _, b2, b3, b4, _, _, _, b5, _⟩, b6, _⟩, h7, ⟨en, h8⟩, h9, -⟩ := H
  by_cases hP : 31 ≤ i ∧ i ≤ 38
  · have := h4.k (38 - i) (by omega)
    rw [show zP Z (38 - i) = Z i from congrArg Z (by omega)] at this
    exact this
  by_cases hD : 23 ≤ i ∧ i ≤ 30
  · have := h5.k (30 - i) (by omega)
    rw [show zD Z (30 - i) = Z i from congrArg Z (by omega)] at this
    exact this
  by_cases hN : 4 ≤ i ∧ i ≤ 15
  · have := (b3.2.2.1 (i - 4) (by omega)).2
    rw [show zA Z (8 + (i - 4)) = Z i from (congrArg Z (aIx8 _)).trans (congrArg Z (by omega))] at this
    rw [this]; decide
  have q : i = 0 ∨ i = 1 ∨ i = 2 ∨ i = 3 ∨ i = 17 ∨ i = 18 ∨ i = 19 ∨ i = 20 ∨ i = 21 ∨ i = 22 ∨ i = 40 ∨ i = 41 ∨ i = 42 ∨ i = 43 := by omega
  rcases q with q | q | q | q | q | q | q | q | q | q | q | q | q | q <;> subst q
  · rw [h9.1]; decide
  · rw [h8.2.2.2.2.1]; decide
  · rw [h8.1]; decide
  · have := h7.1.1; rw [show Z 3 = zB Z 0 from rfl, this]; decide
  · rw [b6.1]; decide
  · rw [b5]; decide
  · rw [b4]; decide
  · have := b3.1; rw [show Z 20 = zA Z 2 from rfl, this]; decide
  · rw [b2.1]; decide
  · have := b1.1; rw [show Z 22 = zA Z 0 from rfl, this]; decide
  · rw [h3.1]; decide
  · rw [h2.2.2.2.1]; decide
  · rw [h2.1]; decide
  · rw [h1.1]; decide
theorem XI.kO (H : XI KP Z C S h aO na T xs L ps me c s) : bp_K h aO ≠ 0 := by rw [H.2.2.2.2.1.2.2.2.1]; decide
theorem XI.kN (H : XI KP Z C S h aO na T xs L ps me c s) : bp_K h na ≠ 0 := by
  obtain ⟨nm, hb⟩ := H.2.2.2.2.2.2.2.1
  rw [hb.2.2.1.2.2.2.1]; decide
/-- the parts that stay, where the cells ch may change -/
theorem XI.stay (H : XI KP Z C S h aO na T xs L ps me c s) (ch : Nat → Bool) (e : ∀ i, i < 44 → i ≠ 39 → i ≠ 16 → ch i = false → bp_sm h h' (Z i)) :
    (ch 43 = false → xO Z h' me) ∧ (ch 42 = false → ch 41 = false → Rw h' (Z 42) (Z 41) T ∧ bp_L h' (Z 41) = 400) ∧ (ch 40 = false → bp_sm h h' aO → Rw h' (Z 40) aO xs) ∧ ((∀ i, i < 8 → ch (38 - i) = false) → Pg h' (zP Z) L ps) ∧ ((∀ i, i < 8 → ch (30 - i) = false) → ∃ Ld psd, Pg h' (zD Z) Ld psd) ∧ ((∀ j, j < 20 → j ≠ 6 → j ≠ 7 → ch (aIx j) = false) → bp_sm h h' na → ∃ nm, xBR Z h' na nm) ∧ (ch 3 = false → xTR Z h') ∧ (ch 2 = false → ch 1 = false → ∃ en, xBW Z h' en) ∧ (ch 0 = false → xTW Z h') := by
  obtain ⟨h0, h1, h2, h2L, h3, h4, ⟨Ld, psd, h5⟩, ⟨nm, h6⟩, h7, ⟨en, h8⟩, h9, h10⟩ := H
  refine ⟨fun z => h1.sm (e 43 (by decide) (by decide) (by decide) z), fun z y => ⟨h2.sm (e 42 (by decide) (by decide) (by decide) z) (e 41 (by decide) (by decide) (by decide) y), (e 41 (by decide) (by decide) (by decide) y).2.1.trans h2L⟩, fun z y => h3.sm (e 40 (by decide) (by decide) (by decide) z) y, fun z => h4.gr (fun j hj => e (38 - j) (by omega) (by omega) (by omega) (z j hj)), fun z => ⟨Ld, psd, h5.gr (fun j hj => e (30 - j) (by omega) (by omega) (by omega) (z j hj))⟩, fun z y => ⟨nm, h6.sm (fun j hj h6 h7 => e _ (aIx_lt j hj).1 (aIx_lt j hj).2.1 (aIx_lt j hj).2.2 (z j hj h6 h7)) y⟩, fun z => h7.sm (e 3 (by decide) (by decide) (by decide) z), fun z y => ⟨en, h8.sm (e 2 (by decide) (by decide) (by decide) z) (e 1 (by decide) (by decide) (by decide) y)⟩, fun z => h9.sm (e 0 (by decide) (by decide) (by decide) z)⟩
theorem zOk.ne (H : zOk Z aO na) (i j : Nat) (hi : i < 44 := by decide) (hj : j < 44 := by decide) (hn : i ≠ j := by decide) : Z i ≠ Z j := fun e => hn (H.1 i j hi hj e)
/-- IN changes -/
theorem XI.setT (H : XI KP Z C S h aO na T xs L ps me c s) (hR : Rw h' (Z 42) (Z 41) T') (f : bp_Fi (fun b => b = Z 42 ∨ b = Z 41) h h') : XI KP Z C S h' aO na T' xs L ps me c s := by
  have hz := H.1
  have eO : bp_sm h h' aO := f.sm (fun z => z.elim (hz.2.1 42 (by decide) (by decide) (by decide)) (hz.2.1 41 (by decide) (by decide) (by decide)))
  have eN : bp_sm h h' na := f.sm (fun z => z.elim (hz.2.2.1 42 (by decide) (by decide) (by decide)) (hz.2.2.1 41 (by decide) (by decide) (by decide)))
  have st := H.stay (h' := h') (fun i => decide (i = 42 ∨ i = 41)) (fun i hi _ _ z => f.sm (fun q => by
    have z := of_decide_eq_false z
    rcases q with q | q
    · exact z (Or.inl (hz.1 i 42 hi (by decide) q))
    · exact z (Or.inr (hz.1 i 41 hi (by decide) q))))
  exact ⟨hz, st.1 rfl, hR, by rw [f.L]; exact H.2.2.2.1, st.2.2.1 rfl eO, st.2.2.2.1 (by decide), st.2.2.2.2.1 (by decide), st.2.2.2.2.2.1 (by decide) eN, st.2.2.2.2.2.2.1 rfl, st.2.2.2.2.2.2.2.1 rfl rfl, st.2.2.2.2.2.2.2.2 rfl, H.2.2.2.2.2.2.2.2.2.2.2.1.sm eO eN, H.2.2.2.2.2.2.2.2.2.2.2.2.fi f (fun y hy z => z.elim (hy 42 (by decide) (by decide) (by decide)) (hy 41 (by decide) (by decide) (by decide)))⟩
/-- the page changes -/
theorem XI.setP (H : XI KP Z C S h aO na T xs L ps me c s) (hP : Pg h' (zP Z) L' ps') (f : bp_Fi (pF (zP Z)) h h') : XI KP Z C S h' aO na T xs L' ps' me c s := by
  have hz := H.1
  have nO : ∀ y, (∀ i, i < 44 → i ≠ 39 → i ≠ 16 → y ≠ Z i) → ¬ pF (zP Z) y := fun y hy => fun ⟨i, hi, e⟩ => hy (38 - i) (by omega) (by omega) (by omega) e
  have eO : bp_sm h h' aO := f.sm (nO _ hz.2.1)
  have eN : bp_sm h h' na := f.sm (nO _ hz.2.2.1)
  have st := H.stay (h' := h') (fun i => decide (31 ≤ i ∧ i ≤ 38)) (fun i hi _ _ z => f.sm (fun ⟨j, hj, q⟩ => by
    have z := of_decide_eq_false z
    have := hz.1 i (38 - j) hi (by omega) q
    omega))
  exact ⟨hz, st.1 rfl, (st.2.1 rfl rfl).1, (st.2.1 rfl rfl).2, st.2.2.1 rfl eO, hP, st.2.2.2.2.1 (by decide), st.2.2.2.2.2.1 (by decide) eN, st.2.2.2.2.2.2.1 rfl, st.2.2.2.2.2.2.2.1 rfl rfl, st.2.2.2.2.2.2.2.2 rfl, H.2.2.2.2.2.2.2.2.2.2.2.1.sm eO eN, H.2.2.2.2.2.2.2.2.2.2.2.2.fi f nO⟩
/-- what was met changes -/
theorem XI.setM (H : XI KP Z C S h aO na T xs L ps me c s) : XI KP Z C S (bp_sI h (Z 43) 8 me') aO na T xs L ps me' c s := by
  have hz := H.1
  have f : bp_Fi (fun b => b = Z 43) h (bp_sI h (Z 43) 8 me') := bp_Fi.sI rfl
  have eO := f.sm (b := aO) (hz.2.1 43 (by decide) (by decide) (by decide))
  have eN := f.sm (b := na) (hz.2.2.1 43 (by decide) (by decide) (by decide))
  have st := H.stay (h' := bp_sI h (Z 43) 8 me') (fun i => decide (i = 43)) (fun i hi _ _ z => f.sm (fun q => (of_decide_eq_false z) (hz.1 i 43 hi (by decide) q)))
  have x := H.2.1
  exact ⟨hz, ⟨x.1, x.2.1, x.2.2.1, x.2.2.2.1, x.2.2.2.2.1, x.2.2.2.2.2.1, x.2.2.2.2.2.2.1, x.2.2.2.2.2.2.2.1, x.2.2.2.2.2.2.2.2.1, by rw [bp_I_sI, if_pos ⟨rfl, rfl⟩]⟩, (st.2.1 rfl rfl).1, (st.2.1 rfl rfl).2, st.2.2.1 rfl eO, st.2.2.2.1 (by decide), st.2.2.2.2.1 (by decide), st.2.2.2.2.2.1 (by decide) eN, st.2.2.2.2.2.2.1 rfl, st.2.2.2.2.2.2.2.1 rfl rfl, st.2.2.2.2.2.2.2.2 rfl, H.2.2.2.2.2.2.2.2.2.2.2.1.sm eO eN, H.2.2.2.2.2.2.2.2.2.2.2.2.fi f (fun y hy => hy 43 (by decide) (by decide) (by decide))⟩
/-- OUT changes, and perhaps the entries -/
theorem XI.setO {en : Nat → Nat} (H : XI KP Z C S h aO na T xs L ps me c s) (hR : Rw h' (Z 40) aO' xs') (hE : xBW Z h' en) (f : gE (Z 40) aO (Z 1) h h' aO') (hl : bp_L h' aO' ≤ 36801) (hc : C + 803 - bp_L h na + 36801 ≤ c' + bp_L h' aO') (hs : S + 1606 - 2 * bp_L h na + 73602 ≤ s' + 2 * bp_L h' aO') : XI KP Z C S h' aO' na T xs' L ps me c' s' := by
  have hz := H.1
  have hk := H.kz
  have e : ∀ i, i < 44 → i ≠ 39 → i ≠ 16 → decide (i = 40 ∨ i = 1) = false → bp_sm h h' (Z i) := fun i hi h1 h2 z => f.1 _ (hk i hi h1 h2) (fun q => by
    have z := of_decide_eq_false z
    rcases q with q | q | q
    · exact z (Or.inl (hz.1 i 40 hi (by decide) q))
    · exact hz.2.1 i hi h1 h2 q.symm
    · exact z (Or.inr (hz.1 i 1 hi (by decide) q)))
  have eN : bp_sm h h' na := f.1 _ H.kN (fun q => by
    rcases q with q | q | q
    · exact hz.2.2.1 40 (by decide) (by decide) (by decide) q
    · exact hz.2.2.2 q.symm
    · exact hz.2.2.1 1 (by decide) (by decide) (by decide) q)
  have st := H.stay (h' := h') (fun i => decide (i = 40 ∨ i = 1)) e
  have hne : ∀ y, bp_K h y ≠ 0 → y ≠ aO → aO' ≠ y := fun y hy hn q => by
    rcases f.2.2 with z | z
    · exact hn (q.symm.trans z)
    · rw [q] at z; exact hy z
  have rm := H.2.2.2.2.2.2.2.2.2.2.2.1
  refine ⟨⟨hz.1, fun i hi h1 h2 => hne _ (hk i hi h1 h2) (fun q => hz.2.1 i hi h1 h2 q.symm), hz.2.2.1, hne na H.kN (fun q => hz.2.2.2 q.symm)⟩, st.1 rfl, (st.2.1 rfl rfl).1, (st.2.1 rfl rfl).2, hR, st.2.2.2.1 (by decide), st.2.2.2.2.1 (by decide), st.2.2.2.2.2.1 (by decide) eN, st.2.2.2.2.2.2.1 rfl, ⟨_, hE⟩, st.2.2.2.2.2.2.2.2 rfl, ?_, H.2.2.2.2.2.2.2.2.2.2.2.2.fr f.1 (fun y hy h1 h2 z => by
    rcases z with z | z | z
    · exact hy 40 (by decide) (by decide) (by decide) z
    · exact h1 z
    · exact hy 1 (by decide) (by decide) (by decide) z) f.2.2 (Or.inl rfl)⟩
  unfold xRm at *
  rw [eN.2.1]
  omega
end XLEM
