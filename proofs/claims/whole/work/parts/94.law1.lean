/-! class and reference side by side -/
def lP (M : Nat → Nat) (o : Nat) : Nat → Prop := fun b => mF M b ∨ b = o
section LAW1
variable {P : Nat → Prop} {M Z : Nat → Nat} {o C S : Nat} {h0 h h' : bp_H} {aO na : Nat} {tw tl : Int32} {T xs : List Nat} {L : List (Nat × Nat)} {ps : List (Nat × Nat × Nat)} {me : Int32} {c s : Nat}
theorem XI.mv {F : Nat → Prop} (H : XI (h0, P) Z C S h aO na T xs L ps me c s) (f : bp_Fr F h h') (hK : ∀ b, bp_K h b ≠ 0 → bp_K h' b = bp_K h b) (hF : ∀ y, F y → P y) : XI (h', P) Z C S h' aO na T xs L ps me c s := by
  have hk := H.kz
  have pr := H.2.2.2.2.2.2.2.2.2.2.2.2
  have sm : ∀ y, bp_K h y ≠ 0 → ¬ P y → bp_sm h h' y := fun y hy hn => f y hy (fun z => hn (hF y z))
  have eO := sm aO H.kO (fun z => (pr aO z).2.2.1 rfl)
  have eN := sm na H.kN (fun z => (pr na z).2.2.2.1 rfl)
  have st := H.stay (h' := h') (fun _ => false) (fun i hi i1 i2 _ => sm _ (hk i hi i1 i2) (fun z => (pr _ z).2.1 i hi i1 i2 rfl))
  refine ⟨H.1, st.1 rfl, (st.2.1 rfl rfl).1, (st.2.1 rfl rfl).2, st.2.2.1 rfl eO, st.2.2.2.1 (fun _ _ => rfl), st.2.2.2.2.1 (fun _ _ => rfl), st.2.2.2.2.2.1 (fun _ _ _ _ => rfl) eN, st.2.2.2.2.2.2.1 rfl, st.2.2.2.2.2.2.2.1 rfl rfl, st.2.2.2.2.2.2.2.2 rfl, H.2.2.2.2.2.2.2.2.2.2.2.1.sm eO eN, fun b hb => ?_⟩
  obtain ⟨q1, q2, q3, q4, q5⟩ := pr b hb
  exact ⟨by show bp_K h' b ≠ 0; rw [hK b (by rw [q5.1]; exact q1), q5.1]; exact q1, q2, q3, q4, bp_sm.rf⟩
theorem XI.rb (H : XI (h0, P) Z C S h aO na T xs L ps me c s) : XI (h, P) Z C S h aO na T xs L ps me c s := H.mv (F := fun _ => False) (fun _ _ _ => bp_sm.rf) (fun _ _ => rfl) (fun _ z => z.elim)
theorem XI.pr (H : XI (h0, P) Z C S h aO na T xs L ps me c s) {b : Nat} (hb : P b) : bp_sm h0 h b := (H.2.2.2.2.2.2.2.2.2.2.2.2 b hb).2.2.2.2
theorem MoS.fi (H : MoS M h0 h tw tl T xs L ps) : bp_Fi (mF M) h0 h := by
  obtain ⟨i, fa, fm, lk, al, ind, sk, dp, lv, fr, en, nf, nn, dg, nu, kd, pn, pe, L1, p1, nt, tb, fd, hB⟩ := H
  exact hB.1
theorem MoS.re (H : MoS M h0 h tw tl T xs L ps) (e : ∀ j, mC j = true → bp_sm h h' (M j)) : MoS M h' h' tw tl T xs L ps := by
  obtain ⟨i, fa, fm, lk, al, ind, sk, dp, lv, fr, en, nf, nn, dg, nu, kd, pn, pe, L1, p1, nt, tb, fd, b1, b2, b3, b4, b5, b6, b7, b8, b9, b10⟩ := H
  refine ⟨i, fa, fm, lk, al, ind, sk, dp, lv, fr, en, nf, nn, dg, nu, kd, pn, pe, L1, p1, nt, tb, fd, bp_Fi.rf, ⟨(e 0 rfl).1.trans b2.1, fun j hj => ?_, b2.2.2⟩, b3.sm (e 0 rfl).2.2.1, b4.sm (e 2 rfl).2.2.1, b5.sm (e 4 rfl).2.2.1, b6.sm (fun i h1 h2 => (e i (mC_p i h1 h2)).2.2.1), b7.sm (fun i h1 h2 => (e i (mC_p i h1 h2)).2.2.1), b8.sm (e 21 rfl).2.2.1, b9.sm (e 25 rfl).2.2.1, b10.sm (e 26 rfl).2.2.1⟩
  have q := b2.2.1 j hj
  have g := e j (by unfold mC; rw [hj, Bool.or_true])
  exact ⟨((e 0 rfl).2.2.2.2 j).trans q.1, g.1.trans q.2.1, g.2.1.trans q.2.2⟩
/-- the state at the head of the law's loop -/
def LST (M Z : Nat → Nat) (o C S : Nat) (h : bp_H) (aO na : Nat) (T xs : List Nat) (L : List (Nat × Nat)) (ps : List (Nat × Nat × Nat)) (me : Int32) (c s : Nat) : Prop := XI (h, lP M o) Z C S h aO na T xs L ps me c s ∧ (∃ tw, MoS M h h tw me T xs L ps) ∧ (bp_K h o = 2 ∧ bp_L h o = 1 ∧ ¬ mF M o) ∧ okC T ∧ (∀ x ∈ xs, chO x) ∧ okP L ps ∧ pst ps ps.length = L.length
/-- behind a step of the class alone -/
def XP (M Z : Nat → Nat) (o C S : Nat) (h h' : bp_H) (aO na : Nat) (T xs : List Nat) (L : List (Nat × Nat)) (ps : List (Nat × Nat × Nat)) (me : Int32) (c s : Nat) : Prop := XI (h', lP M o) Z C S h' aO na T xs L ps me c s ∧ (∀ b, mF M b → bp_sm h h' b) ∧ bp_K h' o = 2 ∧ bp_L h' o = 1
theorem XP.of (H : XI (h, lP M o) Z C S h' aO na T xs L ps me c s) (hk : bp_K h o = 2) (hl : bp_L h o = 1) : XP M Z o C S h h' aO na T xs L ps me c s := ⟨H.rb, fun b hb => H.pr (Or.inl hb), (H.pr (Or.inr rfl)).1.trans hk, (H.pr (Or.inr rfl)).2.1.trans hl⟩
/-- and the result is put into the array -/
theorem XP.out {v : Int64} (H : XP M Z o C S h h' aO na T xs L ps me c s) (hn : ¬ mF M o) : XP M Z o C S h (bp_sJ h' o 0 v) aO na T xs L ps me c s := by
  have f : bp_Fr (fun b => b = o) h' (bp_sJ h' o 0 v) := fun b hb hn => ⟨rfl, rfl, fun _ => rfl, fun k => by rw [bp_J_sJ, if_neg (fun z => hn z.1)], fun _ => rfl⟩
  exact ⟨H.1.mv f (fun _ _ => rfl) (fun y hy => Or.inr hy), fun b hb => (H.2.1 b hb).tr ⟨rfl, rfl, fun _ => rfl, fun k => by rw [bp_J_sJ]; exact if_neg (fun z => hn (by rw [← z.1]; exact hb)), fun _ => rfl⟩, H.2.2.1, H.2.2.2⟩
/-- the reference, behind the class's step -/
theorem XP.mo {T' xs' : List Nat} {L' : List (Nat × Nat)} {ps' : List (Nat × Nat × Nat)} (H : XP M Z o C S h h' aO na T xs L ps me c s) (hm : MoS M h h tw tl T' xs' L' ps') : MoS M h' h' tw tl T' xs' L' ps' := hm.re (fun j hj => H.2.1 _ ⟨j, hj, rfl⟩)
/-- and behind the reference's own step both are where they were -/
theorem XP.end_ {h2 : bp_H} {tw2 : Int32} (H : XP M Z o C S h h' aO na T xs L ps me c s) (hn : ¬ mF M o) (hm : MoS M h' h2 tw2 me T xs L ps) (hT : okC T) (hx : ∀ x ∈ xs, chO x) (hp : okP L ps) (hE : pst ps ps.length = L.length) : LST M Z o C S h2 aO na T xs L ps me c s := by
  have f := hm.fi
  refine ⟨H.1.mv (fun b _ hn => f.sm hn) (fun b _ => f.K b) (fun y hy => Or.inl hy), ⟨tw2, hm.re (fun j hj => bp_sm.rf)⟩, ⟨(f.K o).trans H.2.2.1, (f.L o).trans H.2.2.2, hn⟩, hT, hx, hp, hE⟩
theorem XP.J {h2 : bp_H} {tw2 tl2 : Int32} {T' xs' : List Nat} {L' : List (Nat × Nat)} {ps' : List (Nat × Nat × Nat)} (hm : MoS M h' h2 tw2 tl2 T' xs' L' ps') : bp_J h2 o 0 = bp_J h' o 0 := hm.fi.J o 0
theorem LST.less {C' S' : Nat} (H : LST M Z o C S h aO na T xs L ps me c s) (h1 : C' ≤ C) (h2 : S' ≤ S) : LST M Z o C' S' h aO na T xs L ps me c s := ⟨H.1.less h1 h2, H.2⟩
theorem LST.room (H : LST M Z o (C + 1) (S + 6) h aO na T xs L ps me c s) : ∃ c' s', c = c' + 1 ∧ s = s' + 6 := by
  have rm := H.1.2.2.2.2.2.2.2.2.2.2.2.1
  unfold xRm at rm
  exact ⟨c - 1, s - 6, by omega, by omega⟩
end LAW1

