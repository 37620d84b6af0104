theorem Pg.gr {h h' : bp_H} {P : Nat → Nat} {L : List (Nat × Nat)} {ps : List (Nat × Nat × Nat)} (hP : Pg h P L ps) (e : ∀ j, j < 8 → bp_sm h h' (P j)) : Pg h' P L ps := by
  obtain ⟨k0, r0, r1, r2, r3, r4, i5, ⟨a1, a2⟩, ⟨b1, b2⟩, ⟨c1, c2⟩, n16, hj, w1, w2, l5, l7, inj⟩ := hP
  have e0 := e 0 (by decide)
  have e1 := e 1 (by decide)
  have e2 := e 2 (by decide)
  have e3 := e 3 (by decide)
  have e4 := e 4 (by decide)
  have e5 := e 5 (by decide)
  have e6 := e 6 (by decide)
  have e7 := e 7 (by decide)
  refine ⟨e0.1.trans k0, (e0.2.2.2.2 0).trans r0, (e0.2.2.2.2 1).trans r1, (e0.2.2.2.2 2).trans r2, (e0.2.2.2.2 3).trans r3, (e0.2.2.2.2 4).trans r4, (e0.2.2.1 5).trans i5, ⟨e1.1.trans a1, e1.2.1.trans a2⟩, ⟨e2.1.trans b1, e2.2.1.trans b2⟩, ⟨e3.1.trans c1, e3.2.1.trans c2⟩, n16, fun j hq => ⟨(e1.2.2.1 j).trans (hj j hq).1, (e2.2.2.1 j).trans (hj j hq).2.1, (e3.2.2.1 j).trans (hj j hq).2.2⟩, ?_, ?_, e5.2.1.trans l5, e7.2.1.trans l7, inj⟩
  · exact ⟨e4.1.trans w1.1, (e4.2.2.2.2 0).trans w1.2.1, (e4.2.2.1 1).trans w1.2.2.1, e5.1.trans w1.2.2.2.1, by rw [e5.2.1]; exact w1.2.2.2.2.1, by rw [e5.2.1]; exact w1.2.2.2.2.2.1, fun j hq => (e5.2.2.1 j).trans (w1.2.2.2.2.2.2 j hq)⟩
  · exact ⟨e6.1.trans w2.1, (e6.2.2.2.2 0).trans w2.2.1, (e6.2.2.1 1).trans w2.2.2.1, e7.1.trans w2.2.2.2.1, by rw [e7.2.1]; exact w2.2.2.2.2.1, by rw [e7.2.1]; exact w2.2.2.2.2.2.1, fun j hq => (e7.2.2.1 j).trans (w2.2.2.2.2.2.2 j hq)⟩
/-! the braced reader: A 0 its object, A 1 its state, A 2 the array of noted states, A 3, 4, 5 the table, its array, its row, A 6, 7 the text, A 8 .. 19 the noted states; P the draft -/
def bF (A P : Nat → Nat) (na0 x : Nat) : Prop := (∃ j, j < 20 ∧ j ≠ 6 ∧ j ≠ 7 ∧ x = A j) ∨ x = na0 ∨ pF P x
def bFrm (A P : Nat → Nat) (na0 : Nat) (h0 h : bp_H) (na : Nat) : Prop := bp_Fr (bF A P na0) h0 h ∧ (∀ x, bp_K h0 x ≠ 0 → bp_K h x = bp_K h0 x) ∧ (na = na0 ∨ bp_K h0 na = 0)
def bApt (A P : Nat → Nat) (na : Nat) : Prop := (∀ i j, i < 20 → j < 20 → A i = A j → i = j) ∧ (∀ i j, i < 8 → j < 20 → P i ≠ A j) ∧ (∀ j, j < 20 → na ≠ A j) ∧ ∀ i, i < 8 → na ≠ P i
def brR (A P : Nat → Nat) (h : bp_H) : Prop := bp_K h (A 0) = 9 ∧ bp_R h (A 0) 0 = some (A 1) ∧ bp_R h (A 0) 1 = some (A 2) ∧ bp_R h (A 0) 2 = some (A 3) ∧ bp_R h (A 0) 11 = some (A 6) ∧ bp_R h (A 0) 12 = some (P 0)
def brI (h : bp_H) (b i : Nat) (fa me : Int32) (lv : Nat) (fr it en : Bool) (k th w : Nat) (n : Int32) (d : Nat) : Prop := bp_I h b 3 = nI k ∧ bp_I h b 4 = bI en ∧ bp_I h b 5 = bI fr ∧ bp_I h b 6 = nI lv ∧ bp_I h b 7 = bI it ∧ bp_I h b 8 = nI w ∧ bp_I h b 9 = n ∧ bp_I h b 10 = nI d ∧ bp_I h b 13 = nI i ∧ bp_I h b 14 = nI th ∧ bp_I h b 15 = fa ∧ bp_I h b 16 = me
def nt_ (nt : List (Nat → Nat)) (k : Nat) : Nat → Nat := nt.getD k (fun _ => 0)
def brN (A : Nat → Nat) (h : bp_H) (nt : List (Nat → Nat)) : Prop := bp_K h (A 2) = 5 ∧ bp_L h (A 2) = 12 ∧ (∀ k, k < 12 → bp_R h (A 2) k = some (A (8 + k)) ∧ bp_K h (A (8 + k)) = 10) ∧ nt.length ≤ 12 ∧ ∀ k, k < nt.length → So h (A (8 + k)) (nt_ nt k)
def BrX (mx c0 s0 : Nat) (A P : Nat → Nat) (T : List Nat) (h0 : bp_H) (na0 : Nat) (h : bp_H) (na : Nat) (i : Nat) (fa me : Int32) (lv : Nat) (fr it en : Bool) (v : Nat → Nat) (nt : List (Nat → Nat)) (tb nm : List Nat) (L : List (Nat × Nat)) (ps : List (Nat × Nat × Nat)) (th w : Nat) (n : Int32) (d : Nat) (c s : Nat) : Prop := bFrm A P na0 h0 h na ∧ bApt A P na ∧ brR A P h ∧ brI h (A 0) i fa me lv fr it en nt.length th w n d ∧ So h (A 1) v ∧ brN A h nt ∧ Ct mx c0 s0 h (A 3) (A 4) (A 5) na tb nm c s ∧ Rw h (A 6) (A 7) T ∧ Pg h P L ps
def Br (mx c0 s0 : Nat) (A P : Nat → Nat) (T : List Nat) (h0 : bp_H) (na0 : Nat) (h : bp_H) (na : Nat) (σ : BS) (τ : Nat × Nat × Int32 × Nat) (c s : Nat) : Prop := BrX mx c0 s0 A P T h0 na0 h na σ.1 σ.2.1 σ.2.2.1 σ.2.2.2.1 σ.2.2.2.2.1 σ.2.2.2.2.2.1 σ.2.2.2.2.2.2.1 σ.2.2.2.2.2.2.2.1 σ.2.2.2.2.2.2.2.2.1 σ.2.2.2.2.2.2.2.2.2.1 σ.2.2.2.2.2.2.2.2.2.2.1 σ.2.2.2.2.2.2.2.2.2.2.2.1 σ.2.2.2.2.2.2.2.2.2.2.2.2 τ.1 τ.2.1 τ.2.2.1 τ.2.2.2 c s
theorem bFrm.fi {A P : Nat → Nat} {na0 na : Nat} {h0 h h' : bp_H} {F : Nat → Prop} (H : bFrm A P na0 h0 h na) (f : bp_Fi F h h') (hF : ∀ x, F x → bF A P na0 x ∨ x = na) : bFrm A P na0 h0 h' na := by
  refine ⟨fun x hx hn => ?_, fun x hx => (f.K x).trans (H.2.1 x hx), H.2.2⟩
  obtain ⟨e1, e2, e3, e4, e5⟩ := H.1 x hx hn
  have hfx : ¬ F x := fun z => by
    rcases hF x z with y | y
    · exact hn y
    · rcases H.2.2 with q | q
      · exact hn (Or.inr (Or.inl (y.trans q)))
      · exact hx (y ▸ q)
  exact ⟨(f.K x).trans e1, (f.L x).trans e2, fun k => (f.2.2.2 x hfx k).trans (e3 k), fun k => (f.J x k).trans (e4 k), fun k => (f.R x k).trans (e5 k)⟩
theorem bFrm.gf {A P : Nat → Nat} {na0 na na' r : Nat} {h0 h h' : bp_H} (H : bFrm A P na0 h0 h na) (f : gF r na h h' na') (hr : bF A P na0 r) : bFrm A P na0 h0 h' na' := by
  have key : ∀ b, bp_K h b = 0 → bp_K h0 b = 0 := fun b hb => by
    by_cases hz : bp_K h0 b = 0
    · exact hz
    · rw [H.2.1 b hz] at hb; exact hb
  refine ⟨fun x hx hn => ?_, fun x hx => (f.2.1 x (by rw [H.2.1 x hx]; exact hx)).trans (H.2.1 x hx), ?_⟩
  · obtain ⟨e1, e2, e3, e4, e5⟩ := H.1 x hx hn
    obtain ⟨g1, g2, g3, g4, g5⟩ := f.1 x (by rw [e1]; exact hx) (fun z => by
      rcases z with z | z
      · exact hn (z ▸ hr)
      · rcases H.2.2 with q | q
        · exact hn (Or.inr (Or.inl (z.trans q)))
        · exact hx (z ▸ q))
    exact ⟨g1.trans e1, g2.trans e2, fun k => (g3 k).trans (e3 k), fun k => (g4 k).trans (e4 k), fun k => (g5 k).trans (e5 k)⟩
  · rcases f.2.2 with rfl | z
    · exact H.2.2
    · exact Or.inr (key _ z)
theorem brR.fi {A P : Nat → Nat} {h h' : bp_H} {F : Nat → Prop} (H : brR A P h) (f : bp_Fi F h h') : brR A P h' := ⟨(f.K _).trans H.1, (f.R _ _).trans H.2.1, (f.R _ _).trans H.2.2.1, (f.R _ _).trans H.2.2.2.1, (f.R _ _).trans H.2.2.2.2.1, (f.R _ _).trans H.2.2.2.2.2⟩
theorem brI.sm {h h' : bp_H} {b i : Nat} {fa me : Int32} {lv : Nat} {fr it en : Bool} {k th w : Nat} {n : Int32} {d : Nat} (H : brI h b i fa me lv fr it en k th w n d) (e : ∀ j, bp_I h' b j = bp_I h b j) : brI h' b i fa me lv fr it en k th w n d := by
  unfold brI at *
  simp only [e]
  exact H
theorem brN.fi {A : Nat → Nat} {h h' : bp_H} {F : Nat → Prop} {nt : List (Nat → Nat)} (H : brN A h nt) (f : bp_Fi F h h') (hF : ∀ k, k < 12 → ¬ F (A (8 + k))) : brN A h' nt := ⟨(f.K _).trans H.1, (f.L _).trans H.2.1, fun k hk => ⟨(f.R _ _).trans (H.2.2.1 k hk).1, (f.K _).trans (H.2.2.1 k hk).2⟩, H.2.2.2.1, fun k hk => (H.2.2.2.2 k hk).fi f (hF k (by have := H.2.2.2.1; omega))⟩
theorem Ct.fi {mx c0 s0 : Nat} {h h' : bp_H} {F : Nat → Prop} {t ca nr na : Nat} {tb nm : List Nat} {c s : Nat} (hC : Ct mx c0 s0 h t ca nr na tb nm c s) (f : bp_Fi F h h') (h1 : ¬ F t) (h2 : ¬ F ca) (h3 : ¬ F nr) (h4 : ¬ F na) : Ct mx c0 s0 h' t ca nr na tb nm c s := ⟨(f.K _).trans hC.1, (f.R _ _).trans hC.2.1, (f.R _ _).trans hC.2.2.1, (f.2.2.2 _ h1 2).trans hC.2.2.2.1, (f.K _).trans hC.2.2.2.2.1, (f.L _).trans hC.2.2.2.2.2.1, hC.2.2.2.2.2.2.1, fun j hj => (f.2.2.2 _ h2 j).trans (hC.2.2.2.2.2.2.2.1 j hj), hC.2.2.2.2.2.2.2.2.1.fi f h3 h4, hC.2.2.2.2.2.2.2.2.2⟩
theorem bApt.aa {A P : Nat → Nat} {na : Nat} (H : bApt A P na) (i j : Nat) (hi : i < 20 := by decide) (hj : j < 20 := by decide) (hn : i ≠ j := by decide) : ¬ A i = A j := fun z => hn (H.1 i j hi hj z)
theorem bApt.an {A P : Nat → Nat} {na : Nat} (H : bApt A P na) (i k : Nat) (hk : k < 12) (hi : i < 8 := by decide) : ¬ A (8 + k) = A i := fun z => by have := H.1 (8 + k) i (by omega) (by omega) z; omega
section BRP
variable {mx c0 s0 : Nat} {A P : Nat → Nat} {T : List Nat} {h0 : bp_H} {na0 : Nat} {h h' : bp_H} {na na' i i' : Nat} {fa fa' me me' : Int32} {lv lv' : Nat} {fr it en fr' it' en' : Bool} {v v' : Nat → Nat} {nt : List (Nat → Nat)} {tb nm tb' nm' : List Nat} {L L' : List (Nat × Nat)} {ps ps' : List (Nat × Nat × Nat)} {th w th' w' : Nat} {n n' : Int32} {d d' c s c' s' : Nat}
theorem BrX.i3 (hB : BrX mx c0 s0 A P T h0 na0 h na i fa me lv fr it en v nt tb nm L ps th w n d c s) : bp_I h (A 0) 3 = nI nt.length := hB.2.2.2.1.1
theorem BrX.i4 (hB : BrX mx c0 s0 A P T h0 na0 h na i fa me lv fr it en v nt tb nm L ps th w n d c s) : bp_I h (A 0) 4 = bI en := hB.2.2.2.1.2.1
theorem BrX.i5 (hB : BrX mx c0 s0 A P T h0 na0 h na i fa me lv fr it en v nt tb nm L ps th w n d c s) : bp_I h (A 0) 5 = bI fr := hB.2.2.2.1.2.2.1
theorem BrX.i6 (hB : BrX mx c0 s0 A P T h0 na0 h na i fa me lv fr it en v nt tb nm L ps th w n d c s) : bp_I h (A 0) 6 = nI lv := hB.2.2.2.1.2.2.2.1
theorem BrX.i7 (hB : BrX mx c0 s0 A P T h0 na0 h na i fa me lv fr it en v nt tb nm L ps th w n d c s) : bp_I h (A 0) 7 = bI it := hB.2.2.2.1.2.2.2.2.1
theorem BrX.i8 (hB : BrX mx c0 s0 A P T h0 na0 h na i fa me lv fr it en v nt tb nm L ps th w n d c s) : bp_I h (A 0) 8 = nI w := hB.2.2.2.1.2.2.2.2.2.1
theorem BrX.i9 (hB : BrX mx c0 s0 A P T h0 na0 h na i fa me lv fr it en v nt tb nm L ps th w n d c s) : bp_I h (A 0) 9 = n := hB.2.2.2.1.2.2.2.2.2.2.1
theorem BrX.i10 (hB : BrX mx c0 s0 A P T h0 na0 h na i fa me lv fr it en v nt tb nm L ps th w n d c s) : bp_I h (A 0) 10 = nI d := hB.2.2.2.1.2.2.2.2.2.2.2.1
theorem BrX.i13 (hB : BrX mx c0 s0 A P T h0 na0 h na i fa me lv fr it en v nt tb nm L ps th w n d c s) : bp_I h (A 0) 13 = nI i := hB.2.2.2.1.2.2.2.2.2.2.2.2.1
theorem BrX.i14 (hB : BrX mx c0 s0 A P T h0 na0 h na i fa me lv fr it en v nt tb nm L ps th w n d c s) : bp_I h (A 0) 14 = nI th := hB.2.2.2.1.2.2.2.2.2.2.2.2.2.1
theorem BrX.i15 (hB : BrX mx c0 s0 A P T h0 na0 h na i fa me lv fr it en v nt tb nm L ps th w n d c s) : bp_I h (A 0) 15 = fa := hB.2.2.2.1.2.2.2.2.2.2.2.2.2.2.1
theorem BrX.i16 (hB : BrX mx c0 s0 A P T h0 na0 h na i fa me lv fr it en v nt tb nm L ps th w n d c s) : bp_I h (A 0) 16 = me := hB.2.2.2.1.2.2.2.2.2.2.2.2.2.2.2
theorem BrX.kb (hB : BrX mx c0 s0 A P T h0 na0 h na i fa me lv fr it en v nt tb nm L ps th w n d c s) : bp_K h (A 0) = 9 := hB.2.2.1.1
theorem BrX.r0 (hB : BrX mx c0 s0 A P T h0 na0 h na i fa me lv fr it en v nt tb nm L ps th w n d c s) : bp_R h (A 0) 0 = some (A 1) := hB.2.2.1.2.1
theorem BrX.r1 (hB : BrX mx c0 s0 A P T h0 na0 h na i fa me lv fr it en v nt tb nm L ps th w n d c s) : bp_R h (A 0) 1 = some (A 2) := hB.2.2.1.2.2.1
theorem BrX.r2 (hB : BrX mx c0 s0 A P T h0 na0 h na i fa me lv fr it en v nt tb nm L ps th w n d c s) : bp_R h (A 0) 2 = some (A 3) := hB.2.2.1.2.2.2.1
theorem BrX.r11 (hB : BrX mx c0 s0 A P T h0 na0 h na i fa me lv fr it en v nt tb nm L ps th w n d c s) : bp_R h (A 0) 11 = some (A 6) := hB.2.2.1.2.2.2.2.1
theorem BrX.r12 (hB : BrX mx c0 s0 A P T h0 na0 h na i fa me lv fr it en v nt tb nm L ps th w n d c s) : bp_R h (A 0) 12 = some (P 0) := hB.2.2.1.2.2.2.2.2
theorem BrX.so (hB : BrX mx c0 s0 A P T h0 na0 h na i fa me lv fr it en v nt tb nm L ps th w n d c s) : So h (A 1) v := hB.2.2.2.2.1
theorem BrX.bn (hB : BrX mx c0 s0 A P T h0 na0 h na i fa me lv fr it en v nt tb nm L ps th w n d c s) : brN A h nt := hB.2.2.2.2.2.1
theorem BrX.ct (hB : BrX mx c0 s0 A P T h0 na0 h na i fa me lv fr it en v nt tb nm L ps th w n d c s) : Ct mx c0 s0 h (A 3) (A 4) (A 5) na tb nm c s := hB.2.2.2.2.2.2.1
theorem BrX.tx (hB : BrX mx c0 s0 A P T h0 na0 h na i fa me lv fr it en v nt tb nm L ps th w n d c s) : Rw h (A 6) (A 7) T := hB.2.2.2.2.2.2.2.1
theorem BrX.pg (hB : BrX mx c0 s0 A P T h0 na0 h na i fa me lv fr it en v nt tb nm L ps th w n d c s) : Pg h P L ps := hB.2.2.2.2.2.2.2.2
theorem BrX.ap (hB : BrX mx c0 s0 A P T h0 na0 h na i fa me lv fr it en v nt tb nm L ps th w n d c s) : bApt A P na := hB.2.1
theorem BrX.ko (hB : BrX mx c0 s0 A P T h0 na0 h na i fa me lv fr it en v nt tb nm L ps th w n d c s) : bp_K h (A 1) = 10 := hB.2.2.2.2.1.1
theorem BrX.ky (hB : BrX mx c0 s0 A P T h0 na0 h na i fa me lv fr it en v nt tb nm L ps th w n d c s) : bp_K h (A 2) = 5 := hB.2.2.2.2.2.1.1
theorem BrX.kt (hB : BrX mx c0 s0 A P T h0 na0 h na i fa me lv fr it en v nt tb nm L ps th w n d c s) : bp_K h (A 3) = 11 := hB.2.2.2.2.2.2.1.1
theorem BrX.kx (hB : BrX mx c0 s0 A P T h0 na0 h na i fa me lv fr it en v nt tb nm L ps th w n d c s) : bp_K h (A 6) = 7 := hB.2.2.2.2.2.2.2.1.1
theorem BrX.kp (hB : BrX mx c0 s0 A P T h0 na0 h na i fa me lv fr it en v nt tb nm L ps th w n d c s) : bp_K h (P 0) = 8 := hB.2.2.2.2.2.2.2.2.1
theorem BrX.at0 (hB : BrX mx c0 s0 A P T h0 na0 h na i fa me lv fr it en v nt tb nm L ps th w n d c s) (f : bp_Fi (fun x => x = A 0) h h') (hI : brI h' (A 0) i' fa' me' lv' fr' it' en' nt.length th' w' n' d') : BrX mx c0 s0 A P T h0 na0 h' na i' fa' me' lv' fr' it' en' v nt tb nm L ps th' w' n' d' c s := by
  obtain ⟨b1, b2, b3, b4, b5, b6, b7, b8, b9⟩ := hB
  exact ⟨b1.fi f (fun x hx => Or.inl (Or.inl ⟨0, by decide, by decide, by decide, hx⟩)), b2, b3.fi f, hI, b5.fi f (b2.aa 1 0), b6.fi f (fun k hk => b2.an 0 k hk), b7.fi f (b2.aa 3 0) (b2.aa 4 0) (b2.aa 5 0) (b2.2.2.1 0 (by decide)), b8.fi f (b2.aa 6 0) (b2.aa 7 0), b9.fi f (fun j hj => b2.2.1 j 0 hj (by decide))⟩
theorem BrX.s4 {x : Int32} (hB : BrX mx c0 s0 A P T h0 na0 h na i fa me lv fr it en v nt tb nm L ps th w n d c s) (hx : x = bI en') : BrX mx c0 s0 A P T h0 na0 (bp_sI h (A 0) 4 x) na i fa me lv fr it en' v nt tb nm L ps th w n d c s := hB.at0 (bp_Fi.sI rfl) ⟨by rw [bp_I_sI, if_neg (fun z => absurd z.2 (by decide))]; exact hB.2.2.2.1.1, by rw [bp_I_sI, if_pos ⟨rfl, rfl⟩]; exact hx, by rw [bp_I_sI, if_neg (fun z => absurd z.2 (by decide))]; exact hB.2.2.2.1.2.2.1, by rw [bp_I_sI, if_neg (fun z => absurd z.2 (by decide))]; exact hB.2.2.2.1.2.2.2.1, by rw [bp_I_sI, if_neg (fun z => absurd z.2 (by decide))]; exact hB.2.2.2.1.2.2.2.2.1, by rw [bp_I_sI, if_neg (fun z => absurd z.2 (by decide))]; exact hB.2.2.2.1.2.2.2.2.2.1, by rw [bp_I_sI, if_neg (fun z => absurd z.2 (by decide))]; exact hB.2.2.2.1.2.2.2.2.2.2.1, by rw [bp_I_sI, if_neg (fun z => absurd z.2 (by decide))]; exact hB.2.2.2.1.2.2.2.2.2.2.2.1, by rw [bp_I_sI, if_neg (fun z => absurd z.2 (by decide))]; exact hB.2.2.2.1.2.2.2.2.2.2.2.2.1, by rw [bp_I_sI, if_neg (fun z => absurd z.2 (by decide))]; exact hB.2.2.2.1.2.2.2.2.2.2.2.2.2.1, by rw [bp_I_sI, if_neg (fun z => absurd z.2 (by decide))]; exact hB.2.2.2.1.2.2.2.2.2.2.2.2.2.2.1, by rw [bp_I_sI, if_neg (fun z => absurd z.2 (by decide))]; exact hB.2.2.2.1.2.2.2.2.2.2.2.2.2.2.2⟩
theorem BrX.s5 {x : Int32} (hB : BrX mx c0 s0 A P T h0 na0 h na i fa me lv fr it en v nt tb nm L ps th w n d c s) (hx : x = bI fr') : BrX mx c0 s0 A P T h0 na0 (bp_sI h (A 0) 5 x) na i fa me lv fr' it en v nt tb nm L ps th w n d c s := hB.at0 (bp_Fi.sI rfl) ⟨by rw [bp_I_sI, if_neg (fun z => absurd z.2 (by decide))]; exact hB.2.2.2.1.1, by rw [bp_I_sI, if_neg (fun z => absurd z.2 (by decide))]; exact hB.2.2.2.1.2.1, by rw [bp_I_sI, if_pos ⟨rfl, rfl⟩]; exact hx, by rw [bp_I_sI, if_neg (fun z => absurd z.2 (by decide))]; exact hB.2.2.2.1.2.2.2.1, by rw [bp_I_sI, if_neg (fun z => absurd z.2 (by decide))]; exact hB.2.2.2.1.2.2.2.2.1, by rw [bp_I_sI, if_neg (fun z => absurd z.2 (by decide))]; exact hB.2.2.2.1.2.2.2.2.2.1, by rw [bp_I_sI, if_neg (fun z => absurd z.2 (by decide))]; exact hB.2.2.2.1.2.2.2.2.2.2.1, by rw [bp_I_sI, if_neg (fun z => absurd z.2 (by decide))]; exact hB.2.2.2.1.2.2.2.2.2.2.2.1, by rw [bp_I_sI, if_neg (fun z => absurd z.2 (by decide))]; exact hB.2.2.2.1.2.2.2.2.2.2.2.2.1, by rw [bp_I_sI, if_neg (fun z => absurd z.2 (by decide))]; exact hB.2.2.2.1.2.2.2.2.2.2.2.2.2.1, by rw [bp_I_sI, if_neg (fun z => absurd z.2 (by decide))]; exact hB.2.2.2.1.2.2.2.2.2.2.2.2.2.2.1, by rw [bp_I_sI, if_neg (fun z => absurd z.2 (by decide))]; exact hB.2.2.2.1.2.2.2.2.2.2.2.2.2.2.2⟩
theorem BrX.s6 {x : Int32} (hB : BrX mx c0 s0 A P T h0 na0 h na i fa me lv fr it en v nt tb nm L ps th w n d c s) (hx : x = nI lv') : BrX mx c0 s0 A P T h0 na0 (bp_sI h (A 0) 6 x) na i fa me lv' fr it en v nt tb nm L ps th w n d c s := hB.at0 (bp_Fi.sI rfl) ⟨by rw [bp_I_sI, if_neg (fun z => absurd z.2 (by decide))]; exact hB.2.2.2.1.1, by rw [bp_I_sI, if_neg (fun z => absurd z.2 (by decide))]; exact hB.2.2.2.1.2.1, by rw [bp_I_sI, if_neg (fun z => absurd z.2 (by decide))]; exact hB.2.2.2.1.2.2.1, by rw [bp_I_sI, if_pos ⟨rfl, rfl⟩]; exact hx, by rw [bp_I_sI, if_neg (fun z => absurd z.2 (by decide))]; exact hB.2.2.2.1.2.2.2.2.1, by rw [bp_I_sI, if_neg (fun z => absurd z.2 (by decide))]; exact hB.2.2.2.1.2.2.2.2.2.1, by rw [bp_I_sI, if_neg (fun z => absurd z.2 (by decide))]; exact hB.2.2.2.1.2.2.2.2.2.2.1, by rw [bp_I_sI, if_neg (fun z => absurd z.2 (by decide))]; exact hB.2.2.2.1.2.2.2.2.2.2.2.1, by rw [bp_I_sI, if_neg (fun z => absurd z.2 (by decide))]; exact hB.2.2.2.1.2.2.2.2.2.2.2.2.1, by rw [bp_I_sI, if_neg (fun z => absurd z.2 (by decide))]; exact hB.2.2.2.1.2.2.2.2.2.2.2.2.2.1, by rw [bp_I_sI, if_neg (fun z => absurd z.2 (by decide))]; exact hB.2.2.2.1.2.2.2.2.2.2.2.2.2.2.1, by rw [bp_I_sI, if_neg (fun z => absurd z.2 (by decide))]; exact hB.2.2.2.1.2.2.2.2.2.2.2.2.2.2.2⟩
theorem BrX.s7 {x : Int32} (hB : BrX mx c0 s0 A P T h0 na0 h na i fa me lv fr it en v nt tb nm L ps th w n d c s) (hx : x = bI it') : BrX mx c0 s0 A P T h0 na0 (bp_sI h (A 0) 7 x) na i fa me lv fr it' en v nt tb nm L ps th w n d c s := hB.at0 (bp_Fi.sI rfl) ⟨by rw [bp_I_sI, if_neg (fun z => absurd z.2 (by decide))]; exact hB.2.2.2.1.1, by rw [bp_I_sI, if_neg (fun z => absurd z.2 (by decide))]; exact hB.2.2.2.1.2.1, by rw [bp_I_sI, if_neg (fun z => absurd z.2 (by decide))]; exact hB.2.2.2.1.2.2.1, by rw [bp_I_sI, if_neg (fun z => absurd z.2 (by decide))]; exact hB.2.2.2.1.2.2.2.1, by rw [bp_I_sI, if_pos ⟨rfl, rfl⟩]; exact hx, by rw [bp_I_sI, if_neg (fun z => absurd z.2 (by decide))]; exact hB.2.2.2.1.2.2.2.2.2.1, by rw [bp_I_sI, if_neg (fun z => absurd z.2 (by decide))]; exact hB.2.2.2.1.2.2.2.2.2.2.1, by rw [bp_I_sI, if_neg (fun z => absurd z.2 (by decide))]; exact hB.2.2.2.1.2.2.2.2.2.2.2.1, by rw [bp_I_sI, if_neg (fun z => absurd z.2 (by decide))]; exact hB.2.2.2.1.2.2.2.2.2.2.2.2.1, by rw [bp_I_sI, if_neg (fun z => absurd z.2 (by decide))]; exact hB.2.2.2.1.2.2.2.2.2.2.2.2.2.1, by rw [bp_I_sI, if_neg (fun z => absurd z.2 (by decide))]; exact hB.2.2.2.1.2.2.2.2.2.2.2.2.2.2.1, by rw [bp_I_sI, if_neg (fun z => absurd z.2 (by decide))]; exact hB.2.2.2.1.2.2.2.2.2.2.2.2.2.2.2⟩
theorem BrX.s8 {x : Int32} (hB : BrX mx c0 s0 A P T h0 na0 h na i fa me lv fr it en v nt tb nm L ps th w n d c s) (hx : x = nI w') : BrX mx c0 s0 A P T h0 na0 (bp_sI h (A 0) 8 x) na i fa me lv fr it en v nt tb nm L ps th w' n d c s := hB.at0 (bp_Fi.sI rfl) ⟨by rw [bp_I_sI, if_neg (fun z => absurd z.2 (by decide))]; exact hB.2.2.2.1.1, by rw [bp_I_sI, if_neg (fun z => absurd z.2 (by decide))]; exact hB.2.2.2.1.2.1, by rw [bp_I_sI, if_neg (fun z => absurd z.2 (by decide))]; exact hB.2.2.2.1.2.2.1, by rw [bp_I_sI, if_neg (fun z => absurd z.2 (by decide))]; exact hB.2.2.2.1.2.2.2.1, by rw [bp_I_sI, if_neg (fun z => absurd z.2 (by decide))]; exact hB.2.2.2.1.2.2.2.2.1, by rw [bp_I_sI, if_pos ⟨rfl, rfl⟩]; exact hx, by rw [bp_I_sI, if_neg (fun z => absurd z.2 (by decide))]; exact hB.2.2.2.1.2.2.2.2.2.2.1, by rw [bp_I_sI, if_neg (fun z => absurd z.2 (by decide))]; exact hB.2.2.2.1.2.2.2.2.2.2.2.1, by rw [bp_I_sI, if_neg (fun z => absurd z.2 (by decide))]; exact hB.2.2.2.1.2.2.2.2.2.2.2.2.1, by rw [bp_I_sI, if_neg (fun z => absurd z.2 (by decide))]; exact hB.2.2.2.1.2.2.2.2.2.2.2.2.2.1, by rw [bp_I_sI, if_neg (fun z => absurd z.2 (by decide))]; exact hB.2.2.2.1.2.2.2.2.2.2.2.2.2.2.1, by rw [bp_I_sI, if_neg (fun z => absurd z.2 (by decide))]; exact hB.2.2.2.1.2.2.2.2.2.2.2.2.2.2.2⟩
theorem BrX.s9 {x : Int32} (hB : BrX mx c0 s0 A P T h0 na0 h na i fa me lv fr it en v nt tb nm L ps th w n d c s) (hx : x = n') : BrX mx c0 s0 A P T h0 na0 (bp_sI h (A 0) 9 x) na i fa me lv fr it en v nt tb nm L ps th w n' d c s := hB.at0 (bp_Fi.sI rfl) ⟨by rw [bp_I_sI, if_neg (fun z => absurd z.2 (by decide))]; exact hB.2.2.2.1.1, by rw [bp_I_sI, if_neg (fun z => absurd z.2 (by decide))]; exact hB.2.2.2.1.2.1, by rw [bp_I_sI, if_neg (fun z => absurd z.2 (by decide))]; exact hB.2.2.2.1.2.2.1, by rw [bp_I_sI, if_neg (fun z => absurd z.2 (by decide))]; exact hB.2.2.2.1.2.2.2.1, by rw [bp_I_sI, if_neg (fun z => absurd z.2 (by decide))]; exact hB.2.2.2.1.2.2.2.2.1, by rw [bp_I_sI, if_neg (fun z => absurd z.2 (by decide))]; exact hB.2.2.2.1.2.2.2.2.2.1, by rw [bp_I_sI, if_pos ⟨rfl, rfl⟩]; exact hx, by rw [bp_I_sI, if_neg (fun z => absurd z.2 (by decide))]; exact hB.2.2.2.1.2.2.2.2.2.2.2.1, by rw [bp_I_sI, if_neg (fun z => absurd z.2 (by decide))]; exact hB.2.2.2.1.2.2.2.2.2.2.2.2.1, by rw [bp_I_sI, if_neg (fun z => absurd z.2 (by decide))]; exact hB.2.2.2.1.2.2.2.2.2.2.2.2.2.1, by rw [bp_I_sI, if_neg (fun z => absurd z.2 (by decide))]; exact hB.2.2.2.1.2.2.2.2.2.2.2.2.2.2.1, by rw [bp_I_sI, if_neg (fun z => absurd z.2 (by decide))]; exact hB.2.2.2.1.2.2.2.2.2.2.2.2.2.2.2⟩
theorem BrX.s10 {x : Int32} (hB : BrX mx c0 s0 A P T h0 na0 h na i fa me lv fr it en v nt tb nm L ps th w n d c s) (hx : x = nI d') : BrX mx c0 s0 A P T h0 na0 (bp_sI h (A 0) 10 x) na i fa me lv fr it en v nt tb nm L ps th w n d' c s := hB.at0 (bp_Fi.sI rfl) ⟨by rw [bp_I_sI, if_neg (fun z => absurd z.2 (by decide))]; exact hB.2.2.2.1.1, by rw [bp_I_sI, if_neg (fun z => absurd z.2 (by decide))]; exact hB.2.2.2.1.2.1, by rw [bp_I_sI, if_neg (fun z => absurd z.2 (by decide))]; exact hB.2.2.2.1.2.2.1, by rw [bp_I_sI, if_neg (fun z => absurd z.2 (by decide))]; exact hB.2.2.2.1.2.2.2.1, by rw [bp_I_sI, if_neg (fun z => absurd z.2 (by decide))]; exact hB.2.2.2.1.2.2.2.2.1, by rw [bp_I_sI, if_neg (fun z => absurd z.2 (by decide))]; exact hB.2.2.2.1.2.2.2.2.2.1, by rw [bp_I_sI, if_neg (fun z => absurd z.2 (by decide))]; exact hB.2.2.2.1.2.2.2.2.2.2.1, by rw [bp_I_sI, if_pos ⟨rfl, rfl⟩]; exact hx, by rw [bp_I_sI, if_neg (fun z => absurd z.2 (by decide))]; exact hB.2.2.2.1.2.2.2.2.2.2.2.2.1, by rw [bp_I_sI, if_neg (fun z => absurd z.2 (by decide))]; exact hB.2.2.2.1.2.2.2.2.2.2.2.2.2.1, by rw [bp_I_sI, if_neg (fun z => absurd z.2 (by decide))]; exact hB.2.2.2.1.2.2.2.2.2.2.2.2.2.2.1, by rw [bp_I_sI, if_neg (fun z => absurd z.2 (by decide))]; exact hB.2.2.2.1.2.2.2.2.2.2.2.2.2.2.2⟩
theorem BrX.s13 {x : Int32} (hB : BrX mx c0 s0 A P T h0 na0 h na i fa me lv fr it en v nt tb nm L ps th w n d c s) (hx : x = nI i') : BrX mx c0 s0 A P T h0 na0 (bp_sI h (A 0) 13 x) na i' fa me lv fr it en v nt tb nm L ps th w n d c s := hB.at0 (bp_Fi.sI rfl) ⟨by rw [bp_I_sI, if_neg (fun z => absurd z.2 (by decide))]; exact hB.2.2.2.1.1, by rw [bp_I_sI, if_neg (fun z => absurd z.2 (by decide))]; exact hB.2.2.2.1.2.1, by rw [bp_I_sI, if_neg (fun z => absurd z.2 (by decide))]; exact hB.2.2.2.1.2.2.1, by rw [bp_I_sI, if_neg (fun z => absurd z.2 (by decide))]; exact hB.2.2.2.1.2.2.2.1, by rw [bp_I_sI, if_neg (fun z => absurd z.2 (by decide))]; exact hB.2.2.2.1.2.2.2.2.1, by rw [bp_I_sI, if_neg (fun z => absurd z.2 (by decide))]; exact hB.2.2.2.1.2.2.2.2.2.1, by rw [bp_I_sI, if_neg (fun z => absurd z.2 (by decide))]; exact hB.2.2.2.1.2.2.2.2.2.2.1, by rw [bp_I_sI, if_neg (fun z => absurd z.2 (by decide))]; exact hB.2.2.2.1.2.2.2.2.2.2.2.1, by rw [bp_I_sI, if_pos ⟨rfl, rfl⟩]; exact hx, by rw [bp_I_sI, if_neg (fun z => absurd z.2 (by decide))]; exact hB.2.2.2.1.2.2.2.2.2.2.2.2.2.1, by rw [bp_I_sI, if_neg (fun z => absurd z.2 (by decide))]; exact hB.2.2.2.1.2.2.2.2.2.2.2.2.2.2.1, by rw [bp_I_sI, if_neg (fun z => absurd z.2 (by decide))]; exact hB.2.2.2.1.2.2.2.2.2.2.2.2.2.2.2⟩
theorem BrX.s14 {x : Int32} (hB : BrX mx c0 s0 A P T h0 na0 h na i fa me lv fr it en v nt tb nm L ps th w n d c s) (hx : x = nI th') : BrX mx c0 s0 A P T h0 na0 (bp_sI h (A 0) 14 x) na i fa me lv fr it en v nt tb nm L ps th' w n d c s := hB.at0 (bp_Fi.sI rfl) ⟨by rw [bp_I_sI, if_neg (fun z => absurd z.2 (by decide))]; exact hB.2.2.2.1.1, by rw [bp_I_sI, if_neg (fun z => absurd z.2 (by decide))]; exact hB.2.2.2.1.2.1, by rw [bp_I_sI, if_neg (fun z => absurd z.2 (by decide))]; exact hB.2.2.2.1.2.2.1, by rw [bp_I_sI, if_neg (fun z => absurd z.2 (by decide))]; exact hB.2.2.2.1.2.2.2.1, by rw [bp_I_sI, if_neg (fun z => absurd z.2 (by decide))]; exact hB.2.2.2.1.2.2.2.2.1, by rw [bp_I_sI, if_neg (fun z => absurd z.2 (by decide))]; exact hB.2.2.2.1.2.2.2.2.2.1, by rw [bp_I_sI, if_neg (fun z => absurd z.2 (by decide))]; exact hB.2.2.2.1.2.2.2.2.2.2.1, by rw [bp_I_sI, if_neg (fun z => absurd z.2 (by decide))]; exact hB.2.2.2.1.2.2.2.2.2.2.2.1, by rw [bp_I_sI, if_neg (fun z => absurd z.2 (by decide))]; exact hB.2.2.2.1.2.2.2.2.2.2.2.2.1, by rw [bp_I_sI, if_pos ⟨rfl, rfl⟩]; exact hx, by rw [bp_I_sI, if_neg (fun z => absurd z.2 (by decide))]; exact hB.2.2.2.1.2.2.2.2.2.2.2.2.2.2.1, by rw [bp_I_sI, if_neg (fun z => absurd z.2 (by decide))]; exact hB.2.2.2.1.2.2.2.2.2.2.2.2.2.2.2⟩
theorem BrX.s15 {x : Int32} (hB : BrX mx c0 s0 A P T h0 na0 h na i fa me lv fr it en v nt tb nm L ps th w n d c s) (hx : x = fa') : BrX mx c0 s0 A P T h0 na0 (bp_sI h (A 0) 15 x) na i fa' me lv fr it en v nt tb nm L ps th w n d c s := hB.at0 (bp_Fi.sI rfl) ⟨by rw [bp_I_sI, if_neg (fun z => absurd z.2 (by decide))]; exact hB.2.2.2.1.1, by rw [bp_I_sI, if_neg (fun z => absurd z.2 (by decide))]; exact hB.2.2.2.1.2.1, by rw [bp_I_sI, if_neg (fun z => absurd z.2 (by decide))]; exact hB.2.2.2.1.2.2.1, by rw [bp_I_sI, if_neg (fun z => absurd z.2 (by decide))]; exact hB.2.2.2.1.2.2.2.1, by rw [bp_I_sI, if_neg (fun z => absurd z.2 (by decide))]; exact hB.2.2.2.1.2.2.2.2.1, by rw [bp_I_sI, if_neg (fun z => absurd z.2 (by decide))]; exact hB.2.2.2.1.2.2.2.2.2.1, by rw [bp_I_sI, if_neg (fun z => absurd z.2 (by decide))]; exact hB.2.2.2.1.2.2.2.2.2.2.1, by rw [bp_I_sI, if_neg (fun z => absurd z.2 (by decide))]; exact hB.2.2.2.1.2.2.2.2.2.2.2.1, by rw [bp_I_sI, if_neg (fun z => absurd z.2 (by decide))]; exact hB.2.2.2.1.2.2.2.2.2.2.2.2.1, by rw [bp_I_sI, if_neg (fun z => absurd z.2 (by decide))]; exact hB.2.2.2.1.2.2.2.2.2.2.2.2.2.1, by rw [bp_I_sI, if_pos ⟨rfl, rfl⟩]; exact hx, by rw [bp_I_sI, if_neg (fun z => absurd z.2 (by decide))]; exact hB.2.2.2.1.2.2.2.2.2.2.2.2.2.2.2⟩
theorem BrX.s16 {x : Int32} (hB : BrX mx c0 s0 A P T h0 na0 h na i fa me lv fr it en v nt tb nm L ps th w n d c s) (hx : x = me') : BrX mx c0 s0 A P T h0 na0 (bp_sI h (A 0) 16 x) na i fa me' lv fr it en v nt tb nm L ps th w n d c s := hB.at0 (bp_Fi.sI rfl) ⟨by rw [bp_I_sI, if_neg (fun z => absurd z.2 (by decide))]; exact hB.2.2.2.1.1, by rw [bp_I_sI, if_neg (fun z => absurd z.2 (by decide))]; exact hB.2.2.2.1.2.1, by rw [bp_I_sI, if_neg (fun z => absurd z.2 (by decide))]; exact hB.2.2.2.1.2.2.1, by rw [bp_I_sI, if_neg (fun z => absurd z.2 (by decide))]; exact hB.2.2.2.1.2.2.2.1, by rw [bp_I_sI, if_neg (fun z => absurd z.2 (by decide))]; exact hB.2.2.2.1.2.2.2.2.1, by rw [bp_I_sI, if_neg (fun z => absurd z.2 (by decide))]; exact hB.2.2.2.1.2.2.2.2.2.1, by rw [bp_I_sI, if_neg (fun z => absurd z.2 (by decide))]; exact hB.2.2.2.1.2.2.2.2.2.2.1, by rw [bp_I_sI, if_neg (fun z => absurd z.2 (by decide))]; exact hB.2.2.2.1.2.2.2.2.2.2.2.1, by rw [bp_I_sI, if_neg (fun z => absurd z.2 (by decide))]; exact hB.2.2.2.1.2.2.2.2.2.2.2.2.1, by rw [bp_I_sI, if_neg (fun z => absurd z.2 (by decide))]; exact hB.2.2.2.1.2.2.2.2.2.2.2.2.2.1, by rw [bp_I_sI, if_neg (fun z => absurd z.2 (by decide))]; exact hB.2.2.2.1.2.2.2.2.2.2.2.2.2.2.1, by rw [bp_I_sI, if_pos ⟨rfl, rfl⟩]; exact hx⟩
theorem BrX.o (hB : BrX mx c0 s0 A P T h0 na0 h na i fa me lv fr it en v nt tb nm L ps th w n d c s) (hS : So h' (A 1) v') (f : bp_Fi (fun x => x = A 1) h h') : BrX mx c0 s0 A P T h0 na0 h' na i fa me lv fr it en v' nt tb nm L ps th w n d c s := by
  obtain ⟨b1, b2, b3, b4, b5, b6, b7, b8, b9⟩ := hB
  exact ⟨b1.fi f (fun x hx => Or.inl (Or.inl ⟨1, by decide, by decide, by decide, hx⟩)), b2, b3.fi f, b4.sm (fun j => f.2.2.2 _ (b2.aa 0 1) j), hS, b6.fi f (fun k hk => b2.an 1 k hk), b7.fi f (b2.aa 3 1) (b2.aa 4 1) (b2.aa 5 1) (b2.2.2.1 1 (by decide)), b8.fi f (b2.aa 6 1) (b2.aa 7 1), b9.fi f (fun j hj => b2.2.1 j 1 hj (by decide))⟩
theorem BrX.n0 {k : Nat} (hB : BrX mx c0 s0 A P T h0 na0 h na i fa me lv fr it en v nt tb nm L ps th w n d c s) (hk : k < 12) (hk2 : nt.length ≤ k) (f : bp_Fi (fun x => x = A (8 + k)) h h') : BrX mx c0 s0 A P T h0 na0 h' na i fa me lv fr it en v nt tb nm L ps th w n d c s := by
  obtain ⟨b1, b2, b3, b4, b5, b6, b7, b8, b9⟩ := hB
  refine ⟨b1.fi f (fun x hx => Or.inl (Or.inl ⟨8 + k, by omega, by omega, by omega, hx⟩)), b2, b3.fi f, b4.sm (fun j => f.2.2.2 _ (fun z => b2.an 0 k hk z.symm) j), b5.fi f (fun z => b2.an 1 k hk z.symm), ⟨(f.K _).trans b6.1, (f.L _).trans b6.2.1, fun q hq => ⟨(f.R _ _).trans (b6.2.2.1 q hq).1, (f.K _).trans (b6.2.2.1 q hq).2⟩, b6.2.2.2.1, fun q hq => (b6.2.2.2.2 q hq).fi f (fun z => ?_)⟩, b7.fi f (fun z => b2.an 3 k hk z.symm) (fun z => b2.an 4 k hk z.symm) (fun z => b2.an 5 k hk z.symm) (b2.2.2.1 _ (by omega)), b8.fi f (fun z => b2.an 6 k hk z.symm) (fun z => b2.an 7 k hk z.symm), b9.fi f (fun j hj => b2.2.1 j _ hj (by omega))⟩
  have := b2.1 (8 + q) (8 + k) (by omega) (by omega) z
  omega
theorem BrX.push {u : Nat → Nat} {x : Int32} (hB : BrX mx c0 s0 A P T h0 na0 h na i fa me lv fr it en v nt tb nm L ps th w n d c s) (hx : x = nI (nt.length + 1)) (hl : nt.length < 12) (hS : So h (A (8 + nt.length)) u) : BrX mx c0 s0 A P T h0 na0 (bp_sI h (A 0) 3 x) na i fa me lv fr it en v (nt ++ [u]) tb nm L ps th w n d c s := by
  have f : bp_Fi (fun y => y = A 0) h (bp_sI h (A 0) 3 x) := bp_Fi.sI rfl
  obtain ⟨b1, b2, b3, b4, b5, b6, b7, b8, b9⟩ := hB
  refine ⟨b1.fi f (fun x hx => Or.inl (Or.inl ⟨0, by decide, by decide, by decide, hx⟩)), b2, b3.fi f, ⟨by rw [bp_I_sI, if_pos ⟨rfl, rfl⟩, hx, List.length_append]; rfl, by rw [bp_I_sI, if_neg (fun z => absurd z.2 (by decide))]; exact b4.2.1, by rw [bp_I_sI, if_neg (fun z => absurd z.2 (by decide))]; exact b4.2.2.1, by rw [bp_I_sI, if_neg (fun z => absurd z.2 (by decide))]; exact b4.2.2.2.1, by rw [bp_I_sI, if_neg (fun z => absurd z.2 (by decide))]; exact b4.2.2.2.2.1, by rw [bp_I_sI, if_neg (fun z => absurd z.2 (by decide))]; exact b4.2.2.2.2.2.1, by rw [bp_I_sI, if_neg (fun z => absurd z.2 (by decide))]; exact b4.2.2.2.2.2.2.1, by rw [bp_I_sI, if_neg (fun z => absurd z.2 (by decide))]; exact b4.2.2.2.2.2.2.2.1, by rw [bp_I_sI, if_neg (fun z => absurd z.2 (by decide))]; exact b4.2.2.2.2.2.2.2.2.1, by rw [bp_I_sI, if_neg (fun z => absurd z.2 (by decide))]; exact b4.2.2.2.2.2.2.2.2.2.1, by rw [bp_I_sI, if_neg (fun z => absurd z.2 (by decide))]; exact b4.2.2.2.2.2.2.2.2.2.2.1, by rw [bp_I_sI, if_neg (fun z => absurd z.2 (by decide))]; exact b4.2.2.2.2.2.2.2.2.2.2.2⟩, b5.fi f (b2.aa 1 0), ?_, b7.fi f (b2.aa 3 0) (b2.aa 4 0) (b2.aa 5 0) (b2.2.2.1 0 (by decide)), b8.fi f (b2.aa 6 0) (b2.aa 7 0), b9.fi f (fun j hj => b2.2.1 j 0 hj (by decide))⟩
  have b6' := b6.fi f (fun k hk => b2.an 0 k hk)
  refine ⟨b6'.1, b6'.2.1, b6'.2.2.1, by rw [List.length_append]; exact hl, fun k hk => ?_⟩
  unfold nt_
  by_cases e : k < nt.length
  · rw [List.getD_eq_getElem?_getD, List.getElem?_append_left e, ← List.getD_eq_getElem?_getD]
    exact b6'.2.2.2.2 k e
  · have e2 : k = nt.length := by rw [List.length_append] at hk; simp at hk; omega
    subst e2
    rw [List.getD_eq_getElem?_getD, List.getElem?_append_right (Nat.le_refl _), Nat.sub_self]
    exact hS.fi f (b2.an 0 _ hl)
theorem BrX.pop {l : List (Nat → Nat)} {u : Nat → Nat} {x : Int32} (hB : BrX mx c0 s0 A P T h0 na0 h na i fa me lv fr it en v (l ++ [u]) tb nm L ps th w n d c s) (hx : x = nI l.length) : BrX mx c0 s0 A P T h0 na0 (bp_sI h (A 0) 3 x) na i fa me lv fr it en v l tb nm L ps th w n d c s ∧ So (bp_sI h (A 0) 3 x) (A (8 + l.length)) u ∧ l.length < 12 := by
  have f : bp_Fi (fun y => y = A 0) h (bp_sI h (A 0) 3 x) := bp_Fi.sI rfl
  obtain ⟨b1, b2, b3, b4, b5, b6, b7, b8, b9⟩ := hB
  have hl : (l ++ [u]).length = l.length + 1 := by rw [List.length_append]; rfl
  have h12 := b6.2.2.2.1
  have b6' := b6.fi f (fun k hk => b2.an 0 k hk)
  have key : ∀ k, k < l.length → nt_ (l ++ [u]) k = nt_ l k := fun k hk => by
    unfold nt_
    rw [List.getD_eq_getElem?_getD, List.getElem?_append_left hk, ← List.getD_eq_getElem?_getD]
  refine ⟨⟨b1.fi f (fun x hx => Or.inl (Or.inl ⟨0, by decide, by decide, by decide, hx⟩)), b2, b3.fi f, ⟨by rw [bp_I_sI, if_pos ⟨rfl, rfl⟩, hx], by rw [bp_I_sI, if_neg (fun z => absurd z.2 (by decide))]; exact b4.2.1, by rw [bp_I_sI, if_neg (fun z => absurd z.2 (by decide))]; exact b4.2.2.1, by rw [bp_I_sI, if_neg (fun z => absurd z.2 (by decide))]; exact b4.2.2.2.1, by rw [bp_I_sI, if_neg (fun z => absurd z.2 (by decide))]; exact b4.2.2.2.2.1, by rw [bp_I_sI, if_neg (fun z => absurd z.2 (by decide))]; exact b4.2.2.2.2.2.1, by rw [bp_I_sI, if_neg (fun z => absurd z.2 (by decide))]; exact b4.2.2.2.2.2.2.1, by rw [bp_I_sI, if_neg (fun z => absurd z.2 (by decide))]; exact b4.2.2.2.2.2.2.2.1, by rw [bp_I_sI, if_neg (fun z => absurd z.2 (by decide))]; exact b4.2.2.2.2.2.2.2.2.1, by rw [bp_I_sI, if_neg (fun z => absurd z.2 (by decide))]; exact b4.2.2.2.2.2.2.2.2.2.1, by rw [bp_I_sI, if_neg (fun z => absurd z.2 (by decide))]; exact b4.2.2.2.2.2.2.2.2.2.2.1, by rw [bp_I_sI, if_neg (fun z => absurd z.2 (by decide))]; exact b4.2.2.2.2.2.2.2.2.2.2.2⟩, b5.fi f (b2.aa 1 0), ⟨b6'.1, b6'.2.1, b6'.2.2.1, by omega, fun k hk => key k hk ▸ b6'.2.2.2.2 k (by omega)⟩, b7.fi f (b2.aa 3 0) (b2.aa 4 0) (b2.aa 5 0) (b2.2.2.1 0 (by decide)), b8.fi f (b2.aa 6 0) (b2.aa 7 0), b9.fi f (fun j hj => b2.2.1 j 0 hj (by decide))⟩, ?_, by omega⟩
  have q := b6'.2.2.2.2 l.length (by omega)
  have e : nt_ (l ++ [u]) l.length = u := by
    unfold nt_
    rw [List.getD_eq_getElem?_getD, List.getElem?_append_right (Nat.le_refl _), Nat.sub_self]; rfl
  rw [e] at q
  exact q
theorem BrX.t (hB : BrX mx c0 s0 A P T h0 na0 h na i fa me lv fr it en v nt tb nm L ps th w n d c s) (hC : Ct mx c0 s0 h' (A 3) (A 4) (A 5) na tb' nm' c s) (f : bp_Fi (fun x => x = A 3 ∨ x = A 4 ∨ x = A 5) h h') : BrX mx c0 s0 A P T h0 na0 h' na i fa me lv fr it en v nt tb' nm' L ps th w n d c s := by
  obtain ⟨b1, b2, b3, b4, b5, b6, b7, b8, b9⟩ := hB
  exact ⟨b1.fi f (fun x hx => Or.inl (Or.inl (hx.elim (fun z => ⟨3, by decide, by decide, by decide, z⟩) (fun z => z.elim (fun z => ⟨4, by decide, by decide, by decide, z⟩) (fun z => ⟨5, by decide, by decide, by decide, z⟩))))), b2, b3.fi f, b4.sm (fun j => f.2.2.2 _ (fun z => z.elim (b2.aa 0 3) (fun z => z.elim (b2.aa 0 4) (b2.aa 0 5))) j), b5.fi f (fun z => z.elim (b2.aa 1 3) (fun z => z.elim (b2.aa 1 4) (b2.aa 1 5))), b6.fi f (fun k hk z => z.elim (b2.an 3 k hk) (fun z => z.elim (b2.an 4 k hk) (b2.an 5 k hk))), hC, b8.fi f (fun z => z.elim (b2.aa 6 3) (fun z => z.elim (b2.aa 6 4) (b2.aa 6 5))) (fun z => z.elim (b2.aa 7 3) (fun z => z.elim (b2.aa 7 4) (b2.aa 7 5))), b9.fi f (fun j hj z => z.elim (b2.2.1 j 3 hj (by decide)) (fun z => z.elim (b2.2.1 j 4 hj (by decide)) (b2.2.1 j 5 hj (by decide))))⟩
theorem BrX.p (hB : BrX mx c0 s0 A P T h0 na0 h na i fa me lv fr it en v nt tb nm L ps th w n d c s) (hP : Pg h' P L' ps') (f : bp_Fi (pF P) h h') : BrX mx c0 s0 A P T h0 na0 h' na i fa me lv fr it en v nt tb nm L' ps' th w n d c s := by
  obtain ⟨b1, b2, b3, b4, b5, b6, b7, b8, b9⟩ := hB
  have nP : ∀ j, j < 20 → ¬ pF P (A j) := fun j hj => fun ⟨q, hq, e⟩ => b2.2.1 q j hq hj e.symm
  exact ⟨b1.fi f (fun x hx => Or.inl (Or.inr (Or.inr hx))), b2, b3.fi f, b4.sm (fun j => f.2.2.2 _ (nP 0 (by decide)) j), b5.fi f (nP 1 (by decide)), b6.fi f (fun k hk => nP _ (by omega)), b7.fi f (nP 3 (by decide)) (nP 4 (by decide)) (nP 5 (by decide)) (fun ⟨q, hq, e⟩ => b2.2.2.2 q hq e), b8.fi f (nP 6 (by decide)) (nP 7 (by decide)), hP⟩
theorem BrX.tg (hB : BrX mx c0 s0 A P T h0 na0 h na i fa me lv fr it en v nt tb nm L ps th w n d c s) (hC : Ct mx c0 s0 h' (A 3) (A 4) (A 5) na' tb' nm' c' s') (f : gF (A 5) na h h' na') : BrX mx c0 s0 A P T h0 na0 h' na' i fa me lv fr it en v nt tb' nm' L ps th w n d c' s' := by
  obtain ⟨b1, b2, b3, b4, b5, b6, b7, b8, b9⟩ := hB
  have hs : ∀ x, bp_K h x ≠ 0 → x ≠ A 5 → x ≠ na → bp_sm h h' x := fun x hx h5 hn => f.1 x hx (fun z => z.elim h5 hn)
  have hA : ∀ j, j < 20 → j ≠ 5 → bp_K h (A j) ≠ 0 → bp_sm h h' (A j) := fun j hj h5 hk => hs _ hk (fun z => h5 (b2.1 j 5 hj (by decide) z)) (fun z => b2.2.2.1 j hj z.symm)
  have hP : ∀ j, j < 8 → bp_K h (P j) ≠ 0 → bp_sm h h' (P j) := fun j hj hk => hs _ hk (b2.2.1 j 5 hj (by decide)) (fun z => b2.2.2.2 j hj z.symm)
  have hna : ∀ x, bp_K h x ≠ 0 → x ≠ na → na' ≠ x := fun x hx hn z => by
    rcases f.2.2 with y | y
    · exact hn (z.symm.trans y)
    · rw [z] at y; exact hx y
  obtain ⟨k0, r0, r1, r2, r11, r12⟩ := b3
  have s0 := hA 0 (by decide) (by decide) (by rw [k0]; decide)
  have s1 := hA 1 (by decide) (by decide) (by rw [b5.1]; decide)
  have s2 := hA 2 (by decide) (by decide) (by rw [b6.1]; decide)
  have s6 := hA 6 (by decide) (by decide) (by rw [b8.1]; decide)
  have s7 := hA 7 (by decide) (by decide) (by rw [b8.2.2.2.1]; decide)
  have sk : ∀ k, k < 12 → bp_sm h h' (A (8 + k)) := fun k hk => hA _ (by omega) (by omega) (by rw [(b6.2.2.1 k hk).2]; decide)
  have kP : ∀ j, j < 8 → bp_K h (P j) ≠ 0 := fun j hj => by
    have e : j = 0 ∨ j = 1 ∨ j = 2 ∨ j = 3 ∨ j = 4 ∨ j = 5 ∨ j = 6 ∨ j = 7 := by omega
    rcases e with e | e | e | e | e | e | e | e <;> subst e
    · rw [b9.1]; decide
    · rw [b9.2.2.2.2.2.2.2.1.1]; decide
    · rw [b9.2.2.2.2.2.2.2.2.1.1]; decide
    · rw [b9.2.2.2.2.2.2.2.2.2.1.1]; decide
    · rw [b9.2.2.2.2.2.2.2.2.2.2.2.2.1.1]; decide
    · rw [b9.2.2.2.2.2.2.2.2.2.2.2.2.1.2.2.2.1]; decide
    · rw [b9.2.2.2.2.2.2.2.2.2.2.2.2.2.1.1]; decide
    · rw [b9.2.2.2.2.2.2.2.2.2.2.2.2.2.1.2.2.2.1]; decide
  have kA : ∀ j, j < 20 → bp_K h (A j) ≠ 0 := fun j hj => by
    by_cases h8 : 8 ≤ j
    · have := (b6.2.2.1 (j - 8) (by omega)).2
      rw [show 8 + (j - 8) = j by omega] at this
      rw [this]; decide
    · have e : j = 0 ∨ j = 1 ∨ j = 2 ∨ j = 3 ∨ j = 4 ∨ j = 5 ∨ j = 6 ∨ j = 7 := by omega
      rcases e with e | e | e | e | e | e | e | e <;> subst e
      · rw [k0]; decide
      · rw [b5.1]; decide
      · rw [b6.1]; decide
      · rw [b7.1]; decide
      · rw [b7.2.2.2.2.1]; decide
      · rw [b7.2.2.2.2.2.2.2.2.1.1.1]; decide
      · rw [b8.1]; decide
      · rw [b8.2.2.2.1]; decide
  refine ⟨b1.gf f (Or.inl ⟨5, by decide, by decide, by decide, rfl⟩), ⟨b2.1, b2.2.1, fun j hj => hna _ (kA j hj) (fun z => b2.2.2.1 j hj z.symm), fun j hj => hna _ (kP j hj) (fun z => b2.2.2.2 j hj z.symm)⟩, ⟨s0.1.trans k0, (s0.2.2.2.2 0).trans r0, (s0.2.2.2.2 1).trans r1, (s0.2.2.2.2 2).trans r2, (s0.2.2.2.2 11).trans r11, (s0.2.2.2.2 12).trans r12⟩, b4.sm s0.2.2.1, ⟨s1.1.trans b5.1, fun j hj => (s1.2.2.1 j).trans (b5.2 j hj)⟩, ⟨s2.1.trans b6.1, s2.2.1.trans b6.2.1, fun k hk => ⟨(s2.2.2.2.2 k).trans (b6.2.2.1 k hk).1, (sk k hk).1.trans (b6.2.2.1 k hk).2⟩, b6.2.2.2.1, fun k hk => ⟨(sk k (by have := b6.2.2.2.1; omega)).1.trans (b6.2.2.2.2 k hk).1, fun j hj => ((sk k (by have := b6.2.2.2.1; omega)).2.2.1 j).trans ((b6.2.2.2.2 k hk).2 j hj)⟩⟩, hC, ?_, b9.gr (fun j hj => hP j hj (kP j hj))⟩
  exact ⟨s6.1.trans b8.1, (s6.2.2.2.2 0).trans b8.2.1, (s6.2.2.1 1).trans b8.2.2.1, s7.1.trans b8.2.2.2.1, by rw [s7.2.1]; exact b8.2.2.2.2.1, by rw [s7.2.1]; exact b8.2.2.2.2.2.1, fun j hj => (s7.2.2.1 j).trans (b8.2.2.2.2.2.2 j hj)⟩
end BRP
section NX
variable {l : Launch} {G : bp_G} {H0 : Heap} {d : bp_Dp} {M : bp_M} {h : bp_H} {c s pc : Nat} {ls : List (Option Value)} {st : List Value} {Q : Outcome → bp_H → Nat → Nat → Prop}
theorem bp_nx {X : bp_H → Prop} (hx : X h) (w : ∀ h1, X h1 → bp_A l G H0 d M h1 c s pc ls st Q) : bp_A l G H0 d M h c s pc ls st Q := w h hx
end NX
