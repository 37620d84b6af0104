/-! rows that grow: RG: what is left of the room suffices for all that may still grow -/
def RG (mx c0 s0 : Nat) (h : bp_H) (r a : Nat) (xs : List Nat) (c s : Nat) : Prop := Rw h r a xs ∧ bp_L h a ≤ 2 * mx + 1 ∧ 2 * mx + 1 + c0 ≤ c + bp_L h a ∧ 4 * mx + 2 + s0 ≤ s + 2 * bp_L h a
def gF (r a : Nat) (h h' : bp_H) (a' : Nat) : Prop := bp_Fr (fun b => b = r ∨ b = a) h h' ∧ (∀ b, bp_K h b ≠ 0 → bp_K h' b = bp_K h b) ∧ (a' = a ∨ bp_K h a' = 0)
theorem gF.rf {r a : Nat} {h : bp_H} : gF r a h h a := ⟨bp_Fr.rf, fun _ _ => rfl, Or.inl rfl⟩
theorem gF.tr {r a a1 a2 : Nat} {h h1 h2 : bp_H} (f : gF r a h h1 a1) (g : gF r a1 h1 h2 a2) : gF r a h h2 a2 := by
  refine ⟨fun b hb hf => ?_, fun b hb => (g.2.1 b (by rw [f.2.1 b hb]; exact hb)).trans (f.2.1 b hb), ?_⟩
  · obtain ⟨e1, e2, e3, e4, e5⟩ := f.1 b hb hf
    obtain ⟨g1, g2, g3, g4, g5⟩ := g.1 b (by rw [e1]; exact hb) (fun z => hf (z.elim Or.inl (fun z => f.2.2.elim (fun y => Or.inr (z.trans y)) (fun y => absurd (z ▸ y) hb))))
    exact ⟨g1.trans e1, g2.trans e2, fun k => (g3 k).trans (e3 k), fun k => (g4 k).trans (e4 k), fun k => (g5 k).trans (e5 k)⟩
  · have key : ∀ b, bp_K h1 b = 0 → bp_K h b = 0 := fun b hb => by
      by_cases hz : bp_K h b = 0
      · exact hz
      · rw [f.2.1 b hz] at hb; exact hb
    rcases g.2.2 with rfl | z
    · exact f.2.2
    · exact Or.inr (key _ z)
theorem gF.fi {r a : Nat} {h h' : bp_H} (f : bp_Fi (fun b => b = r ∨ b = a) h h') : gF r a h h' a := ⟨f.fr, fun b _ => f.K b, Or.inl rfl⟩
theorem nI_mul (a b : Nat) : nI a * nI b = nI (a * b) := (Int32.ofNat_mul a b).symm
def gH (h : bp_H) (r a q N : Nat) : bp_H := bp_sR (bp_cp (bp_new h q 1 N) a q 0 0 (bp_L h a)) r 0 (some q)
theorem Rw.grow {h : bp_H} {r a q N : Nat} {xs : List Nat} (hR : Rw h r a xs) (hq : bp_K h q = 0) (hL : xs.length = bp_L h a) (hN : xs.length < N) (hN2 : N < 1000000) : Rw (gH h r a q N) r q xs ∧ bp_L (gH h r a q N) q = N ∧ gF r a h (gH h r a q N) q := by
  have hrq : r ≠ q := fun e => by have := hR.1; rw [e, hq] at this; cases this
  have haq : a ≠ q := fun e => by have := hR.2.2.2.1; rw [e, hq] at this; cases this
  have eI : ∀ b k, b ≠ q → bp_I (gH h r a q N) b k = bp_I h b k := fun b k hb => by
    show bp_I (bp_cp (bp_new h q 1 N) a q 0 0 (bp_L h a)) b k = _
    rw [bp_I_cp, if_neg hb, bp_I_new, if_neg hb]
  have eL : bp_L (gH h r a q N) q = N := by show bp_L (bp_new h q 1 N) q = N; rw [bp_L_new, if_pos rfl]
  have eK : ∀ b, b ≠ q → bp_K (gH h r a q N) b = bp_K h b := fun b hb => by show bp_K (bp_new h q 1 N) b = _; rw [bp_K_new, if_neg hb]
  refine ⟨⟨(eK r hrq).trans hR.1, ?_, (eI r 1 hrq).trans hR.2.2.1, ?_, by rw [eL]; omega, by rw [eL]; exact hN2, fun j hj => ?_⟩, eL, fun b hb hf => ?_, fun b hb => eK b (fun e => hb (e ▸ hq)), Or.inr hq⟩
  · show bp_R (bp_sR (bp_cp (bp_new h q 1 N) a q 0 0 (bp_L h a)) r 0 (some q)) r 0 = some q
    rw [bp_R_sR, if_pos ⟨rfl, rfl⟩]
  · show bp_K (bp_new h q 1 N) q = 1
    rw [bp_K_new, if_pos rfl]
  · show bp_I (bp_cp (bp_new h q 1 N) a q 0 0 (bp_L h a)) q j = _
    rw [bp_I_cp, if_pos rfl, va_cpy, if_pos ⟨Nat.zero_le _, by omega⟩, show 0 + (j - 0) = j by omega, bp_I_new, if_neg haq]
    exact hR.2.2.2.2.2.2 j hj
  · have hbq : b ≠ q := fun e => hb (e ▸ hq)
    refine ⟨eK b hbq, ?_, fun k => eI b k hbq, fun k => ?_, fun k => ?_⟩
    · show bp_L (bp_new h q 1 N) b = _; rw [bp_L_new, if_neg hbq]
    · show bp_J (bp_new h q 1 N) b k = _; rw [bp_J_new, if_neg hbq]
    · show bp_R (bp_sR (bp_cp (bp_new h q 1 N) a q 0 0 (bp_L h a)) r 0 (some q)) b k = _
      rw [bp_R_sR, if_neg (fun z => hf (Or.inl z.1))]
      show bp_R (bp_new h q 1 N) b k = _; rw [bp_R_new, if_neg hbq]
section ROWG
variable {l : Launch} {G : bp_G} {H0 : Heap} {h : bp_H} {c s r a mx c0 s0 : Nat} {xs : List Nat} {Q : Option Value → bp_H → Nat → Nat → Prop}
set_option maxRecDepth 100000 in
set_option maxHeartbeats 4000000 in
theorem tl_Row_put {v : Nat} (hR : Rw h r a xs) (hlt : xs.length < bp_L h a) (hQ : ∀ h', Rw h' r a (xs ++ [v]) → bp_L h' a = bp_L h a → bp_Fi (fun b => b = r ∨ b = a) h h' → Q none h' c s) : bp_A l G H0 (3, 63, false, false) M_Row_put h c s 31 [some (.ref r), some (.int (nI v))] [] (fun o h' c' s' => ∃ v, o = .returned v ∧ Q v h' c' s') := by
  refine bp_aload_n (q := 32) 17 rfl rfl rfl rfl ?_
  refine bp_getR (x := a) (q := 35) (ci := 1) (j := 0) 18 rfl rfl fl_Row_9_1 hR.1 rfl hR.2.1 ?_
  refine bp_aload_n (q := 36) 19 rfl rfl rfl rfl ?_
  refine bp_getI (q := 39) (ci := 1) (j := 1) 20 rfl rfl fl_Row_15_1 hR.1 rfl ?_
  refine bp_iload_n (q := 40) 21 rfl rfl rfl rfl ?_
  refine bp_iast (q := 41) 22 rfl rfl hR.2.2.2.1 (hR.in hlt)  ?_
  refine bp_aload_n (q := 42) 23 rfl rfl rfl rfl ?_
  refine bp_dup (q := 43) 24 rfl rfl rfl ?_
  refine bp_getI (q := 46) (ci := 1) (j := 1) 25 rfl rfl fl_Row_15_1 hR.1 rfl ?_
  refine bp_iconst (v := 1) (q := 47) 26 rfl rfl (by decide) ?_
  refine bp_iadd (q := 48) 27 rfl rfl ?_
  refine bp_putI (q := 51) (ci := 1) (j := 1) 28 rfl rfl fl_Row_15_1 cl1 hR.1 (fun r hr => by cases hr; rfl) (by decide) rfl rfl ?_
  exact bp_vret 29 rfl rfl  ⟨_, rfl, hQ _ (hR.push hlt) rfl ((bp_Fi.sI (Or.inr rfl)).tr (bp_Fi.sI (Or.inl rfl)))⟩
set_option maxRecDepth 100000 in
set_option maxHeartbeats 4000000 in
theorem s_Row_putg {x : Int32} {v : Nat} (hx : x = nI v) (hG : RG mx c0 s0 h r a xs c s) (hm : xs.length < mx) (hmx : mx < 100000) (hQ : ∀ h' a' c' s', RG mx c0 s0 h' r a' (xs ++ [v]) c' s' → gF r a h h' a' → Q none h' c' s') : bp_AM l G H0 (3, 63, false, false) M_Row_put h c s [.ref r, .int x] Q := by
  refine bp_of (ls := [some (.ref r), some (.int x)]) (by decide) dt_Row_put (Nat.le_of_ble_eq_true rfl) (fun q hq => hq) false ?_
  subst hx
  obtain ⟨hR, hB⟩ := hG
  refine bp_aload_n (q := 1) 0 rfl rfl rfl rfl ?_
  refine bp_getI (q := 4) (ci := 1) (j := 1) 1 rfl rfl fl_Row_15_1 hR.1 rfl ?_
  refine bp_aload_n (q := 5) 2 rfl rfl rfl rfl ?_
  refine bp_getR (x := a) (q := 8) (ci := 1) (j := 0) 3 rfl rfl fl_Row_9_1 hR.1 rfl hR.2.1 ?_
  refine bp_alen (q := 9) 4 rfl rfl (Or.inl hR.2.2.2.1) rfl ?_
  refine bp_icmp_ne (q := 12) (tgt := 31) 5 rfl rfl (by decide) (fun z9 => ?_) (fun z9 => ?_)
  · have hlt : xs.length < bp_L h a := by
      have := hR.2.2.2.2.1
      by_cases e : xs.length = bp_L h a
      · exact absurd (by rw [hR.2.2.1, e]; rfl) z9
      · omega
    exact tl_Row_put hR (by omega) (fun h2 hA e f => hQ _ _ _ _ ⟨hA, by rw [e]; exact hB.1, by rw [e]; exact hB.2.1, by rw [e]; exact hB.2.2⟩ (gF.fi f))
  · have hLa : xs.length = bp_L h a := by
      rw [hR.2.2.1] at z9
      have e0 : nI xs.length = nI (bp_L h a) := z9
      exact (nI_eq (by have := hR.len; omega) (by have := hR.2.2.2.2.2.1; omega)).mp e0
    obtain ⟨c1, rfl⟩ : ∃ c1, c = c1 + 1 := ⟨c - 1, by omega⟩
    obtain ⟨s1, rfl⟩ : ∃ s1, s = s1 + (2 * xs.length + 1) := ⟨s - (2 * xs.length + 1), by omega⟩
    have eN : (2 : Int32) * bp_I h r 1 + 1 = nI (2 * xs.length + 1) := by
      rw [hR.2.2.1, show (2 : Int32) = nI 2 from rfl, nI_mul]
      exact nI_1 _
    refine bp_aload_n (q := 13) 6 rfl rfl rfl rfl ?_
    refine bp_aload_n (q := 14) 7 rfl rfl rfl rfl ?_
    refine bp_getR (x := a) (q := 17) (ci := 1) (j := 0) 8 rfl rfl fl_Row_9_1 hR.1 rfl hR.2.1 ?_
    refine bp_iconst (v := 2) (q := 18) 9 rfl rfl (by decide) ?_
    refine bp_aload_n (q := 19) 10 rfl rfl rfl rfl ?_
    refine bp_getI (q := 22) (ci := 1) (j := 1) 11 rfl rfl fl_Row_15_1 hR.1 rfl ?_
    refine bp_imul (q := 23) 12 rfl rfl ?_
    refine bp_iconst (v := 1) (q := 24) 13 rfl rfl (by decide) ?_
    refine bp_iadd (q := 25) 14 rfl rfl ?_
    rw [eN]
    refine bp_callS (q := 28) 15 rfl rfl cw_JA_copyOf lk_Row_19 wd489 rfl rfl (Nat.le_of_ble_eq_true rfl) ⟨Nat.le_of_ble_eq_true rfl, Nat.le_of_ble_eq_true rfl⟩ (s_JA_copyOf (N := 2 * xs.length + 1) hR.2.2.2.1 (by omega) (by omega) (fun q hq => ?_))
    obtain ⟨hR2, hL2, hF2⟩ := hR.grow (N := 2 * xs.length + 1) hq hLa (by omega) (by omega)
    refine bp_putR (q := 31) (ci := 1) (j := 0) 16 rfl rfl fl_Row_9_1 cl1 hR2.1 (fun r hr => by cases hr; exact Or.inl rfl) (Or.inr ⟨_, rfl⟩) rfl ?_
    exact tl_Row_put hR2 (Nat.lt_of_lt_of_eq (by omega) hL2.symm) (fun h2 hA e f => by have e2 : bp_L h2 q = 2 * xs.length + 1 := e.trans hL2; exact hQ _ _ _ _ ⟨hA, by rw [e2]; omega, by rw [e2]; omega, by rw [e2]; omega⟩ (hF2.tr (gF.fi f)))
end ROWG
