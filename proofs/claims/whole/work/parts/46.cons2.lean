/-! the braced reader and the whole object are made -/
def qF (h : bp_H) (a i : Nat) (N : Nat → Nat) : Prop := bp_K h a = 5 ∧ bp_L h a = 12 ∧ ∀ k, k < i → bp_R h a k = some (N k)
def sF (h : bp_H) (i : Nat) (N : Nat → Nat) : Prop := ∀ k, k < i → oF h (N k) 10 (fun _ => none)
theorem qF.sm {h h' : bp_H} {a i : Nat} {N : Nat → Nat} (H : qF h a i N) (e : bp_sm h h' a) : qF h' a i N := ⟨e.1.trans H.1, e.2.1.trans H.2.1, fun k hk => (e.2.2.2.2 k).trans (H.2.2 k hk)⟩
theorem qF.ne {h : bp_H} {a b i : Nat} {N : Nat → Nat} (H : qF h a i N) (hb : bp_K h b = 0) : b ≠ a := fun e => by have := H.1; rw [← e, hb] at this; cases this
theorem qF.new {h : bp_H} {a b kd n i : Nat} {N : Nat → Nat} (H : qF h a i N) (hb : bp_K h b = 0) : qF (bp_new h b kd n) a i N := H.sm (bp_sm.new (H.ne hb).symm)
theorem qF.sR {h : bp_H} {a b j i : Nat} {x : Option Nat} {N : Nat → Nat} (H : qF h a i N) (hn : a ≠ b) : qF (bp_sR h b j x) a i N := ⟨H.1, H.2.1, fun k hk => by rw [bp_R_sR, if_neg (fun z => hn z.1)]; exact H.2.2 k hk⟩
theorem qF.nf {h h' : bp_H} {a b i : Nat} {N : Nat → Nat} (H : qF h a i N) (f : nF b h h') (hn : a ≠ b) : qF h' a i N := H.sm (f.1 a (by rw [H.1]; decide) hn)
theorem sF.new {h : bp_H} {b kd n i : Nat} {N : Nat → Nat} (H : sF h i N) (hb : bp_K h b = 0) : sF (bp_new h b kd n) i N := fun k hk => (H k hk).new hb (by decide)
theorem sF.sR {h : bp_H} {b j i : Nat} {x : Option Nat} {N : Nat → Nat} (H : sF h i N) (hn : ∀ k, k < i → N k ≠ b) : sF (bp_sR h b j x) i N := fun k hk => (H k hk).sR (hn k hk)
theorem sF.nf {h h' : bp_H} {b i : Nat} {N : Nat → Nat} (H : sF h i N) (f : nF b h h') (hn : ∀ k, k < i → N k ≠ b) : sF h' i N := fun k hk => (H k hk).nf f (by decide) (hn k hk)
theorem sF.ne {h : bp_H} {b i : Nat} {N : Nat → Nat} (H : sF h i N) (hb : bp_K h b = 0) : ∀ k, k < i → b ≠ N k := fun k hk => (H k hk).ne hb (by decide)
theorem oF.ko {h : bp_H} {o p k k' : Nat} {R R' : Nat → Option Nat} (H : oF h o k R) (H' : oF h p k' R') (hk : k ≠ k') : o ≠ p := fun e => hk (by rw [← H.1, ← H'.1, e])
theorem oF.ka {h : bp_H} {o p k k' n : Nat} {R : Nat → Option Nat} (H : oF h o k R) (H' : aF h p k' n) (hk : k ≠ k') : o ≠ p := fun e => hk (by rw [← H.1, ← H'.1, e])
theorem oF.kq {h : bp_H} {o p k i : Nat} {R : Nat → Option Nat} {N : Nat → Nat} (H : oF h o k R) (H' : qF h p i N) (hk : k ≠ 5) : o ≠ p := fun e => hk (by rw [← H.1, ← H'.1, e])
theorem aF.kq {h : bp_H} {o p k i n : Nat} {N : Nat → Nat} (H : aF h o k n) (H' : qF h p i N) (hk : k ≠ 5) : o ≠ p := fun e => hk (by rw [← H.1, ← H'.1, e])
/-- the braced reader b while its noted states are made: its state, their array, the table, its array, its row, the row's array -/
def brB (h0 h : bp_H) (b a1 a2 t ca nr na : Nat) (R Rt Rn : Nat → Option Nat) (i : Nat) (N : Nat → Nat) : Prop := oF h b 9 R ∧ oF h a1 10 (fun _ => none) ∧ qF h a2 i N ∧ oF h t 11 Rt ∧ aF h ca 1 8 ∧ oF h nr 7 Rn ∧ aF h na 1 16 ∧ sF h i N ∧ (∀ k, k < i → bp_K h0 (N k) = 0 ∧ N k ≠ a1) ∧ (∀ j k, j < i → k < i → N j = N k → j = k) ∧ bp_K h0 a2 = 0 ∧ nF b h0 h
theorem brB.step {h0 h : bp_H} {b a1 a2 t ca nr na i a : Nat} {R Rt Rn : Nat → Option Nat} {N : Nat → Nat} (H : brB h0 h b a1 a2 t ca nr na R Rt Rn i N) (ha : bp_K h a = 0) : brB h0 (bp_sR (bp_new h a 10 0) a2 i (some a)) b a1 a2 t ca nr na R Rt Rn (i + 1) (bp_u1 N i a) := by
  obtain ⟨f0, f1, f2, f3, f4, f5, f6, f7, f8, f9, z2, g⟩ := H
  have g2 : qF (bp_new h a 10 0) a2 i N := f2.new ha
  have na2 : a ≠ a2 := f2.ne ha
  have nN : ∀ k, k < i → a ≠ N k := f7.ne ha
  have e1 : ∀ k, k < i → bp_u1 N i a k = N k := fun k hk => u1_ne (by omega)
  have e2 : bp_u1 N i a i = a := u1_same
  refine ⟨(f0.new ha (by decide)).sR (f0.kq f2 (by decide)), (f1.new ha (by decide)).sR (f1.kq f2 (by decide)), ⟨g2.1, g2.2.1, fun k hk => ?_⟩, (f3.new ha (by decide)).sR (f3.kq f2 (by decide)), (f4.new ha (by decide)).sR (f4.kq f2 (by decide)), (f5.new ha (by decide)).sR (f5.kq f2 (by decide)), (f6.new ha (by decide)).sR (f6.kq f2 (by decide)), fun k hk => ?_, fun k hk => ?_, fun j k hj hk e => ?_, z2, (g.tr (nF.new ha)).sub nF.sR z2⟩
  · rw [bp_R_sR]
    by_cases e : k = i
    · rw [if_pos ⟨rfl, e⟩, e, e2]
    · rw [if_neg (fun z => e z.2), e1 k (by omega)]; exact g2.2.2 k (by omega)
  · by_cases e : k = i
    · rw [e, e2]; exact oF_new.sR na2
    · rw [e1 k (by omega)]; exact ((f7 k (by omega)).new ha (by decide)).sR ((f7 k (by omega)).kq f2 (by decide))
  · by_cases e : k = i
    · rw [e, e2]; exact ⟨g.z ha, f1.ne ha (by decide)⟩
    · rw [e1 k (by omega)]; exact f8 k (by omega)
  · by_cases ej : j = i
    · by_cases ek : k = i
      · omega
      · rw [ej, e2, e1 k (by omega)] at e; exact absurd e (nN k (by omega))
    · by_cases ek : k = i
      · rw [ek, e2, e1 j (by omega)] at e; exact absurd e.symm (nN j (by omega))
      · rw [e1 j (by omega), e1 k (by omega)] at e; exact f9 j k (by omega) (by omega) e
section CONS2
variable {l : Launch} {G : bp_G} {H0 : Heap} {h : bp_H} {c s : Nat} {Q : Option Value → bp_H → Nat → Nat → Prop}
set_option maxRecDepth 100000 in
set_option maxHeartbeats 4000000 in
theorem lp_BR_init {h0 : bp_H} {b x y a1 a2 t ca nr na : Nat} {R Rt Rn : Nat → Option Nat} (hR : R 1 = some a2) (hQ : ∀ h' N, brB h0 h' b a1 a2 t ca nr na R Rt Rn 12 N → Q none h' c s) : ∀ (m i : Nat) (h : bp_H) (N : Nat → Nat), m + i = 12 → brB h0 h b a1 a2 t ca nr na R Rt Rn i N → bp_A l G H0 (3, 61, false, false) M_BR_init h (c + m) (s + 6 * m) 39 [some (.ref b), some (.ref x), some (.ref y), some (.int (nI i))] [] (fun o h' c' s' => ∃ v, o = .returned v ∧ Q v h' c' s') := by
  intro m
  induction m with
  | zero =>
    intro i h N hm H
    have hi : i = 12 := by omega
    subst hi
    refine bp_iload_n (q := 40) 20 rfl rfl rfl rfl ?_
    refine bp_bipush (v := 12) (q := 42) 21 rfl rfl (by decide) ?_
    refine bp_icmp_ge (q := 45) (tgt := 64) 22 rfl rfl (by decide) (fun z42 => ?_) (fun z42 => ?_)
    · exact bp_vret 32 rfl rfl ⟨_, rfl, hQ _ _ H⟩
    · exact absurd (nI_le (Nat.le_refl 12) (by decide)) z42
  | succ m ih =>
    intro i h N hm H
    rw [show s + 6 * (m + 1) = s + 6 * m + 6 from by omega]
    refine bp_iload_n (q := 40) 20 rfl rfl rfl rfl ?_
    refine bp_bipush (v := 12) (q := 42) 21 rfl rfl (by decide) ?_
    refine bp_icmp_ge (q := 45) (tgt := 64) 22 rfl rfl (by decide) (fun z42 => ?_) (fun z42 => ?_)
    · exact absurd z42 (nI_ge (a := i) (b := 12) (by omega) (by decide))
    · refine bp_aload_n (q := 46) 23 rfl rfl rfl rfl ?_
      refine bp_getR (x := a2) (q := 49) (ci := 3) (j := 1) 24 rfl rfl fl_BR_20_3 H.1.1 rfl ((H.1.2.2 1).trans hR) ?_
      refine bp_iload_n (q := 50) 25 rfl rfl rfl rfl ?_
      refine bp_newo (c := c + m) (s := s + 6 * m) (n := 6) (q := 53) 26 rfl rfl nw_BR_9 cl4 (fun a ha => ?_)
      refine bp_dup (q := 54) 27 rfl rfl rfl ?_
      refine bp_callI (q := 57) 28 rfl rfl cw_St_init lk_BR_11 rfl rfl wd176 rfl rfl (Nat.le_of_ble_eq_true rfl) ⟨Nat.le_of_ble_eq_true rfl, Nat.le_of_ble_eq_true rfl⟩ (s_St_init ?_)
      have g2 := H.2.2.1.new (kd := 10) (n := 0) ha
      refine bp_aast (ci := 4) (q := 58) 29 rfl rfl g2.1 (oF_new (h := h) (a := a) (kd := 10) (n := 0)).1 rfl rfl (by rw [g2.2.1]; exact vp_in_nI (by omega) (by decide)) ?_
      rw [nI_clamp (by omega)]
      refine bp_iinc (v := nI (i + 1)) (q := 61) 30 rfl rfl rfl (nI_1 i) (by decide) (bp_up3 rfl) ?_
      refine bp_goto (tgt := 39) 31 rfl (by decide) ?_
      exact ih (i + 1) _ _ (by omega) (H.step ha)
set_option maxRecDepth 100000 in
set_option maxHeartbeats 4000000 in
theorem s_BR_init {b x y : Nat} (F0_0 : oF h b 9 (fun _ => none)) (hQ : ∀ h' a7 a20 a27 a31_1 a31_2 a31_3 N, bp_K h a7 = 0 → bp_K h a20 = 0 → bp_K h a27 = 0 → bp_K h a31_1 = 0 → bp_K h a31_2 = 0 → bp_K h a31_3 = 0 → [a31_3, a31_2, a31_1, a27, a20, a7, b].Nodup → brB h h' b a7 a20 a27 a31_1 a31_2 a31_3 (bp_u1 (bp_u1 (bp_u1 (bp_u1 (bp_u1 (fun _ => none) 11 (some x)) 12 (some y)) 0 (some a7)) 1 (some a20)) 2 (some a27)) (bp_u1 (bp_u1 (fun _ => none) 0 (some a31_1)) 1 (some a31_2)) (bp_u1 (fun _ => none) 0 (some a31_3)) 12 N → Q none h' c s) : bp_AM l G H0 (3, 61, false, false) M_BR_init h (c + 18) (s + 119) [.ref b, .ref x, .ref y] Q := by
  refine bp_of (ls := [some (.ref b), some (.ref x), some (.ref y), none]) (by decide) dt_BR_init (Nat.le_of_ble_eq_true rfl) (fun q hq => hq) false ?_
  refine bp_aload_n (q := 1) 0 rfl rfl rfl rfl ?_
  refine bp_aload_n (q := 2) 1 rfl rfl rfl rfl ?_
  refine bp_aload_n (q := 3) 2 rfl rfl rfl rfl ?_
  refine bp_callI (q := 6) 3 rfl rfl cw_Rd_init lk_BR_3 rfl rfl wd170 rfl rfl (Nat.le_of_ble_eq_true rfl) ⟨Nat.le_of_ble_eq_true rfl, Nat.le_of_ble_eq_true rfl⟩ (s_Rd3_init F0_0 (fun h1 E_0 f1 => ?_))
  have F1_0 := E_0
  have g1 := (nF.rf).tr f1
  refine bp_aload_n (q := 7) 4 rfl rfl rfl rfl ?_
  refine bp_newo (c := c + 17) (s := s + 113) (n := 6) (q := 10) 5 rfl rfl nw_BR_9 cl4 (fun a7 n_a7 => ?_)
  have d_a7_b := F1_0.ne n_a7 (by decide)
  have z_a7 := (g1).z n_a7
  refine bp_nx (X := fun h2 => oF h2 b 9 (bp_u1 (bp_u1 (fun _ => none) 11 (some x)) 12 (some y)) ∧ oF h2 a7 10 (fun _ => none) ∧ nF b h h2) ⟨F1_0.new n_a7 (by decide), oF_new, (g1).tr (nF.new n_a7)⟩ (fun h2 ⟨F2_0, F2_1, g2⟩ => ?_)
  refine bp_dup (q := 11) 6 rfl rfl rfl ?_
  refine bp_callI (q := 14) 7 rfl rfl cw_St_init lk_BR_11 rfl rfl wd176 rfl rfl (Nat.le_of_ble_eq_true rfl) ⟨Nat.le_of_ble_eq_true rfl, Nat.le_of_ble_eq_true rfl⟩ (s_St_init ?_)
  refine bp_putR (q := 17) (ci := 3) (j := 0) 8 rfl rfl fl_BR_14_3 cl3 F2_0.1 (fun r hr => by cases hr; exact Or.inr ⟨rfl, rfl, rfl, _, wd223, rfl⟩) (Or.inl ⟨_, rfl⟩) rfl ?_
  refine bp_nx (X := fun h3 => oF h3 b 9 (bp_u1 (bp_u1 (bp_u1 (fun _ => none) 11 (some x)) 12 (some y)) 0 (some a7)) ∧ oF h3 a7 10 (fun _ => none) ∧ nF b h h3) ⟨F2_0.set, F2_1.sR d_a7_b, (g2).tr nF.sR⟩ (fun h3 ⟨F3_0, F3_1, g3⟩ => ?_)
  refine bp_aload_n (q := 18) 9 rfl rfl rfl rfl ?_
  refine bp_bipush (v := 12) (q := 20) 10 rfl rfl (by decide) ?_
  refine bp_newq (c := c + 16) (s := s + 101) (N := 12) (q := 23) 11 rfl rfl wd173 wd204 (by decide) rfl (by decide) (fun a20 n_a20 => ?_)
  have d_a20_b := F3_0.ne n_a20 (by decide)
  have d_a20_a7 := F3_1.ne n_a20 (by decide)
  have z_a20 := (g3).z n_a20
  refine bp_nx (X := fun h4 => oF h4 b 9 (bp_u1 (bp_u1 (bp_u1 (fun _ => none) 11 (some x)) 12 (some y)) 0 (some a7)) ∧ oF h4 a7 10 (fun _ => none) ∧ aF h4 a20 5 12 ∧ nF b h h4) ⟨F3_0.new n_a20 (by decide), F3_1.new n_a20 (by decide), aF_new, (g3).tr (nF.new n_a20)⟩ (fun h4 ⟨F4_0, F4_1, F4_2, g4⟩ => ?_)
  refine bp_putR (q := 26) (ci := 3) (j := 1) 12 rfl rfl fl_BR_20_3 cl3 F4_0.1 (fun r hr => by cases hr; exact Or.inr ⟨rfl, rfl, rfl, _, wd224, rfl⟩) (Or.inr ⟨_, rfl⟩) rfl ?_
  refine bp_nx (X := fun h5 => oF h5 b 9 (bp_u1 (bp_u1 (bp_u1 (bp_u1 (fun _ => none) 11 (some x)) 12 (some y)) 0 (some a7)) 1 (some a20)) ∧ oF h5 a7 10 (fun _ => none) ∧ aF h5 a20 5 12 ∧ nF b h h5) ⟨F4_0.set, F4_1.sR d_a7_b, F4_2.sR d_a20_b, (g4).tr nF.sR⟩ (fun h5 ⟨F5_0, F5_1, F5_2, g5⟩ => ?_)
  refine bp_aload_n (q := 27) 13 rfl rfl rfl rfl ?_
  refine bp_newo (c := c + 15) (s := s + 98) (n := 3) (q := 30) 14 rfl rfl nw_BR_24 cl5 (fun a27 n_a27 => ?_)
  have d_a27_b := F5_0.ne n_a27 (by decide)
  have d_a27_a7 := F5_1.ne n_a27 (by decide)
  have d_a27_a20 := F5_2.ne n_a27 (by decide)
  have z_a27 := (g5).z n_a27
  refine bp_nx (X := fun h6 => oF h6 b 9 (bp_u1 (bp_u1 (bp_u1 (bp_u1 (fun _ => none) 11 (some x)) 12 (some y)) 0 (some a7)) 1 (some a20)) ∧ oF h6 a7 10 (fun _ => none) ∧ aF h6 a20 5 12 ∧ oF h6 a27 11 (fun _ => none) ∧ nF b h h6) ⟨F5_0.new n_a27 (by decide), F5_1.new n_a27 (by decide), F5_2.new n_a27 (by decide), oF_new, (g5).tr (nF.new n_a27)⟩ (fun h6 ⟨F6_0, F6_1, F6_2, F6_3, g6⟩ => ?_)
  refine bp_dup (q := 31) 15 rfl rfl rfl ?_
  refine bp_callI (q := 34) 16 rfl rfl cw_CT_init lk_BR_26 rfl rfl wd208 rfl rfl (Nat.le_of_ble_eq_true rfl) ⟨Nat.le_of_ble_eq_true rfl, Nat.le_of_ble_eq_true rfl⟩ (s_CT_init (c := c + 12) (s := s + 72) F6_3 (fun h7 a31_1 a31_2 a31_3 y_a31_1 y_a31_2 y_a31_3 E_0 E_1 E_2 E_3 nd7 f7 => ?_))
  have F7_0 := F6_0.nf f7 (by decide) (d_a27_b).symm
  have F7_1 := F6_1.nf f7 (by decide) (d_a27_a7).symm
  have F7_2 := F6_2.nf f7 (by decide) (d_a27_a20).symm
  have F7_3 := E_0
  have F7_4 := E_1
  have d_a31_1_b := F6_0.ne y_a31_1 (by decide)
  have d_a31_1_a7 := F6_1.ne y_a31_1 (by decide)
  have d_a31_1_a20 := F6_2.ne y_a31_1 (by decide)
  have d_a31_1_a27 := F6_3.ne y_a31_1 (by decide)
  have z_a31_1 := (g6).z y_a31_1
  have F7_5 := E_2
  have d_a31_2_b := F6_0.ne y_a31_2 (by decide)
  have d_a31_2_a7 := F6_1.ne y_a31_2 (by decide)
  have d_a31_2_a20 := F6_2.ne y_a31_2 (by decide)
  have d_a31_2_a27 := F6_3.ne y_a31_2 (by decide)
  have z_a31_2 := (g6).z y_a31_2
  have F7_6 := E_3
  have d_a31_3_b := F6_0.ne y_a31_3 (by decide)
  have d_a31_3_a7 := F6_1.ne y_a31_3 (by decide)
  have d_a31_3_a20 := F6_2.ne y_a31_3 (by decide)
  have d_a31_3_a27 := F6_3.ne y_a31_3 (by decide)
  have z_a31_3 := (g6).z y_a31_3
  have g7 := (g6).sub f7 z_a27
  have d_a31_2_a31_1 : a31_2 ≠ a31_1 := fun e => by simp [e] at nd7
  have d_a31_3_a31_1 : a31_3 ≠ a31_1 := fun e => by simp [e] at nd7
  have d_a31_3_a31_2 : a31_3 ≠ a31_2 := fun e => by simp [e] at nd7
  refine bp_putR (q := 37) (ci := 3) (j := 2) 17 rfl rfl fl_BR_27_3 cl3 F7_0.1 (fun r hr => by cases hr; exact Or.inr ⟨rfl, rfl, rfl, _, wd225, rfl⟩) (Or.inl ⟨_, rfl⟩) rfl ?_
  refine bp_nx (X := fun h8 => oF h8 b 9 (bp_u1 (bp_u1 (bp_u1 (bp_u1 (bp_u1 (fun _ => none) 11 (some x)) 12 (some y)) 0 (some a7)) 1 (some a20)) 2 (some a27)) ∧ oF h8 a7 10 (fun _ => none) ∧ aF h8 a20 5 12 ∧ oF h8 a27 11 (bp_u1 (bp_u1 (fun _ => none) 0 (some a31_1)) 1 (some a31_2)) ∧ aF h8 a31_1 1 8 ∧ oF h8 a31_2 7 (bp_u1 (fun _ => none) 0 (some a31_3)) ∧ aF h8 a31_3 1 16 ∧ nF b h h8) ⟨F7_0.set, F7_1.sR d_a7_b, F7_2.sR d_a20_b, F7_3.sR d_a27_b, F7_4.sR d_a31_1_b, F7_5.sR d_a31_2_b, F7_6.sR d_a31_3_b, (g7).tr nF.sR⟩ (fun h8 ⟨F8_0, F8_1, F8_2, F8_3, F8_4, F8_5, F8_6, g8⟩ => ?_)
  refine bp_iconst (v := 0) (q := 38) 18 rfl rfl (by decide) ?_
  refine bp_istore_n (q := 39) 19 rfl rfl rfl (by decide) (bp_up3 rfl) ?_
  refine lp_BR_init (a2 := a20) rfl (fun h9 N9 H9 => hQ h9 a7 a20 a27 a31_1 a31_2 a31_3 N9 z_a7 z_a20 z_a27 z_a31_1 z_a31_2 z_a31_3 (by simp [d_a7_b, d_a20_b, d_a20_a7, d_a27_b, d_a27_a7, d_a27_a20, d_a31_1_b, d_a31_1_a7, d_a31_1_a20, d_a31_1_a27, d_a31_2_b, d_a31_2_a7, d_a31_2_a20, d_a31_2_a27, d_a31_2_a31_1, d_a31_3_b, d_a31_3_a7, d_a31_3_a20, d_a31_3_a27, d_a31_3_a31_1, d_a31_3_a31_2]) H9) 12 0 _ (fun _ => 0) rfl ⟨F8_0, F8_1, ⟨F8_2.1, F8_2.2.1, fun k hk => absurd hk (Nat.not_lt_zero k)⟩, F8_3, F8_4, F8_5, F8_6, fun k hk => absurd hk (Nat.not_lt_zero k), fun k hk => absurd hk (Nat.not_lt_zero k), fun j k hj => absurd hj (Nat.not_lt_zero j), z_a20, g8⟩
end CONS2
