/-! the reference is made -/
def mV (h : bp_H) (o : Nat) (R : Nat → Option Nat) : Prop := bp_K h o = 15 ∧ (∀ j, bp_I h o j = if j = 15 then -1 else 0) ∧ ∀ j, bp_R h o j = R j
theorem mV.of {h : bp_H} {o : Nat} {R : Nat → Option Nat} (H : oF h o 15 R) : mV (bp_sI h o 15 (-1)) o R := ⟨H.1, fun j => by
  rw [bp_I_sI]
  by_cases e : j = 15
  · rw [if_pos ⟨rfl, e⟩, if_pos e]
  · rw [if_neg (fun z => e z.2), if_neg e]; exact H.2.1 j, H.2.2⟩
theorem mV.ne {h : bp_H} {o a : Nat} {R : Nat → Option Nat} (H : mV h o R) (ha : bp_K h a = 0) : a ≠ o := fun e => by
  have := H.1
  rw [← e, ha] at this
  cases this
theorem mV.new {h : bp_H} {o a kd n : Nat} {R : Nat → Option Nat} (H : mV h o R) (ha : bp_K h a = 0) : mV (bp_new h a kd n) o R := by
  have e := bp_sm.new (h := h) (a := a) (b := o) (kd := kd) (n := n) (fun e => H.ne ha e.symm)
  exact ⟨e.1.trans H.1, fun j => (e.2.2.1 j).trans (H.2.1 j), fun j => (e.2.2.2.2 j).trans (H.2.2 j)⟩
theorem mV.set {h : bp_H} {o j : Nat} {x : Option Nat} {R : Nat → Option Nat} (H : mV h o R) : mV (bp_sR h o j x) o (bp_u1 R j x) := ⟨H.1, H.2.1, fun q => by
  rw [bp_R_sR]
  unfold bp_u1
  by_cases e : q = j
  · rw [if_pos ⟨rfl, e⟩, if_pos e]
  · rw [if_neg (fun z => e z.2), if_neg e]; exact H.2.2 q⟩
def mPos (j : Nat) : Nat := if j = 0 then 0 else if j = 2 then 1 else if j = 4 then 2 else if j = 5 then 3 else if j = 6 then 4 else if j = 7 then 5 else if j = 8 then 6 else if j = 9 then 7 else if j = 10 then 8 else if j = 11 then 9 else if j = 21 then 10 else if j = 25 then 11 else if j = 26 then 12 else  13
theorem mC_cs {j : Nat} (h : mC j = true) : j = 0 ∨ j = 2 ∨ j = 4 ∨ j = 5 ∨ j = 6 ∨ j = 7 ∨ j = 8 ∨ j = 9 ∨ j = 10 ∨ j = 11 ∨ j = 21 ∨ j = 25 ∨ j = 26 := by
  unfold mC mI at h
  simpa [or_assoc] using h
theorem mPos_lt {j : Nat} (h : mC j = true) : mPos j < 13 := by
  rcases mC_cs h with e | e | e | e | e | e | e | e | e | e | e | e | e <;> subst e <;> decide
theorem mPos_inj {i j : Nat} (h : mC i = true) (h2 : mC j = true) (q : mPos i = mPos j) : i = j := by
  rcases mC_cs h with e | e | e | e | e | e | e | e | e | e | e | e | e <;> subst e <;> (rcases mC_cs h2 with f | f | f | f | f | f | f | f | f | f | f | f | f <;> subst f <;> first | rfl | exact absurd q (by decide))
section MOI
variable {l : Launch} {G : bp_G} {H0 : Heap} {h : bp_H} {c s : Nat} {Q : Option Value → bp_H → Nat → Nat → Prop}
set_option maxRecDepth 100000 in
set_option maxHeartbeats 4000000 in
theorem s_Mo_init {x : Nat} (F0_0 : oF h x 15 (fun _ => none)) (hQ : ∀ h' M, M 0 = x → MoX M h' h' 0 0 0 0 (-1) 0 0 0 0 0 0 false 0 0 0 0 0 0 0 0 [] [] [] [] [] [] [] [] [] → nF x h h' → (∀ j, mC j = true → j ≠ 0 → bp_K h (M j) = 0) → Q none h' c s) : bp_AM l G H0 (1, 20, false, false) M_Mo_init h (c + 12) (s + 21136) [.ref x] Q := by
  refine bp_of (ls := [some (.ref x)]) (by decide) dt_Mo_init (Nat.le_of_ble_eq_true rfl) (fun q hq => hq) false ?_
  refine bp_aload_n (q := 1) 0 rfl rfl rfl rfl ?_
  refine bp_objInit (q := 4) 1 rfl rfl wd1310 wd121 wd122 (Nat.le_of_ble_eq_true rfl) ⟨Nat.le_of_ble_eq_true rfl, Nat.le_of_ble_eq_true rfl⟩ ?_
  refine bp_aload_n (q := 5) 2 rfl rfl rfl rfl ?_
  refine bp_sipush (v := 400) (q := 8) 3 rfl rfl (by decide) ?_
  refine bp_newa (c := c + 11) (s := s + 20736) (kd := 3) (N := 400) (q := 10) 4 rfl rfl wd1414 rfl (Or.inr (Or.inr (Or.inl ⟨rfl, rfl⟩))) (by decide) rfl (by decide) (fun a8 n_a8 => ?_)
  have d_a8_x := F0_0.ne n_a8 (by decide)
  have z_a8 := ((nF.rf : nF x h h)).z n_a8
  refine bp_nx (X := fun h1 => oF h1 x 15 (fun _ => none) ∧ aF h1 a8 3 400 ∧ nF x h h1) ⟨F0_0.new n_a8 (by decide), aF_new, (nF.rf).tr (nF.new n_a8)⟩ (fun h1 ⟨F1_0, F1_1, g1⟩ => ?_)
  refine bp_putR (q := 13) (ci := 9) (j := 2) 5 rfl rfl fl_Mo_7_9 cl9 F1_0.1 (fun r hr => by cases hr; exact Or.inr ⟨rfl, rfl, rfl, _, wd1313, rfl⟩) (Or.inr ⟨_, rfl⟩) rfl ?_
  refine bp_nx (X := fun h2 => oF h2 x 15 (bp_u1 (fun _ => none) 2 (some a8)) ∧ aF h2 a8 3 400 ∧ nF x h h2) ⟨F1_0.set, F1_1.sR d_a8_x, (g1).tr (nF.sR)⟩ (fun h2 ⟨F2_0, F2_1, g2⟩ => ?_)
  refine bp_aload_n (q := 14) 6 rfl rfl rfl rfl ?_
  refine bp_sipush (v := 18200) (q := 17) 7 rfl rfl (by decide) ?_
  refine bp_newa (c := c + 10) (s := s + 2536) (kd := 4) (N := 18200) (q := 19) 8 rfl rfl wd868 rfl (Or.inr (Or.inr (Or.inr ⟨rfl, rfl⟩))) (by decide) rfl (by decide) (fun a17 n_a17 => ?_)
  have d_a17_x := F2_0.ne n_a17 (by decide)
  have d_a17_a8 := F2_1.ne n_a17 (by decide)
  have z_a17 := (g2).z n_a17
  refine bp_nx (X := fun h3 => oF h3 x 15 (bp_u1 (fun _ => none) 2 (some a8)) ∧ aF h3 a8 3 400 ∧ aF h3 a17 4 18200 ∧ nF x h h3) ⟨F2_0.new n_a17 (by decide), F2_1.new n_a17 (by decide), aF_new, (g2).tr (nF.new n_a17)⟩ (fun h3 ⟨F3_0, F3_1, F3_2, g3⟩ => ?_)
  refine bp_putR (q := 22) (ci := 9) (j := 4) 9 rfl rfl fl_Mo_13_9 cl9 F3_0.1 (fun r hr => by cases hr; exact Or.inr ⟨rfl, rfl, rfl, _, wd1315, rfl⟩) (Or.inr ⟨_, rfl⟩) rfl ?_
  refine bp_nx (X := fun h4 => oF h4 x 15 (bp_u1 (bp_u1 (fun _ => none) 2 (some a8)) 4 (some a17)) ∧ aF h4 a8 3 400 ∧ aF h4 a17 4 18200 ∧ nF x h h4) ⟨F3_0.set, F3_1.sR d_a8_x, F3_2.sR d_a17_x, (g3).tr (nF.sR)⟩ (fun h4 ⟨F4_0, F4_1, F4_2, g4⟩ => ?_)
  refine bp_aload_n (q := 23) 10 rfl rfl rfl rfl ?_
  refine bp_iconst (v := 2) (q := 24) 11 rfl rfl (by decide) ?_
  refine bp_newa (c := c + 9) (s := s + 2534) (kd := 1) (N := 2) (q := 26) 12 rfl rfl wd136 rfl (Or.inl ⟨rfl, rfl⟩) (by decide) rfl (by decide) (fun a24 n_a24 => ?_)
  have d_a24_x := F4_0.ne n_a24 (by decide)
  have d_a24_a8 := F4_1.ne n_a24 (by decide)
  have d_a24_a17 := F4_2.ne n_a24 (by decide)
  have z_a24 := (g4).z n_a24
  refine bp_nx (X := fun h5 => oF h5 x 15 (bp_u1 (bp_u1 (fun _ => none) 2 (some a8)) 4 (some a17)) ∧ aF h5 a8 3 400 ∧ aF h5 a17 4 18200 ∧ aF h5 a24 1 2 ∧ nF x h h5) ⟨F4_0.new n_a24 (by decide), F4_1.new n_a24 (by decide), F4_2.new n_a24 (by decide), aF_new, (g4).tr (nF.new n_a24)⟩ (fun h5 ⟨F5_0, F5_1, F5_2, F5_3, g5⟩ => ?_)
  refine bp_putR (q := 29) (ci := 9) (j := 5) 13 rfl rfl fl_Mo_17_9 cl9 F5_0.1 (fun r hr => by cases hr; exact Or.inr ⟨rfl, rfl, rfl, _, wd1316, rfl⟩) (Or.inr ⟨_, rfl⟩) rfl ?_
  refine bp_nx (X := fun h6 => oF h6 x 15 (bp_u1 (bp_u1 (bp_u1 (fun _ => none) 2 (some a8)) 4 (some a17)) 5 (some a24)) ∧ aF h6 a8 3 400 ∧ aF h6 a17 4 18200 ∧ aF h6 a24 1 2 ∧ nF x h h6) ⟨F5_0.set, F5_1.sR d_a8_x, F5_2.sR d_a17_x, F5_3.sR d_a24_x, (g5).tr (nF.sR)⟩ (fun h6 ⟨F6_0, F6_1, F6_2, F6_3, g6⟩ => ?_)
  refine bp_aload_n (q := 30) 14 rfl rfl rfl rfl ?_
  refine bp_iconst (v := 2) (q := 31) 15 rfl rfl (by decide) ?_
  refine bp_newa (c := c + 8) (s := s + 2532) (kd := 1) (N := 2) (q := 33) 16 rfl rfl wd136 rfl (Or.inl ⟨rfl, rfl⟩) (by decide) rfl (by decide) (fun a31 n_a31 => ?_)
  have d_a31_x := F6_0.ne n_a31 (by decide)
  have d_a31_a8 := F6_1.ne n_a31 (by decide)
  have d_a31_a17 := F6_2.ne n_a31 (by decide)
  have d_a31_a24 := F6_3.ne n_a31 (by decide)
  have z_a31 := (g6).z n_a31
  refine bp_nx (X := fun h7 => oF h7 x 15 (bp_u1 (bp_u1 (bp_u1 (fun _ => none) 2 (some a8)) 4 (some a17)) 5 (some a24)) ∧ aF h7 a8 3 400 ∧ aF h7 a17 4 18200 ∧ aF h7 a24 1 2 ∧ aF h7 a31 1 2 ∧ nF x h h7) ⟨F6_0.new n_a31 (by decide), F6_1.new n_a31 (by decide), F6_2.new n_a31 (by decide), F6_3.new n_a31 (by decide), aF_new, (g6).tr (nF.new n_a31)⟩ (fun h7 ⟨F7_0, F7_1, F7_2, F7_3, F7_4, g7⟩ => ?_)
  refine bp_putR (q := 36) (ci := 9) (j := 6) 17 rfl rfl fl_Mo_21_9 cl9 F7_0.1 (fun r hr => by cases hr; exact Or.inr ⟨rfl, rfl, rfl, _, wd1317, rfl⟩) (Or.inr ⟨_, rfl⟩) rfl ?_
  refine bp_nx (X := fun h8 => oF h8 x 15 (bp_u1 (bp_u1 (bp_u1 (bp_u1 (fun _ => none) 2 (some a8)) 4 (some a17)) 5 (some a24)) 6 (some a31)) ∧ aF h8 a8 3 400 ∧ aF h8 a17 4 18200 ∧ aF h8 a24 1 2 ∧ aF h8 a31 1 2 ∧ nF x h h8) ⟨F7_0.set, F7_1.sR d_a8_x, F7_2.sR d_a17_x, F7_3.sR d_a24_x, F7_4.sR d_a31_x, (g7).tr (nF.sR)⟩ (fun h8 ⟨F8_0, F8_1, F8_2, F8_3, F8_4, g8⟩ => ?_)
  refine bp_aload_n (q := 37) 18 rfl rfl rfl rfl ?_
  refine bp_sipush (v := 800) (q := 40) 19 rfl rfl (by decide) ?_
  refine bp_newa (c := c + 7) (s := s + 1732) (kd := 1) (N := 800) (q := 42) 20 rfl rfl wd136 rfl (Or.inl ⟨rfl, rfl⟩) (by decide) rfl (by decide) (fun a40 n_a40 => ?_)
  have d_a40_x := F8_0.ne n_a40 (by decide)
  have d_a40_a8 := F8_1.ne n_a40 (by decide)
  have d_a40_a17 := F8_2.ne n_a40 (by decide)
  have d_a40_a24 := F8_3.ne n_a40 (by decide)
  have d_a40_a31 := F8_4.ne n_a40 (by decide)
  have z_a40 := (g8).z n_a40
  refine bp_nx (X := fun h9 => oF h9 x 15 (bp_u1 (bp_u1 (bp_u1 (bp_u1 (fun _ => none) 2 (some a8)) 4 (some a17)) 5 (some a24)) 6 (some a31)) ∧ aF h9 a8 3 400 ∧ aF h9 a17 4 18200 ∧ aF h9 a24 1 2 ∧ aF h9 a31 1 2 ∧ aF h9 a40 1 800 ∧ nF x h h9) ⟨F8_0.new n_a40 (by decide), F8_1.new n_a40 (by decide), F8_2.new n_a40 (by decide), F8_3.new n_a40 (by decide), F8_4.new n_a40 (by decide), aF_new, (g8).tr (nF.new n_a40)⟩ (fun h9 ⟨F9_0, F9_1, F9_2, F9_3, F9_4, F9_5, g9⟩ => ?_)
  refine bp_putR (q := 45) (ci := 9) (j := 7) 21 rfl rfl fl_Mo_24_9 cl9 F9_0.1 (fun r hr => by cases hr; exact Or.inr ⟨rfl, rfl, rfl, _, wd1318, rfl⟩) (Or.inr ⟨_, rfl⟩) rfl ?_
  refine bp_nx (X := fun h10 => oF h10 x 15 (bp_u1 (bp_u1 (bp_u1 (bp_u1 (bp_u1 (fun _ => none) 2 (some a8)) 4 (some a17)) 5 (some a24)) 6 (some a31)) 7 (some a40)) ∧ aF h10 a8 3 400 ∧ aF h10 a17 4 18200 ∧ aF h10 a24 1 2 ∧ aF h10 a31 1 2 ∧ aF h10 a40 1 800 ∧ nF x h h10) ⟨F9_0.set, F9_1.sR d_a8_x, F9_2.sR d_a17_x, F9_3.sR d_a24_x, F9_4.sR d_a31_x, F9_5.sR d_a40_x, (g9).tr (nF.sR)⟩ (fun h10 ⟨F10_0, F10_1, F10_2, F10_3, F10_4, F10_5, g10⟩ => ?_)
  refine bp_aload_n (q := 46) 22 rfl rfl rfl rfl ?_
  refine bp_sipush (v := 800) (q := 49) 23 rfl rfl (by decide) ?_
  refine bp_newa (c := c + 6) (s := s + 932) (kd := 1) (N := 800) (q := 51) 24 rfl rfl wd136 rfl (Or.inl ⟨rfl, rfl⟩) (by decide) rfl (by decide) (fun a49 n_a49 => ?_)
  have d_a49_x := F10_0.ne n_a49 (by decide)
  have d_a49_a8 := F10_1.ne n_a49 (by decide)
  have d_a49_a17 := F10_2.ne n_a49 (by decide)
  have d_a49_a24 := F10_3.ne n_a49 (by decide)
  have d_a49_a31 := F10_4.ne n_a49 (by decide)
  have d_a49_a40 := F10_5.ne n_a49 (by decide)
  have z_a49 := (g10).z n_a49
  refine bp_nx (X := fun h11 => oF h11 x 15 (bp_u1 (bp_u1 (bp_u1 (bp_u1 (bp_u1 (fun _ => none) 2 (some a8)) 4 (some a17)) 5 (some a24)) 6 (some a31)) 7 (some a40)) ∧ aF h11 a8 3 400 ∧ aF h11 a17 4 18200 ∧ aF h11 a24 1 2 ∧ aF h11 a31 1 2 ∧ aF h11 a40 1 800 ∧ aF h11 a49 1 800 ∧ nF x h h11) ⟨F10_0.new n_a49 (by decide), F10_1.new n_a49 (by decide), F10_2.new n_a49 (by decide), F10_3.new n_a49 (by decide), F10_4.new n_a49 (by decide), F10_5.new n_a49 (by decide), aF_new, (g10).tr (nF.new n_a49)⟩ (fun h11 ⟨F11_0, F11_1, F11_2, F11_3, F11_4, F11_5, F11_6, g11⟩ => ?_)
  refine bp_putR (q := 54) (ci := 9) (j := 8) 25 rfl rfl fl_Mo_27_9 cl9 F11_0.1 (fun r hr => by cases hr; exact Or.inr ⟨rfl, rfl, rfl, _, wd1319, rfl⟩) (Or.inr ⟨_, rfl⟩) rfl ?_
  refine bp_nx (X := fun h12 => oF h12 x 15 (bp_u1 (bp_u1 (bp_u1 (bp_u1 (bp_u1 (bp_u1 (fun _ => none) 2 (some a8)) 4 (some a17)) 5 (some a24)) 6 (some a31)) 7 (some a40)) 8 (some a49)) ∧ aF h12 a8 3 400 ∧ aF h12 a17 4 18200 ∧ aF h12 a24 1 2 ∧ aF h12 a31 1 2 ∧ aF h12 a40 1 800 ∧ aF h12 a49 1 800 ∧ nF x h h12) ⟨F11_0.set, F11_1.sR d_a8_x, F11_2.sR d_a17_x, F11_3.sR d_a24_x, F11_4.sR d_a31_x, F11_5.sR d_a40_x, F11_6.sR d_a49_x, (g11).tr (nF.sR)⟩ (fun h12 ⟨F12_0, F12_1, F12_2, F12_3, F12_4, F12_5, F12_6, g12⟩ => ?_)
  refine bp_aload_n (q := 55) 26 rfl rfl rfl rfl ?_
  refine bp_sipush (v := 800) (q := 58) 27 rfl rfl (by decide) ?_
  refine bp_newa (c := c + 5) (s := s + 132) (kd := 1) (N := 800) (q := 60) 28 rfl rfl wd136 rfl (Or.inl ⟨rfl, rfl⟩) (by decide) rfl (by decide) (fun a58 n_a58 => ?_)
  have d_a58_x := F12_0.ne n_a58 (by decide)
  have d_a58_a8 := F12_1.ne n_a58 (by decide)
  have d_a58_a17 := F12_2.ne n_a58 (by decide)
  have d_a58_a24 := F12_3.ne n_a58 (by decide)
  have d_a58_a31 := F12_4.ne n_a58 (by decide)
  have d_a58_a40 := F12_5.ne n_a58 (by decide)
  have d_a58_a49 := F12_6.ne n_a58 (by decide)
  have z_a58 := (g12).z n_a58
  refine bp_nx (X := fun h13 => oF h13 x 15 (bp_u1 (bp_u1 (bp_u1 (bp_u1 (bp_u1 (bp_u1 (fun _ => none) 2 (some a8)) 4 (some a17)) 5 (some a24)) 6 (some a31)) 7 (some a40)) 8 (some a49)) ∧ aF h13 a8 3 400 ∧ aF h13 a17 4 18200 ∧ aF h13 a24 1 2 ∧ aF h13 a31 1 2 ∧ aF h13 a40 1 800 ∧ aF h13 a49 1 800 ∧ aF h13 a58 1 800 ∧ nF x h h13) ⟨F12_0.new n_a58 (by decide), F12_1.new n_a58 (by decide), F12_2.new n_a58 (by decide), F12_3.new n_a58 (by decide), F12_4.new n_a58 (by decide), F12_5.new n_a58 (by decide), F12_6.new n_a58 (by decide), aF_new, (g12).tr (nF.new n_a58)⟩ (fun h13 ⟨F13_0, F13_1, F13_2, F13_3, F13_4, F13_5, F13_6, F13_7, g13⟩ => ?_)
  refine bp_putR (q := 63) (ci := 9) (j := 9) 29 rfl rfl fl_Mo_30_9 cl9 F13_0.1 (fun r hr => by cases hr; exact Or.inr ⟨rfl, rfl, rfl, _, wd1320, rfl⟩) (Or.inr ⟨_, rfl⟩) rfl ?_
  refine bp_nx (X := fun h14 => oF h14 x 15 (bp_u1 (bp_u1 (bp_u1 (bp_u1 (bp_u1 (bp_u1 (bp_u1 (fun _ => none) 2 (some a8)) 4 (some a17)) 5 (some a24)) 6 (some a31)) 7 (some a40)) 8 (some a49)) 9 (some a58)) ∧ aF h14 a8 3 400 ∧ aF h14 a17 4 18200 ∧ aF h14 a24 1 2 ∧ aF h14 a31 1 2 ∧ aF h14 a40 1 800 ∧ aF h14 a49 1 800 ∧ aF h14 a58 1 800 ∧ nF x h h14) ⟨F13_0.set, F13_1.sR d_a8_x, F13_2.sR d_a17_x, F13_3.sR d_a24_x, F13_4.sR d_a31_x, F13_5.sR d_a40_x, F13_6.sR d_a49_x, F13_7.sR d_a58_x, (g13).tr (nF.sR)⟩ (fun h14 ⟨F14_0, F14_1, F14_2, F14_3, F14_4, F14_5, F14_6, F14_7, g14⟩ => ?_)
  refine bp_aload_n (q := 64) 30 rfl rfl rfl rfl ?_
  refine bp_bipush (v := 32) (q := 66) 31 rfl rfl (by decide) ?_
  refine bp_newa (c := c + 4) (s := s + 100) (kd := 1) (N := 32) (q := 68) 32 rfl rfl wd136 rfl (Or.inl ⟨rfl, rfl⟩) (by decide) rfl (by decide) (fun a66 n_a66 => ?_)
  have d_a66_x := F14_0.ne n_a66 (by decide)
  have d_a66_a8 := F14_1.ne n_a66 (by decide)
  have d_a66_a17 := F14_2.ne n_a66 (by decide)
  have d_a66_a24 := F14_3.ne n_a66 (by decide)
  have d_a66_a31 := F14_4.ne n_a66 (by decide)
  have d_a66_a40 := F14_5.ne n_a66 (by decide)
  have d_a66_a49 := F14_6.ne n_a66 (by decide)
  have d_a66_a58 := F14_7.ne n_a66 (by decide)
  have z_a66 := (g14).z n_a66
  refine bp_nx (X := fun h15 => oF h15 x 15 (bp_u1 (bp_u1 (bp_u1 (bp_u1 (bp_u1 (bp_u1 (bp_u1 (fun _ => none) 2 (some a8)) 4 (some a17)) 5 (some a24)) 6 (some a31)) 7 (some a40)) 8 (some a49)) 9 (some a58)) ∧ aF h15 a8 3 400 ∧ aF h15 a17 4 18200 ∧ aF h15 a24 1 2 ∧ aF h15 a31 1 2 ∧ aF h15 a40 1 800 ∧ aF h15 a49 1 800 ∧ aF h15 a58 1 800 ∧ aF h15 a66 1 32 ∧ nF x h h15) ⟨F14_0.new n_a66 (by decide), F14_1.new n_a66 (by decide), F14_2.new n_a66 (by decide), F14_3.new n_a66 (by decide), F14_4.new n_a66 (by decide), F14_5.new n_a66 (by decide), F14_6.new n_a66 (by decide), F14_7.new n_a66 (by decide), aF_new, (g14).tr (nF.new n_a66)⟩ (fun h15 ⟨F15_0, F15_1, F15_2, F15_3, F15_4, F15_5, F15_6, F15_7, F15_8, g15⟩ => ?_)
  refine bp_putR (q := 71) (ci := 9) (j := 10) 33 rfl rfl fl_Mo_33_9 cl9 F15_0.1 (fun r hr => by cases hr; exact Or.inr ⟨rfl, rfl, rfl, _, wd1321, rfl⟩) (Or.inr ⟨_, rfl⟩) rfl ?_
  refine bp_nx (X := fun h16 => oF h16 x 15 (bp_u1 (bp_u1 (bp_u1 (bp_u1 (bp_u1 (bp_u1 (bp_u1 (bp_u1 (fun _ => none) 2 (some a8)) 4 (some a17)) 5 (some a24)) 6 (some a31)) 7 (some a40)) 8 (some a49)) 9 (some a58)) 10 (some a66)) ∧ aF h16 a8 3 400 ∧ aF h16 a17 4 18200 ∧ aF h16 a24 1 2 ∧ aF h16 a31 1 2 ∧ aF h16 a40 1 800 ∧ aF h16 a49 1 800 ∧ aF h16 a58 1 800 ∧ aF h16 a66 1 32 ∧ nF x h h16) ⟨F15_0.set, F15_1.sR d_a8_x, F15_2.sR d_a17_x, F15_3.sR d_a24_x, F15_4.sR d_a31_x, F15_5.sR d_a40_x, F15_6.sR d_a49_x, F15_7.sR d_a58_x, F15_8.sR d_a66_x, (g15).tr (nF.sR)⟩ (fun h16 ⟨F16_0, F16_1, F16_2, F16_3, F16_4, F16_5, F16_6, F16_7, F16_8, g16⟩ => ?_)
  refine bp_aload_n (q := 72) 34 rfl rfl rfl rfl ?_
  refine bp_bipush (v := 32) (q := 74) 35 rfl rfl (by decide) ?_
  refine bp_newa (c := c + 3) (s := s + 68) (kd := 1) (N := 32) (q := 76) 36 rfl rfl wd136 rfl (Or.inl ⟨rfl, rfl⟩) (by decide) rfl (by decide) (fun a74 n_a74 => ?_)
  have d_a74_x := F16_0.ne n_a74 (by decide)
  have d_a74_a8 := F16_1.ne n_a74 (by decide)
  have d_a74_a17 := F16_2.ne n_a74 (by decide)
  have d_a74_a24 := F16_3.ne n_a74 (by decide)
  have d_a74_a31 := F16_4.ne n_a74 (by decide)
  have d_a74_a40 := F16_5.ne n_a74 (by decide)
  have d_a74_a49 := F16_6.ne n_a74 (by decide)
  have d_a74_a58 := F16_7.ne n_a74 (by decide)
  have d_a74_a66 := F16_8.ne n_a74 (by decide)
  have z_a74 := (g16).z n_a74
  refine bp_nx (X := fun h17 => oF h17 x 15 (bp_u1 (bp_u1 (bp_u1 (bp_u1 (bp_u1 (bp_u1 (bp_u1 (bp_u1 (fun _ => none) 2 (some a8)) 4 (some a17)) 5 (some a24)) 6 (some a31)) 7 (some a40)) 8 (some a49)) 9 (some a58)) 10 (some a66)) ∧ aF h17 a8 3 400 ∧ aF h17 a17 4 18200 ∧ aF h17 a24 1 2 ∧ aF h17 a31 1 2 ∧ aF h17 a40 1 800 ∧ aF h17 a49 1 800 ∧ aF h17 a58 1 800 ∧ aF h17 a66 1 32 ∧ aF h17 a74 1 32 ∧ nF x h h17) ⟨F16_0.new n_a74 (by decide), F16_1.new n_a74 (by decide), F16_2.new n_a74 (by decide), F16_3.new n_a74 (by decide), F16_4.new n_a74 (by decide), F16_5.new n_a74 (by decide), F16_6.new n_a74 (by decide), F16_7.new n_a74 (by decide), F16_8.new n_a74 (by decide), aF_new, (g16).tr (nF.new n_a74)⟩ (fun h17 ⟨F17_0, F17_1, F17_2, F17_3, F17_4, F17_5, F17_6, F17_7, F17_8, F17_9, g17⟩ => ?_)
  refine bp_putR (q := 79) (ci := 9) (j := 11) 37 rfl rfl fl_Mo_36_9 cl9 F17_0.1 (fun r hr => by cases hr; exact Or.inr ⟨rfl, rfl, rfl, _, wd1322, rfl⟩) (Or.inr ⟨_, rfl⟩) rfl ?_
  refine bp_nx (X := fun h18 => oF h18 x 15 (bp_u1 (bp_u1 (bp_u1 (bp_u1 (bp_u1 (bp_u1 (bp_u1 (bp_u1 (bp_u1 (fun _ => none) 2 (some a8)) 4 (some a17)) 5 (some a24)) 6 (some a31)) 7 (some a40)) 8 (some a49)) 9 (some a58)) 10 (some a66)) 11 (some a74)) ∧ aF h18 a8 3 400 ∧ aF h18 a17 4 18200 ∧ aF h18 a24 1 2 ∧ aF h18 a31 1 2 ∧ aF h18 a40 1 800 ∧ aF h18 a49 1 800 ∧ aF h18 a58 1 800 ∧ aF h18 a66 1 32 ∧ aF h18 a74 1 32 ∧ nF x h h18) ⟨F17_0.set, F17_1.sR d_a8_x, F17_2.sR d_a17_x, F17_3.sR d_a24_x, F17_4.sR d_a31_x, F17_5.sR d_a40_x, F17_6.sR d_a49_x, F17_7.sR d_a58_x, F17_8.sR d_a66_x, F17_9.sR d_a74_x, (g17).tr (nF.sR)⟩ (fun h18 ⟨F18_0, F18_1, F18_2, F18_3, F18_4, F18_5, F18_6, F18_7, F18_8, F18_9, g18⟩ => ?_)
  refine bp_aload_n (q := 80) 38 rfl rfl rfl rfl ?_
  refine bp_iconst (v := -1) (q := 81) 39 rfl rfl (by decide) ?_
  refine bp_putI (q := 84) (ci := 9) (j := 15) 40 rfl rfl fl_Mo_39_9 cl9 F18_0.1 (fun r hr => by cases hr; rfl) (by decide) rfl rfl ?_
  refine bp_nx (X := fun h19 => mV h19 x (bp_u1 (bp_u1 (bp_u1 (bp_u1 (bp_u1 (bp_u1 (bp_u1 (bp_u1 (bp_u1 (fun _ => none) 2 (some a8)) 4 (some a17)) 5 (some a24)) 6 (some a31)) 7 (some a40)) 8 (some a49)) 9 (some a58)) 10 (some a66)) 11 (some a74)) ∧ aF h19 a8 3 400 ∧ aF h19 a17 4 18200 ∧ aF h19 a24 1 2 ∧ aF h19 a31 1 2 ∧ aF h19 a40 1 800 ∧ aF h19 a49 1 800 ∧ aF h19 a58 1 800 ∧ aF h19 a66 1 32 ∧ aF h19 a74 1 32 ∧ nF x h h19) ⟨mV.of F18_0, F18_1.nf nF.sI (by decide) d_a8_x, F18_2.nf nF.sI (by decide) d_a17_x, F18_3.nf nF.sI (by decide) d_a24_x, F18_4.nf nF.sI (by decide) d_a31_x, F18_5.nf nF.sI (by decide) d_a40_x, F18_6.nf nF.sI (by decide) d_a49_x, F18_7.nf nF.sI (by decide) d_a58_x, F18_8.nf nF.sI (by decide) d_a66_x, F18_9.nf nF.sI (by decide) d_a74_x, (g18).tr (nF.sI)⟩ (fun h19 ⟨F19_0, F19_1, F19_2, F19_3, F19_4, F19_5, F19_6, F19_7, F19_8, F19_9, g19⟩ => ?_)
  refine bp_aload_n (q := 85) 41 rfl rfl rfl rfl ?_
  refine bp_bipush (v := 52) (q := 87) 42 rfl rfl (by decide) ?_
  refine bp_newa (c := c + 2) (s := s + 16) (kd := 1) (N := 52) (q := 89) 43 rfl rfl wd136 rfl (Or.inl ⟨rfl, rfl⟩) (by decide) rfl (by decide) (fun a87 n_a87 => ?_)
  have d_a87_x := F19_0.ne n_a87
  have d_a87_a8 := F19_1.ne n_a87 (by decide)
  have d_a87_a17 := F19_2.ne n_a87 (by decide)
  have d_a87_a24 := F19_3.ne n_a87 (by decide)
  have d_a87_a31 := F19_4.ne n_a87 (by decide)
  have d_a87_a40 := F19_5.ne n_a87 (by decide)
  have d_a87_a49 := F19_6.ne n_a87 (by decide)
  have d_a87_a58 := F19_7.ne n_a87 (by decide)
  have d_a87_a66 := F19_8.ne n_a87 (by decide)
  have d_a87_a74 := F19_9.ne n_a87 (by decide)
  have z_a87 := (g19).z n_a87
  refine bp_nx (X := fun h20 => mV h20 x (bp_u1 (bp_u1 (bp_u1 (bp_u1 (bp_u1 (bp_u1 (bp_u1 (bp_u1 (bp_u1 (fun _ => none) 2 (some a8)) 4 (some a17)) 5 (some a24)) 6 (some a31)) 7 (some a40)) 8 (some a49)) 9 (some a58)) 10 (some a66)) 11 (some a74)) ∧ aF h20 a8 3 400 ∧ aF h20 a17 4 18200 ∧ aF h20 a24 1 2 ∧ aF h20 a31 1 2 ∧ aF h20 a40 1 800 ∧ aF h20 a49 1 800 ∧ aF h20 a58 1 800 ∧ aF h20 a66 1 32 ∧ aF h20 a74 1 32 ∧ aF h20 a87 1 52 ∧ nF x h h20) ⟨F19_0.new n_a87, F19_1.new n_a87 (by decide), F19_2.new n_a87 (by decide), F19_3.new n_a87 (by decide), F19_4.new n_a87 (by decide), F19_5.new n_a87 (by decide), F19_6.new n_a87 (by decide), F19_7.new n_a87 (by decide), F19_8.new n_a87 (by decide), F19_9.new n_a87 (by decide), aF_new, (g19).tr (nF.new n_a87)⟩ (fun h20 ⟨F20_0, F20_1, F20_2, F20_3, F20_4, F20_5, F20_6, F20_7, F20_8, F20_9, F20_10, g20⟩ => ?_)
  refine bp_putR (q := 92) (ci := 9) (j := 21) 44 rfl rfl fl_Mo_43_9 cl9 F20_0.1 (fun r hr => by cases hr; exact Or.inr ⟨rfl, rfl, rfl, _, wd1332, rfl⟩) (Or.inr ⟨_, rfl⟩) rfl ?_
  refine bp_nx (X := fun h21 => mV h21 x (bp_u1 (bp_u1 (bp_u1 (bp_u1 (bp_u1 (bp_u1 (bp_u1 (bp_u1 (bp_u1 (bp_u1 (fun _ => none) 2 (some a8)) 4 (some a17)) 5 (some a24)) 6 (some a31)) 7 (some a40)) 8 (some a49)) 9 (some a58)) 10 (some a66)) 11 (some a74)) 21 (some a87)) ∧ aF h21 a8 3 400 ∧ aF h21 a17 4 18200 ∧ aF h21 a24 1 2 ∧ aF h21 a31 1 2 ∧ aF h21 a40 1 800 ∧ aF h21 a49 1 800 ∧ aF h21 a58 1 800 ∧ aF h21 a66 1 32 ∧ aF h21 a74 1 32 ∧ aF h21 a87 1 52 ∧ nF x h h21) ⟨F20_0.set, F20_1.sR d_a8_x, F20_2.sR d_a17_x, F20_3.sR d_a24_x, F20_4.sR d_a31_x, F20_5.sR d_a40_x, F20_6.sR d_a49_x, F20_7.sR d_a58_x, F20_8.sR d_a66_x, F20_9.sR d_a74_x, F20_10.sR d_a87_x, (g20).tr (nF.sR)⟩ (fun h21 ⟨F21_0, F21_1, F21_2, F21_3, F21_4, F21_5, F21_6, F21_7, F21_8, F21_9, F21_10, g21⟩ => ?_)
  refine bp_aload_n (q := 93) 45 rfl rfl rfl rfl ?_
  refine bp_bipush (v := 8) (q := 95) 46 rfl rfl (by decide) ?_
  refine bp_newa (c := c + 1) (s := s + 8) (kd := 1) (N := 8) (q := 97) 47 rfl rfl wd136 rfl (Or.inl ⟨rfl, rfl⟩) (by decide) rfl (by decide) (fun a95 n_a95 => ?_)
  have d_a95_x := F21_0.ne n_a95
  have d_a95_a8 := F21_1.ne n_a95 (by decide)
  have d_a95_a17 := F21_2.ne n_a95 (by decide)
  have d_a95_a24 := F21_3.ne n_a95 (by decide)
  have d_a95_a31 := F21_4.ne n_a95 (by decide)
  have d_a95_a40 := F21_5.ne n_a95 (by decide)
  have d_a95_a49 := F21_6.ne n_a95 (by decide)
  have d_a95_a58 := F21_7.ne n_a95 (by decide)
  have d_a95_a66 := F21_8.ne n_a95 (by decide)
  have d_a95_a74 := F21_9.ne n_a95 (by decide)
  have d_a95_a87 := F21_10.ne n_a95 (by decide)
  have z_a95 := (g21).z n_a95
  refine bp_nx (X := fun h22 => mV h22 x (bp_u1 (bp_u1 (bp_u1 (bp_u1 (bp_u1 (bp_u1 (bp_u1 (bp_u1 (bp_u1 (bp_u1 (fun _ => none) 2 (some a8)) 4 (some a17)) 5 (some a24)) 6 (some a31)) 7 (some a40)) 8 (some a49)) 9 (some a58)) 10 (some a66)) 11 (some a74)) 21 (some a87)) ∧ aF h22 a8 3 400 ∧ aF h22 a17 4 18200 ∧ aF h22 a24 1 2 ∧ aF h22 a31 1 2 ∧ aF h22 a40 1 800 ∧ aF h22 a49 1 800 ∧ aF h22 a58 1 800 ∧ aF h22 a66 1 32 ∧ aF h22 a74 1 32 ∧ aF h22 a87 1 52 ∧ aF h22 a95 1 8 ∧ nF x h h22) ⟨F21_0.new n_a95, F21_1.new n_a95 (by decide), F21_2.new n_a95 (by decide), F21_3.new n_a95 (by decide), F21_4.new n_a95 (by decide), F21_5.new n_a95 (by decide), F21_6.new n_a95 (by decide), F21_7.new n_a95 (by decide), F21_8.new n_a95 (by decide), F21_9.new n_a95 (by decide), F21_10.new n_a95 (by decide), aF_new, (g21).tr (nF.new n_a95)⟩ (fun h22 ⟨F22_0, F22_1, F22_2, F22_3, F22_4, F22_5, F22_6, F22_7, F22_8, F22_9, F22_10, F22_11, g22⟩ => ?_)
  refine bp_putR (q := 100) (ci := 9) (j := 25) 48 rfl rfl fl_Mo_46_9 cl9 F22_0.1 (fun r hr => by cases hr; exact Or.inr ⟨rfl, rfl, rfl, _, wd1336, rfl⟩) (Or.inr ⟨_, rfl⟩) rfl ?_
  refine bp_nx (X := fun h23 => mV h23 x (bp_u1 (bp_u1 (bp_u1 (bp_u1 (bp_u1 (bp_u1 (bp_u1 (bp_u1 (bp_u1 (bp_u1 (bp_u1 (fun _ => none) 2 (some a8)) 4 (some a17)) 5 (some a24)) 6 (some a31)) 7 (some a40)) 8 (some a49)) 9 (some a58)) 10 (some a66)) 11 (some a74)) 21 (some a87)) 25 (some a95)) ∧ aF h23 a8 3 400 ∧ aF h23 a17 4 18200 ∧ aF h23 a24 1 2 ∧ aF h23 a31 1 2 ∧ aF h23 a40 1 800 ∧ aF h23 a49 1 800 ∧ aF h23 a58 1 800 ∧ aF h23 a66 1 32 ∧ aF h23 a74 1 32 ∧ aF h23 a87 1 52 ∧ aF h23 a95 1 8 ∧ nF x h h23) ⟨F22_0.set, F22_1.sR d_a8_x, F22_2.sR d_a17_x, F22_3.sR d_a24_x, F22_4.sR d_a31_x, F22_5.sR d_a40_x, F22_6.sR d_a49_x, F22_7.sR d_a58_x, F22_8.sR d_a66_x, F22_9.sR d_a74_x, F22_10.sR d_a87_x, F22_11.sR d_a95_x, (g22).tr (nF.sR)⟩ (fun h23 ⟨F23_0, F23_1, F23_2, F23_3, F23_4, F23_5, F23_6, F23_7, F23_8, F23_9, F23_10, F23_11, g23⟩ => ?_)
  refine bp_aload_n (q := 101) 49 rfl rfl rfl rfl ?_
  refine bp_bipush (v := 8) (q := 103) 50 rfl rfl (by decide) ?_
  refine bp_newa (c := c) (s := s) (kd := 1) (N := 8) (q := 105) 51 rfl rfl wd136 rfl (Or.inl ⟨rfl, rfl⟩) (by decide) rfl (by decide) (fun a103 n_a103 => ?_)
  have d_a103_x := F23_0.ne n_a103
  have d_a103_a8 := F23_1.ne n_a103 (by decide)
  have d_a103_a17 := F23_2.ne n_a103 (by decide)
  have d_a103_a24 := F23_3.ne n_a103 (by decide)
  have d_a103_a31 := F23_4.ne n_a103 (by decide)
  have d_a103_a40 := F23_5.ne n_a103 (by decide)
  have d_a103_a49 := F23_6.ne n_a103 (by decide)
  have d_a103_a58 := F23_7.ne n_a103 (by decide)
  have d_a103_a66 := F23_8.ne n_a103 (by decide)
  have d_a103_a74 := F23_9.ne n_a103 (by decide)
  have d_a103_a87 := F23_10.ne n_a103 (by decide)
  have d_a103_a95 := F23_11.ne n_a103 (by decide)
  have z_a103 := (g23).z n_a103
  refine bp_nx (X := fun h24 => mV h24 x (bp_u1 (bp_u1 (bp_u1 (bp_u1 (bp_u1 (bp_u1 (bp_u1 (bp_u1 (bp_u1 (bp_u1 (bp_u1 (fun _ => none) 2 (some a8)) 4 (some a17)) 5 (some a24)) 6 (some a31)) 7 (some a40)) 8 (some a49)) 9 (some a58)) 10 (some a66)) 11 (some a74)) 21 (some a87)) 25 (some a95)) ∧ aF h24 a8 3 400 ∧ aF h24 a17 4 18200 ∧ aF h24 a24 1 2 ∧ aF h24 a31 1 2 ∧ aF h24 a40 1 800 ∧ aF h24 a49 1 800 ∧ aF h24 a58 1 800 ∧ aF h24 a66 1 32 ∧ aF h24 a74 1 32 ∧ aF h24 a87 1 52 ∧ aF h24 a95 1 8 ∧ aF h24 a103 1 8 ∧ nF x h h24) ⟨F23_0.new n_a103, F23_1.new n_a103 (by decide), F23_2.new n_a103 (by decide), F23_3.new n_a103 (by decide), F23_4.new n_a103 (by decide), F23_5.new n_a103 (by decide), F23_6.new n_a103 (by decide), F23_7.new n_a103 (by decide), F23_8.new n_a103 (by decide), F23_9.new n_a103 (by decide), F23_10.new n_a103 (by decide), F23_11.new n_a103 (by decide), aF_new, (g23).tr (nF.new n_a103)⟩ (fun h24 ⟨F24_0, F24_1, F24_2, F24_3, F24_4, F24_5, F24_6, F24_7, F24_8, F24_9, F24_10, F24_11, F24_12, g24⟩ => ?_)
  refine bp_putR (q := 108) (ci := 9) (j := 26) 52 rfl rfl fl_Mo_49_9 cl9 F24_0.1 (fun r hr => by cases hr; exact Or.inr ⟨rfl, rfl, rfl, _, wd1337, rfl⟩) (Or.inr ⟨_, rfl⟩) rfl ?_
  refine bp_nx (X := fun h25 => mV h25 x (bp_u1 (bp_u1 (bp_u1 (bp_u1 (bp_u1 (bp_u1 (bp_u1 (bp_u1 (bp_u1 (bp_u1 (bp_u1 (bp_u1 (fun _ => none) 2 (some a8)) 4 (some a17)) 5 (some a24)) 6 (some a31)) 7 (some a40)) 8 (some a49)) 9 (some a58)) 10 (some a66)) 11 (some a74)) 21 (some a87)) 25 (some a95)) 26 (some a103)) ∧ aF h25 a8 3 400 ∧ aF h25 a17 4 18200 ∧ aF h25 a24 1 2 ∧ aF h25 a31 1 2 ∧ aF h25 a40 1 800 ∧ aF h25 a49 1 800 ∧ aF h25 a58 1 800 ∧ aF h25 a66 1 32 ∧ aF h25 a74 1 32 ∧ aF h25 a87 1 52 ∧ aF h25 a95 1 8 ∧ aF h25 a103 1 8 ∧ nF x h h25) ⟨F24_0.set, F24_1.sR d_a8_x, F24_2.sR d_a17_x, F24_3.sR d_a24_x, F24_4.sR d_a31_x, F24_5.sR d_a40_x, F24_6.sR d_a49_x, F24_7.sR d_a58_x, F24_8.sR d_a66_x, F24_9.sR d_a74_x, F24_10.sR d_a87_x, F24_11.sR d_a95_x, F24_12.sR d_a103_x, (g24).tr (nF.sR)⟩ (fun h25 ⟨F25_0, F25_1, F25_2, F25_3, F25_4, F25_5, F25_6, F25_7, F25_8, F25_9, F25_10, F25_11, F25_12, g25⟩ => ?_)
  refine bp_vret 53 rfl rfl ⟨_, rfl, ?_⟩
  have ND : [x, a8, a17, a24, a31, a40, a49, a58, a66, a74, a87, a95, a103].Nodup := by simp [d_a8_x, Ne.symm d_a8_x, d_a17_x, Ne.symm d_a17_x, d_a24_x, Ne.symm d_a24_x, d_a31_x, Ne.symm d_a31_x, d_a40_x, Ne.symm d_a40_x, d_a49_x, Ne.symm d_a49_x, d_a58_x, Ne.symm d_a58_x, d_a66_x, Ne.symm d_a66_x, d_a74_x, Ne.symm d_a74_x, d_a87_x, Ne.symm d_a87_x, d_a95_x, Ne.symm d_a95_x, d_a103_x, Ne.symm d_a103_x, d_a17_a8, Ne.symm d_a17_a8, d_a24_a8, Ne.symm d_a24_a8, d_a31_a8, Ne.symm d_a31_a8, d_a40_a8, Ne.symm d_a40_a8, d_a49_a8, Ne.symm d_a49_a8, d_a58_a8, Ne.symm d_a58_a8, d_a66_a8, Ne.symm d_a66_a8, d_a74_a8, Ne.symm d_a74_a8, d_a87_a8, Ne.symm d_a87_a8, d_a95_a8, Ne.symm d_a95_a8, d_a103_a8, Ne.symm d_a103_a8, d_a24_a17, Ne.symm d_a24_a17, d_a31_a17, Ne.symm d_a31_a17, d_a40_a17, Ne.symm d_a40_a17, d_a49_a17, Ne.symm d_a49_a17, d_a58_a17, Ne.symm d_a58_a17, d_a66_a17, Ne.symm d_a66_a17, d_a74_a17, Ne.symm d_a74_a17, d_a87_a17, Ne.symm d_a87_a17, d_a95_a17, Ne.symm d_a95_a17, d_a103_a17, Ne.symm d_a103_a17, d_a31_a24, Ne.symm d_a31_a24, d_a40_a24, Ne.symm d_a40_a24, d_a49_a24, Ne.symm d_a49_a24, d_a58_a24, Ne.symm d_a58_a24, d_a66_a24, Ne.symm d_a66_a24, d_a74_a24, Ne.symm d_a74_a24, d_a87_a24, Ne.symm d_a87_a24, d_a95_a24, Ne.symm d_a95_a24, d_a103_a24, Ne.symm d_a103_a24, d_a40_a31, Ne.symm d_a40_a31, d_a49_a31, Ne.symm d_a49_a31, d_a58_a31, Ne.symm d_a58_a31, d_a66_a31, Ne.symm d_a66_a31, d_a74_a31, Ne.symm d_a74_a31, d_a87_a31, Ne.symm d_a87_a31, d_a95_a31, Ne.symm d_a95_a31, d_a103_a31, Ne.symm d_a103_a31, d_a49_a40, Ne.symm d_a49_a40, d_a58_a40, Ne.symm d_a58_a40, d_a66_a40, Ne.symm d_a66_a40, d_a74_a40, Ne.symm d_a74_a40, d_a87_a40, Ne.symm d_a87_a40, d_a95_a40, Ne.symm d_a95_a40, d_a103_a40, Ne.symm d_a103_a40, d_a58_a49, Ne.symm d_a58_a49, d_a66_a49, Ne.symm d_a66_a49, d_a74_a49, Ne.symm d_a74_a49, d_a87_a49, Ne.symm d_a87_a49, d_a95_a49, Ne.symm d_a95_a49, d_a103_a49, Ne.symm d_a103_a49, d_a66_a58, Ne.symm d_a66_a58, d_a74_a58, Ne.symm d_a74_a58, d_a87_a58, Ne.symm d_a87_a58, d_a95_a58, Ne.symm d_a95_a58, d_a103_a58, Ne.symm d_a103_a58, d_a74_a66, Ne.symm d_a74_a66, d_a87_a66, Ne.symm d_a87_a66, d_a95_a66, Ne.symm d_a95_a66, d_a103_a66, Ne.symm d_a103_a66, d_a87_a74, Ne.symm d_a87_a74, d_a95_a74, Ne.symm d_a95_a74, d_a103_a74, Ne.symm d_a103_a74, d_a95_a87, Ne.symm d_a95_a87, d_a103_a87, Ne.symm d_a103_a87, d_a103_a95, Ne.symm d_a103_a95]
  obtain ⟨M, hM⟩ : ∃ M : Nat → Nat, M = fun j => [x, a8, a17, a24, a31, a40, a49, a58, a66, a74, a87, a95, a103].getD (mPos j) 0 := ⟨_, rfl⟩
  have e0 : M 0 = x := by rw [hM]; rfl
  have e2 : M 2 = a8 := by rw [hM]; rfl
  have e4 : M 4 = a17 := by rw [hM]; rfl
  have e5 : M 5 = a24 := by rw [hM]; rfl
  have e6 : M 6 = a31 := by rw [hM]; rfl
  have e7 : M 7 = a40 := by rw [hM]; rfl
  have e8 : M 8 = a49 := by rw [hM]; rfl
  have e9 : M 9 = a58 := by rw [hM]; rfl
  have e10 : M 10 = a66 := by rw [hM]; rfl
  have e11 : M 11 = a74 := by rw [hM]; rfl
  have e21 : M 21 = a87 := by rw [hM]; rfl
  have e25 : M 25 = a95 := by rw [hM]; rfl
  have e26 : M 26 = a103 := by rw [hM]; rfl
  have hinj : ∀ i j, mC i = true → mC j = true → M i = M j → i = j := fun i j hi hj e => by
    rw [hM] at e
    exact mPos_inj hi hj (getD_inj ND (mPos_lt hi) (mPos_lt hj) e)
  have hO := F25_0
  rw [← e0] at hO
  have A2 := F25_1
  rw [← e2] at A2
  have A4 := F25_2
  rw [← e4] at A4
  have A5 := F25_3
  rw [← e5] at A5
  have A6 := F25_4
  rw [← e6] at A6
  have A7 := F25_5
  rw [← e7] at A7
  have A8 := F25_6
  rw [← e8] at A8
  have A9 := F25_7
  rw [← e9] at A9
  have A10 := F25_8
  rw [← e10] at A10
  have A11 := F25_9
  rw [← e11] at A11
  have A21 := F25_10
  rw [← e21] at A21
  have A25 := F25_11
  rw [← e25] at A25
  have A26 := F25_12
  rw [← e26] at A26
  have hL : MoL M h25 := ⟨hO.1, fun j hj => by
    have q := mC_cs (j := j) (by unfold mC; rw [hj, Bool.or_true])
    rcases q with q | q | q | q | q | q | q | q | q | q | q | q | q
    · subst q; exact absurd hj (by decide)
    · subst q; exact ⟨(hO.2.2 2).trans (by rw [e2]; rfl), A2.1, A2.2.1⟩
    · subst q; exact ⟨(hO.2.2 4).trans (by rw [e4]; rfl), A4.1, A4.2.1⟩
    · subst q; exact ⟨(hO.2.2 5).trans (by rw [e5]; rfl), A5.1, A5.2.1⟩
    · subst q; exact ⟨(hO.2.2 6).trans (by rw [e6]; rfl), A6.1, A6.2.1⟩
    · subst q; exact ⟨(hO.2.2 7).trans (by rw [e7]; rfl), A7.1, A7.2.1⟩
    · subst q; exact ⟨(hO.2.2 8).trans (by rw [e8]; rfl), A8.1, A8.2.1⟩
    · subst q; exact ⟨(hO.2.2 9).trans (by rw [e9]; rfl), A9.1, A9.2.1⟩
    · subst q; exact ⟨(hO.2.2 10).trans (by rw [e10]; rfl), A10.1, A10.2.1⟩
    · subst q; exact ⟨(hO.2.2 11).trans (by rw [e11]; rfl), A11.1, A11.2.1⟩
    · subst q; exact ⟨(hO.2.2 21).trans (by rw [e21]; rfl), A21.1, A21.2.1⟩
    · subst q; exact ⟨(hO.2.2 25).trans (by rw [e25]; rfl), A25.1, A25.2.1⟩
    · subst q; exact ⟨(hO.2.2 26).trans (by rw [e26]; rfl), A26.1, A26.2.1⟩, hinj⟩
  refine hQ _ M e0 ⟨bp_Fi.rf, hL, ⟨(hO.2.1 1).trans rfl, (hO.2.1 3).trans rfl, (hO.2.1 0).trans rfl, (hO.2.1 12).trans rfl, (hO.2.1 13).trans rfl, (hO.2.1 14).trans rfl, (hO.2.1 15).trans rfl, (hO.2.1 16).trans rfl, (hO.2.1 17).trans rfl, (hO.2.1 18).trans rfl, (hO.2.1 19).trans rfl, (hO.2.1 20).trans rfl, (hO.2.1 22).trans rfl, (hO.2.1 23).trans rfl, (hO.2.1 24).trans rfl, (hO.2.1 27).trans rfl, (hO.2.1 28).trans rfl, (hO.2.1 29).trans rfl, (hO.2.1 30).trans rfl, (hO.2.1 31).trans rfl, (hO.2.1 32).trans rfl, (hO.2.1 33).trans rfl⟩, ⟨by decide, fun k hk => absurd hk (Nat.not_lt_zero k)⟩, ⟨by decide, fun k hk => absurd hk (Nat.not_lt_zero k)⟩, ⟨by decide, by decide, (A5.2.2.1 0).trans rfl, (A6.2.2.1 0).trans rfl, fun k hk => absurd hk (Nat.not_lt_zero k), fun k hk => absurd hk (Nat.not_lt_zero k)⟩, ⟨by decide, by decide, (A5.2.2.1 1).trans rfl, (A6.2.2.1 1).trans rfl, fun k hk => absurd hk (Nat.not_lt_zero k), fun k hk => absurd hk (Nat.not_lt_zero k)⟩, ⟨by decide, fun k hk => absurd hk (Nat.not_lt_zero k)⟩, ⟨by decide, fun k hk => absurd hk (Nat.not_lt_zero k)⟩, ⟨by decide, fun k hk => absurd hk (Nat.not_lt_zero k)⟩⟩ g25 (fun j hj hn => ?_)
  rcases mC_cs hj with q | q | q | q | q | q | q | q | q | q | q | q | q
  · exact absurd q hn
  · subst q; rw [e2]; exact z_a8
  · subst q; rw [e4]; exact z_a17
  · subst q; rw [e5]; exact z_a24
  · subst q; rw [e6]; exact z_a31
  · subst q; rw [e7]; exact z_a40
  · subst q; rw [e8]; exact z_a49
  · subst q; rw [e9]; exact z_a58
  · subst q; rw [e10]; exact z_a66
  · subst q; rw [e11]; exact z_a74
  · subst q; rw [e21]; exact z_a87
  · subst q; rw [e25]; exact z_a95
  · subst q; rw [e26]; exact z_a103
end MOI
