/-! making objects: o the one that is made; old cells stay as they are -/
def nF (o : Nat) (h h' : bp_H) : Prop := bp_Fr (fun b => b = o) h h' ∧ ∀ b, bp_K h b ≠ 0 → bp_K h' b = bp_K h b
theorem bp_sm.tr {h h1 h2 : bp_H} {b : Nat} (e : bp_sm h h1 b) (g : bp_sm h1 h2 b) : bp_sm h h2 b := ⟨g.1.trans e.1, g.2.1.trans e.2.1, fun k => (g.2.2.1 k).trans (e.2.2.1 k), fun k => (g.2.2.2.1 k).trans (e.2.2.2.1 k), fun k => (g.2.2.2.2 k).trans (e.2.2.2.2 k)⟩
theorem nF.rf {o : Nat} {h : bp_H} : nF o h h := ⟨bp_Fr.rf, fun _ _ => rfl⟩
theorem nF.tr {o : Nat} {h h1 h2 : bp_H} (f : nF o h h1) (g : nF o h1 h2) : nF o h h2 := ⟨fun b hb hn => (f.1 b hb hn).tr (g.1 b (by rw [f.2 b hb]; exact hb) hn), fun b hb => (g.2 b (by rw [f.2 b hb]; exact hb)).trans (f.2 b hb)⟩
theorem nF.z {o b : Nat} {h h1 : bp_H} (f : nF o h h1) (hb : bp_K h1 b = 0) : bp_K h b = 0 := by
  by_cases z : bp_K h b = 0
  · exact z
  · rw [f.2 b z] at hb; exact hb
theorem nF.sub {o a : Nat} {h h1 h2 : bp_H} (f : nF o h h1) (g : nF a h1 h2) (ha : bp_K h a = 0) : nF o h h2 := ⟨fun b hb hn => (f.1 b hb hn).tr (g.1 b (by rw [f.2 b hb]; exact hb) (fun e => hb (e ▸ ha))), fun b hb => (g.2 b (by rw [f.2 b hb]; exact hb)).trans (f.2 b hb)⟩
theorem bp_sm.new {h : bp_H} {a b kd n : Nat} (hn : b ≠ a) : bp_sm h (bp_new h a kd n) b := ⟨by rw [bp_K_new, if_neg hn], by rw [bp_L_new, if_neg hn], fun k => by rw [bp_I_new, if_neg hn], fun k => by rw [bp_J_new, if_neg hn], fun k => by rw [bp_R_new, if_neg hn]⟩
theorem nF.new {o a kd n : Nat} {h : bp_H} (ha : bp_K h a = 0) : nF o h (bp_new h a kd n) := ⟨fun b hb _ => bp_sm.new (fun e => hb (e ▸ ha)), fun b hb => (bp_sm.new (h := h) (a := a) (b := b) (fun e => hb (e ▸ ha))).1⟩
theorem nF.sR {o j : Nat} {x : Option Nat} {h : bp_H} : nF o h (bp_sR h o j x) := ⟨fun b hb hn => ⟨rfl, rfl, fun _ => rfl, fun _ => rfl, fun k => by rw [bp_R_sR, if_neg (fun z => hn z.1)]⟩, fun _ _ => rfl⟩
theorem nF.sI {o j : Nat} {x : Int32} {h : bp_H} : nF o h (bp_sI h o j x) := ⟨fun b hb hn => ⟨rfl, rfl, fun k => by rw [bp_I_sI, if_neg (fun z => hn z.1)], fun _ => rfl, fun _ => rfl⟩, fun _ _ => rfl⟩
/-- an object as it is made: its kind, no numbers, its references; an array of zeros -/
def oF (h : bp_H) (o k : Nat) (R : Nat → Option Nat) : Prop := bp_K h o = k ∧ (∀ j, bp_I h o j = 0) ∧ ∀ j, bp_R h o j = R j
def aF (h : bp_H) (a k n : Nat) : Prop := bp_K h a = k ∧ bp_L h a = n ∧ (∀ j, bp_I h a j = 0) ∧ ∀ j, bp_R h a j = none
theorem oF.sm {h h' : bp_H} {o k : Nat} {R : Nat → Option Nat} (H : oF h o k R) (e : bp_sm h h' o) : oF h' o k R := ⟨e.1.trans H.1, fun j => (e.2.2.1 j).trans (H.2.1 j), fun j => (e.2.2.2.2 j).trans (H.2.2 j)⟩
theorem aF.sm {h h' : bp_H} {o k n : Nat} (H : aF h o k n) (e : bp_sm h h' o) : aF h' o k n := ⟨e.1.trans H.1, e.2.1.trans H.2.1, fun j => (e.2.2.1 j).trans (H.2.2.1 j), fun j => (e.2.2.2.2 j).trans (H.2.2.2 j)⟩
theorem oF.nf {h h' : bp_H} {o b k : Nat} {R : Nat → Option Nat} (H : oF h o k R) (f : nF b h h') (hk : k ≠ 0) (hn : o ≠ b) : oF h' o k R := H.sm (f.1 o (by rw [H.1]; exact hk) hn)
theorem aF.nf {h h' : bp_H} {o b k n : Nat} (H : aF h o k n) (f : nF b h h') (hk : k ≠ 0) (hn : o ≠ b) : aF h' o k n := H.sm (f.1 o (by rw [H.1]; exact hk) hn)
theorem oF.new {h : bp_H} {o a kd n k : Nat} {R : Nat → Option Nat} (H : oF h o k R) (ha : bp_K h a = 0) (hk : k ≠ 0) : oF (bp_new h a kd n) o k R := H.sm (bp_sm.new (fun e => hk (by rw [← H.1, e]; exact ha)))
theorem aF.new {h : bp_H} {o a kd n k m : Nat} (H : aF h o k m) (ha : bp_K h a = 0) (hk : k ≠ 0) : aF (bp_new h a kd n) o k m := H.sm (bp_sm.new (fun e => hk (by rw [← H.1, e]; exact ha)))
theorem oF_new {h : bp_H} {a kd n : Nat} : oF (bp_new h a kd n) a kd (fun _ => none) := ⟨by rw [bp_K_new, if_pos rfl], fun j => by rw [bp_I_new, if_pos rfl], fun j => by rw [bp_R_new, if_pos rfl]⟩
theorem aF_new {h : bp_H} {a kd n : Nat} : aF (bp_new h a kd n) a kd n := ⟨by rw [bp_K_new, if_pos rfl], by rw [bp_L_new, if_pos rfl], fun j => by rw [bp_I_new, if_pos rfl], fun j => by rw [bp_R_new, if_pos rfl]⟩
theorem oF.sR {h : bp_H} {o b j k : Nat} {x : Option Nat} {R : Nat → Option Nat} (H : oF h o k R) (hn : o ≠ b) : oF (bp_sR h b j x) o k R := ⟨H.1, H.2.1, fun q => by rw [bp_R_sR, if_neg (fun z => hn z.1)]; exact H.2.2 q⟩
theorem aF.sR {h : bp_H} {o b j k n : Nat} {x : Option Nat} (H : aF h o k n) (hn : o ≠ b) : aF (bp_sR h b j x) o k n := ⟨H.1, H.2.1, H.2.2.1, fun q => by rw [bp_R_sR, if_neg (fun z => hn z.1)]; exact H.2.2.2 q⟩
theorem oF.set {h : bp_H} {o j k : Nat} {x : Option Nat} {R : Nat → Option Nat} (H : oF h o k R) : oF (bp_sR h o j x) o k (bp_u1 R j x) := ⟨H.1, H.2.1, fun q => by
  rw [bp_R_sR]
  unfold bp_u1
  by_cases e : q = j
  · rw [if_pos ⟨rfl, e⟩, if_pos e]
  · rw [if_neg (fun z => e z.2), if_neg e]; exact H.2.2 q⟩
theorem oF.ne {h : bp_H} {o a k : Nat} {R : Nat → Option Nat} (H : oF h o k R) (ha : bp_K h a = 0) (hk : k ≠ 0) : a ≠ o := fun e => hk (by rw [← H.1, ← e]; exact ha)
theorem aF.ne {h : bp_H} {o a k n : Nat} (H : aF h o k n) (ha : bp_K h a = 0) (hk : k ≠ 0) : a ≠ o := fun e => hk (by rw [← H.1, ← e]; exact ha)
section CONS
variable {l : Launch} {G : bp_G} {H0 : Heap} {h : bp_H} {c s : Nat} {Q : Option Value → bp_H → Nat → Nat → Prop}
set_option maxRecDepth 100000 in
set_option maxHeartbeats 4000000 in
theorem s_Row_init {r n : Nat} (F0_0 : oF h r 7 (fun _ => none)) (hn : n < 100000) (hQ : ∀ h' a, bp_K h a = 0 → a ≠ r → oF h' r 7 (bp_u1 (fun _ => none) 0 (some a)) → aF h' a 1 n → nF r h h' → Q none h' c s) : bp_AM l G H0 (1, 20, false, false) M_Row_init h (c + 1) (s + n) [.ref r, .int (nI n)] Q := by
  refine bp_of (ls := [some (.ref r), some (.int (nI n))]) (by decide) dt_Row_init (Nat.le_of_ble_eq_true rfl) (fun q hq => hq) false ?_
  refine bp_aload_n (q := 1) 0 rfl rfl rfl rfl ?_
  refine bp_objInit (q := 4) 1 rfl rfl wd128 wd121 wd122 (Nat.le_of_ble_eq_true rfl) ⟨Nat.le_of_ble_eq_true rfl, Nat.le_of_ble_eq_true rfl⟩ ?_
  refine bp_aload_n (q := 5) 2 rfl rfl rfl rfl ?_
  refine bp_iload_n (q := 6) 3 rfl rfl rfl rfl ?_
  refine bp_newa (c := c) (s := s) (kd := 1) (N := n) (q := 8) 4 rfl rfl wd136 rfl (Or.inl ⟨rfl, rfl⟩) (nI_pos (by omega)) (nI_clamp (by omega)) (by omega) (fun a6 n_a6 => ?_)
  have d_a6_r := F0_0.ne n_a6 (by decide)
  have z_a6 := ((nF.rf : nF r h h)).z n_a6
  refine bp_nx (X := fun h1 => oF h1 r 7 (fun _ => none) ∧ aF h1 a6 1 n ∧ nF r h h1) ⟨F0_0.new n_a6 (by decide), aF_new, (nF.rf).tr (nF.new n_a6)⟩ (fun h1 ⟨F1_0, F1_1, g1⟩ => ?_)
  refine bp_putR (q := 11) (ci := 1) (j := 0) 5 rfl rfl fl_Row_9_1 cl1 F1_0.1 (fun r hr => by cases hr; exact Or.inl rfl) (Or.inr ⟨_, rfl⟩) rfl ?_
  refine bp_nx (X := fun h2 => oF h2 r 7 (bp_u1 (fun _ => none) 0 (some a6)) ∧ aF h2 a6 1 n ∧ nF r h h2) ⟨F1_0.set, F1_1.sR d_a6_r, (g1).tr nF.sR⟩ (fun h2 ⟨F2_0, F2_1, g2⟩ => ?_)
  refine bp_vret 6 rfl rfl ⟨_, rfl, hQ _ _ z_a6 d_a6_r F2_0 F2_1 g2⟩
set_option maxRecDepth 100000 in
set_option maxHeartbeats 4000000 in
theorem s_St_init {o : Nat} (hQ : Q none h c s) : bp_AM l G H0 (1, 20, false, false) M_St_init h c s [.ref o] Q := by
  refine bp_of (ls := [some (.ref o)]) (by decide) dt_St_init (Nat.le_of_ble_eq_true rfl) (fun q hq => hq) false ?_
  refine bp_aload_n (q := 1) 0 rfl rfl rfl rfl ?_
  refine bp_objInit (q := 4) 1 rfl rfl wd178 wd121 wd122 (Nat.le_of_ble_eq_true rfl) ⟨Nat.le_of_ble_eq_true rfl, Nat.le_of_ble_eq_true rfl⟩ ?_
  refine bp_vret 2 rfl rfl ⟨_, rfl, hQ⟩
set_option maxRecDepth 100000 in
set_option maxHeartbeats 4000000 in
theorem s_Page_init {p : Nat} (F0_0 : oF h p 8 (fun _ => none)) (hQ : ∀ h' a7 a15 a23 a29 a36 a43 a50, bp_K h a7 = 0 → bp_K h a15 = 0 → bp_K h a23 = 0 → bp_K h a29 = 0 → bp_K h a36 = 0 → bp_K h a43 = 0 → bp_K h a50 = 0 → oF h' p 8 (bp_u1 (bp_u1 (bp_u1 (bp_u1 (bp_u1 (fun _ => none) 0 (some a7)) 1 (some a15)) 2 (some a23)) 3 (some a29)) 4 (some a43)) → aF h' a7 1 16 → aF h' a15 1 16 → aF h' a23 1 16 → oF h' a29 7 (bp_u1 (fun _ => none) 0 (some a36)) → aF h' a36 1 400 → oF h' a43 7 (bp_u1 (fun _ => none) 0 (some a50)) → aF h' a50 1 400 → [a50, a43, a36, a29, a23, a15, a7, p].Nodup → nF p h h' → Q none h' c s) : bp_AM l G H0 (2, 41, false, false) M_Page_init h (c + 7) (s + 852) [.ref p] Q := by
  refine bp_of (ls := [some (.ref p)]) (by decide) dt_Page_init (Nat.le_of_ble_eq_true rfl) (fun q hq => hq) false ?_
  refine bp_aload_n (q := 1) 0 rfl rfl rfl rfl ?_
  refine bp_objInit (q := 4) 1 rfl rfl wd142 wd121 wd122 (Nat.le_of_ble_eq_true rfl) ⟨Nat.le_of_ble_eq_true rfl, Nat.le_of_ble_eq_true rfl⟩ ?_
  refine bp_aload_n (q := 5) 2 rfl rfl rfl rfl ?_
  refine bp_bipush (v := 16) (q := 7) 3 rfl rfl (by decide) ?_
  refine bp_newa (c := c + 6) (s := s + 836) (kd := 1) (N := 16) (q := 9) 4 rfl rfl wd136 rfl (Or.inl ⟨rfl, rfl⟩) (by decide) rfl (by decide) (fun a7 n_a7 => ?_)
  have d_a7_p := F0_0.ne n_a7 (by decide)
  have z_a7 := ((nF.rf : nF p h h)).z n_a7
  refine bp_nx (X := fun h1 => oF h1 p 8 (fun _ => none) ∧ aF h1 a7 1 16 ∧ nF p h h1) ⟨F0_0.new n_a7 (by decide), aF_new, (nF.rf).tr (nF.new n_a7)⟩ (fun h1 ⟨F1_0, F1_1, g1⟩ => ?_)
  refine bp_putR (q := 12) (ci := 2) (j := 0) 5 rfl rfl fl_Page_9_2 cl2 F1_0.1 (fun r hr => by cases hr; exact Or.inr ⟨rfl, rfl, rfl, _, wd145, rfl⟩) (Or.inr ⟨_, rfl⟩) rfl ?_
  refine bp_nx (X := fun h2 => oF h2 p 8 (bp_u1 (fun _ => none) 0 (some a7)) ∧ aF h2 a7 1 16 ∧ nF p h h2) ⟨F1_0.set, F1_1.sR d_a7_p, (g1).tr nF.sR⟩ (fun h2 ⟨F2_0, F2_1, g2⟩ => ?_)
  refine bp_aload_n (q := 13) 6 rfl rfl rfl rfl ?_
  refine bp_bipush (v := 16) (q := 15) 7 rfl rfl (by decide) ?_
  refine bp_newa (c := c + 5) (s := s + 820) (kd := 1) (N := 16) (q := 17) 8 rfl rfl wd136 rfl (Or.inl ⟨rfl, rfl⟩) (by decide) rfl (by decide) (fun a15 n_a15 => ?_)
  have d_a15_p := F2_0.ne n_a15 (by decide)
  have d_a15_a7 := F2_1.ne n_a15 (by decide)
  have z_a15 := (g2).z n_a15
  refine bp_nx (X := fun h3 => oF h3 p 8 (bp_u1 (fun _ => none) 0 (some a7)) ∧ aF h3 a7 1 16 ∧ aF h3 a15 1 16 ∧ nF p h h3) ⟨F2_0.new n_a15 (by decide), F2_1.new n_a15 (by decide), aF_new, (g2).tr (nF.new n_a15)⟩ (fun h3 ⟨F3_0, F3_1, F3_2, g3⟩ => ?_)
  refine bp_putR (q := 20) (ci := 2) (j := 1) 9 rfl rfl fl_Page_15_2 cl2 F3_0.1 (fun r hr => by cases hr; exact Or.inr ⟨rfl, rfl, rfl, _, wd146, rfl⟩) (Or.inr ⟨_, rfl⟩) rfl ?_
  refine bp_nx (X := fun h4 => oF h4 p 8 (bp_u1 (bp_u1 (fun _ => none) 0 (some a7)) 1 (some a15)) ∧ aF h4 a7 1 16 ∧ aF h4 a15 1 16 ∧ nF p h h4) ⟨F3_0.set, F3_1.sR d_a7_p, F3_2.sR d_a15_p, (g3).tr nF.sR⟩ (fun h4 ⟨F4_0, F4_1, F4_2, g4⟩ => ?_)
  refine bp_aload_n (q := 21) 10 rfl rfl rfl rfl ?_
  refine bp_bipush (v := 16) (q := 23) 11 rfl rfl (by decide) ?_
  refine bp_newa (c := c + 4) (s := s + 804) (kd := 1) (N := 16) (q := 25) 12 rfl rfl wd136 rfl (Or.inl ⟨rfl, rfl⟩) (by decide) rfl (by decide) (fun a23 n_a23 => ?_)
  have d_a23_p := F4_0.ne n_a23 (by decide)
  have d_a23_a7 := F4_1.ne n_a23 (by decide)
  have d_a23_a15 := F4_2.ne n_a23 (by decide)
  have z_a23 := (g4).z n_a23
  refine bp_nx (X := fun h5 => oF h5 p 8 (bp_u1 (bp_u1 (fun _ => none) 0 (some a7)) 1 (some a15)) ∧ aF h5 a7 1 16 ∧ aF h5 a15 1 16 ∧ aF h5 a23 1 16 ∧ nF p h h5) ⟨F4_0.new n_a23 (by decide), F4_1.new n_a23 (by decide), F4_2.new n_a23 (by decide), aF_new, (g4).tr (nF.new n_a23)⟩ (fun h5 ⟨F5_0, F5_1, F5_2, F5_3, g5⟩ => ?_)
  refine bp_putR (q := 28) (ci := 2) (j := 2) 13 rfl rfl fl_Page_18_2 cl2 F5_0.1 (fun r hr => by cases hr; exact Or.inr ⟨rfl, rfl, rfl, _, wd147, rfl⟩) (Or.inr ⟨_, rfl⟩) rfl ?_
  refine bp_nx (X := fun h6 => oF h6 p 8 (bp_u1 (bp_u1 (bp_u1 (fun _ => none) 0 (some a7)) 1 (some a15)) 2 (some a23)) ∧ aF h6 a7 1 16 ∧ aF h6 a15 1 16 ∧ aF h6 a23 1 16 ∧ nF p h h6) ⟨F5_0.set, F5_1.sR d_a7_p, F5_2.sR d_a15_p, F5_3.sR d_a23_p, (g5).tr nF.sR⟩ (fun h6 ⟨F6_0, F6_1, F6_2, F6_3, g6⟩ => ?_)
  refine bp_aload_n (q := 29) 14 rfl rfl rfl rfl ?_
  refine bp_newo (c := c + 3) (s := s + 802) (n := 2) (q := 32) 15 rfl rfl nw_Page_21 cl1 (fun a29 n_a29 => ?_)
  have d_a29_p := F6_0.ne n_a29 (by decide)
  have d_a29_a7 := F6_1.ne n_a29 (by decide)
  have d_a29_a15 := F6_2.ne n_a29 (by decide)
  have d_a29_a23 := F6_3.ne n_a29 (by decide)
  have z_a29 := (g6).z n_a29
  refine bp_nx (X := fun h7 => oF h7 p 8 (bp_u1 (bp_u1 (bp_u1 (fun _ => none) 0 (some a7)) 1 (some a15)) 2 (some a23)) ∧ aF h7 a7 1 16 ∧ aF h7 a15 1 16 ∧ aF h7 a23 1 16 ∧ oF h7 a29 7 (fun _ => none) ∧ nF p h h7) ⟨F6_0.new n_a29 (by decide), F6_1.new n_a29 (by decide), F6_2.new n_a29 (by decide), F6_3.new n_a29 (by decide), oF_new, (g6).tr (nF.new n_a29)⟩ (fun h7 ⟨F7_0, F7_1, F7_2, F7_3, F7_4, g7⟩ => ?_)
  refine bp_dup (q := 33) 16 rfl rfl rfl ?_
  refine bp_sipush (v := 400) (q := 36) 17 rfl rfl (by decide) ?_
  refine bp_callI (q := 39) 18 rfl rfl cw_Row_init lk_Page_23 rfl rfl wd126 rfl rfl (Nat.le_of_ble_eq_true rfl) ⟨Nat.le_of_ble_eq_true rfl, Nat.le_of_ble_eq_true rfl⟩ (s_Row_init (c := c + 2) (s := s + 402) (n := 400) F7_4 (by decide) (fun h8 a36 y_a36 e_a36 E_0 E_1 f8 => ?_))
  have F8_0 := F7_0.nf f8 (by decide) (d_a29_p).symm
  have F8_1 := F7_1.nf f8 (by decide) (d_a29_a7).symm
  have F8_2 := F7_2.nf f8 (by decide) (d_a29_a15).symm
  have F8_3 := F7_3.nf f8 (by decide) (d_a29_a23).symm
  have F8_4 := E_0
  have F8_5 := E_1
  have d_a36_p := F7_0.ne y_a36 (by decide)
  have d_a36_a7 := F7_1.ne y_a36 (by decide)
  have d_a36_a15 := F7_2.ne y_a36 (by decide)
  have d_a36_a23 := F7_3.ne y_a36 (by decide)
  have d_a36_a29 := F7_4.ne y_a36 (by decide)
  have z_a36 := (g7).z y_a36
  have g8 := (g7).sub f8 z_a29
  refine bp_putR (q := 42) (ci := 2) (j := 3) 19 rfl rfl fl_Page_26_2 cl2 F8_0.1 (fun r hr => by cases hr; exact Or.inr ⟨rfl, rfl, rfl, _, wd148, rfl⟩) (Or.inl ⟨_, rfl⟩) rfl ?_
  refine bp_nx (X := fun h9 => oF h9 p 8 (bp_u1 (bp_u1 (bp_u1 (bp_u1 (fun _ => none) 0 (some a7)) 1 (some a15)) 2 (some a23)) 3 (some a29)) ∧ aF h9 a7 1 16 ∧ aF h9 a15 1 16 ∧ aF h9 a23 1 16 ∧ oF h9 a29 7 (bp_u1 (fun _ => none) 0 (some a36)) ∧ aF h9 a36 1 400 ∧ nF p h h9) ⟨F8_0.set, F8_1.sR d_a7_p, F8_2.sR d_a15_p, F8_3.sR d_a23_p, F8_4.sR d_a29_p, F8_5.sR d_a36_p, (g8).tr nF.sR⟩ (fun h9 ⟨F9_0, F9_1, F9_2, F9_3, F9_4, F9_5, g9⟩ => ?_)
  refine bp_aload_n (q := 43) 20 rfl rfl rfl rfl ?_
  refine bp_newo (c := c + 1) (s := s + 400) (n := 2) (q := 46) 21 rfl rfl nw_Page_21 cl1 (fun a43 n_a43 => ?_)
  have d_a43_p := F9_0.ne n_a43 (by decide)
  have d_a43_a7 := F9_1.ne n_a43 (by decide)
  have d_a43_a15 := F9_2.ne n_a43 (by decide)
  have d_a43_a23 := F9_3.ne n_a43 (by decide)
  have d_a43_a29 := F9_4.ne n_a43 (by decide)
  have d_a43_a36 := F9_5.ne n_a43 (by decide)
  have z_a43 := (g9).z n_a43
  refine bp_nx (X := fun h10 => oF h10 p 8 (bp_u1 (bp_u1 (bp_u1 (bp_u1 (fun _ => none) 0 (some a7)) 1 (some a15)) 2 (some a23)) 3 (some a29)) ∧ aF h10 a7 1 16 ∧ aF h10 a15 1 16 ∧ aF h10 a23 1 16 ∧ oF h10 a29 7 (bp_u1 (fun _ => none) 0 (some a36)) ∧ aF h10 a36 1 400 ∧ oF h10 a43 7 (fun _ => none) ∧ nF p h h10) ⟨F9_0.new n_a43 (by decide), F9_1.new n_a43 (by decide), F9_2.new n_a43 (by decide), F9_3.new n_a43 (by decide), F9_4.new n_a43 (by decide), F9_5.new n_a43 (by decide), oF_new, (g9).tr (nF.new n_a43)⟩ (fun h10 ⟨F10_0, F10_1, F10_2, F10_3, F10_4, F10_5, F10_6, g10⟩ => ?_)
  refine bp_dup (q := 47) 22 rfl rfl rfl ?_
  refine bp_sipush (v := 400) (q := 50) 23 rfl rfl (by decide) ?_
  refine bp_callI (q := 53) 24 rfl rfl cw_Row_init lk_Page_23 rfl rfl wd126 rfl rfl (Nat.le_of_ble_eq_true rfl) ⟨Nat.le_of_ble_eq_true rfl, Nat.le_of_ble_eq_true rfl⟩ (s_Row_init (c := c) (s := s) (n := 400) F10_6 (by decide) (fun h11 a50 y_a50 e_a50 E_0 E_1 f11 => ?_))
  have F11_0 := F10_0.nf f11 (by decide) (d_a43_p).symm
  have F11_1 := F10_1.nf f11 (by decide) (d_a43_a7).symm
  have F11_2 := F10_2.nf f11 (by decide) (d_a43_a15).symm
  have F11_3 := F10_3.nf f11 (by decide) (d_a43_a23).symm
  have F11_4 := F10_4.nf f11 (by decide) (d_a43_a29).symm
  have F11_5 := F10_5.nf f11 (by decide) (d_a43_a36).symm
  have F11_6 := E_0
  have F11_7 := E_1
  have d_a50_p := F10_0.ne y_a50 (by decide)
  have d_a50_a7 := F10_1.ne y_a50 (by decide)
  have d_a50_a15 := F10_2.ne y_a50 (by decide)
  have d_a50_a23 := F10_3.ne y_a50 (by decide)
  have d_a50_a29 := F10_4.ne y_a50 (by decide)
  have d_a50_a36 := F10_5.ne y_a50 (by decide)
  have d_a50_a43 := F10_6.ne y_a50 (by decide)
  have z_a50 := (g10).z y_a50
  have g11 := (g10).sub f11 z_a43
  refine bp_putR (q := 56) (ci := 2) (j := 4) 25 rfl rfl fl_Page_30_2 cl2 F11_0.1 (fun r hr => by cases hr; exact Or.inr ⟨rfl, rfl, rfl, _, wd149, rfl⟩) (Or.inl ⟨_, rfl⟩) rfl ?_
  refine bp_nx (X := fun h12 => oF h12 p 8 (bp_u1 (bp_u1 (bp_u1 (bp_u1 (bp_u1 (fun _ => none) 0 (some a7)) 1 (some a15)) 2 (some a23)) 3 (some a29)) 4 (some a43)) ∧ aF h12 a7 1 16 ∧ aF h12 a15 1 16 ∧ aF h12 a23 1 16 ∧ oF h12 a29 7 (bp_u1 (fun _ => none) 0 (some a36)) ∧ aF h12 a36 1 400 ∧ oF h12 a43 7 (bp_u1 (fun _ => none) 0 (some a50)) ∧ aF h12 a50 1 400 ∧ nF p h h12) ⟨F11_0.set, F11_1.sR d_a7_p, F11_2.sR d_a15_p, F11_3.sR d_a23_p, F11_4.sR d_a29_p, F11_5.sR d_a36_p, F11_6.sR d_a43_p, F11_7.sR d_a50_p, (g11).tr nF.sR⟩ (fun h12 ⟨F12_0, F12_1, F12_2, F12_3, F12_4, F12_5, F12_6, F12_7, g12⟩ => ?_)
  refine bp_vret 26 rfl rfl ⟨_, rfl, hQ _ a7 a15 a23 a29 a36 a43 a50 z_a7 z_a15 z_a23 z_a29 z_a36 z_a43 z_a50 F12_0 F12_1 F12_2 F12_3 F12_4 F12_5 F12_6 F12_7 (by simp [d_a7_p, d_a15_p, d_a15_a7, d_a23_p, d_a23_a7, d_a23_a15, d_a29_p, d_a29_a7, d_a29_a15, d_a29_a23, d_a36_p, d_a36_a7, d_a36_a15, d_a36_a23, d_a36_a29, d_a43_p, d_a43_a7, d_a43_a15, d_a43_a23, d_a43_a29, d_a43_a36, d_a50_p, d_a50_a7, d_a50_a15, d_a50_a23, d_a50_a29, d_a50_a36, d_a50_a43]) g12⟩
set_option maxRecDepth 100000 in
set_option maxHeartbeats 4000000 in
theorem s_CT_init {t : Nat} (F0_0 : oF h t 11 (fun _ => none)) (hQ : ∀ h' a7 a13 a19, bp_K h a7 = 0 → bp_K h a13 = 0 → bp_K h a19 = 0 → oF h' t 11 (bp_u1 (bp_u1 (fun _ => none) 0 (some a7)) 1 (some a13)) → aF h' a7 1 8 → oF h' a13 7 (bp_u1 (fun _ => none) 0 (some a19)) → aF h' a19 1 16 → [a19, a13, a7, t].Nodup → nF t h h' → Q none h' c s) : bp_AM l G H0 (2, 41, false, false) M_CT_init h (c + 3) (s + 26) [.ref t] Q := by
  refine bp_of (ls := [some (.ref t)]) (by decide) dt_CT_init (Nat.le_of_ble_eq_true rfl) (fun q hq => hq) false ?_
  refine bp_aload_n (q := 1) 0 rfl rfl rfl rfl ?_
  refine bp_objInit (q := 4) 1 rfl rfl wd210 wd121 wd122 (Nat.le_of_ble_eq_true rfl) ⟨Nat.le_of_ble_eq_true rfl, Nat.le_of_ble_eq_true rfl⟩ ?_
  refine bp_aload_n (q := 5) 2 rfl rfl rfl rfl ?_
  refine bp_bipush (v := 8) (q := 7) 3 rfl rfl (by decide) ?_
  refine bp_newa (c := c + 2) (s := s + 18) (kd := 1) (N := 8) (q := 9) 4 rfl rfl wd136 rfl (Or.inl ⟨rfl, rfl⟩) (by decide) rfl (by decide) (fun a7 n_a7 => ?_)
  have d_a7_t := F0_0.ne n_a7 (by decide)
  have z_a7 := ((nF.rf : nF t h h)).z n_a7
  refine bp_nx (X := fun h1 => oF h1 t 11 (fun _ => none) ∧ aF h1 a7 1 8 ∧ nF t h h1) ⟨F0_0.new n_a7 (by decide), aF_new, (nF.rf).tr (nF.new n_a7)⟩ (fun h1 ⟨F1_0, F1_1, g1⟩ => ?_)
  refine bp_putR (q := 12) (ci := 5) (j := 0) 5 rfl rfl fl_CT_11_5 cl5 F1_0.1 (fun r hr => by cases hr; exact Or.inr ⟨rfl, rfl, rfl, _, wd213, rfl⟩) (Or.inr ⟨_, rfl⟩) rfl ?_
  refine bp_nx (X := fun h2 => oF h2 t 11 (bp_u1 (fun _ => none) 0 (some a7)) ∧ aF h2 a7 1 8 ∧ nF t h h2) ⟨F1_0.set, F1_1.sR d_a7_t, (g1).tr nF.sR⟩ (fun h2 ⟨F2_0, F2_1, g2⟩ => ?_)
  refine bp_aload_n (q := 13) 6 rfl rfl rfl rfl ?_
  refine bp_newo (c := c + 1) (s := s + 16) (n := 2) (q := 16) 7 rfl rfl nw_CT_15 cl1 (fun a13 n_a13 => ?_)
  have d_a13_t := F2_0.ne n_a13 (by decide)
  have d_a13_a7 := F2_1.ne n_a13 (by decide)
  have z_a13 := (g2).z n_a13
  refine bp_nx (X := fun h3 => oF h3 t 11 (bp_u1 (fun _ => none) 0 (some a7)) ∧ aF h3 a7 1 8 ∧ oF h3 a13 7 (fun _ => none) ∧ nF t h h3) ⟨F2_0.new n_a13 (by decide), F2_1.new n_a13 (by decide), oF_new, (g2).tr (nF.new n_a13)⟩ (fun h3 ⟨F3_0, F3_1, F3_2, g3⟩ => ?_)
  refine bp_dup (q := 17) 8 rfl rfl rfl ?_
  refine bp_bipush (v := 16) (q := 19) 9 rfl rfl (by decide) ?_
  refine bp_callI (q := 22) 10 rfl rfl cw_Row_init lk_CT_17 rfl rfl wd126 rfl rfl (Nat.le_of_ble_eq_true rfl) ⟨Nat.le_of_ble_eq_true rfl, Nat.le_of_ble_eq_true rfl⟩ (s_Row_init (c := c) (s := s) (n := 16) F3_2 (by decide) (fun h4 a19 y_a19 e_a19 E_0 E_1 f4 => ?_))
  have F4_0 := F3_0.nf f4 (by decide) (d_a13_t).symm
  have F4_1 := F3_1.nf f4 (by decide) (d_a13_a7).symm
  have F4_2 := E_0
  have F4_3 := E_1
  have d_a19_t := F3_0.ne y_a19 (by decide)
  have d_a19_a7 := F3_1.ne y_a19 (by decide)
  have d_a19_a13 := F3_2.ne y_a19 (by decide)
  have z_a19 := (g3).z y_a19
  have g4 := (g3).sub f4 z_a13
  refine bp_putR (q := 25) (ci := 5) (j := 1) 11 rfl rfl fl_CT_20_5 cl5 F4_0.1 (fun r hr => by cases hr; exact Or.inr ⟨rfl, rfl, rfl, _, wd214, rfl⟩) (Or.inl ⟨_, rfl⟩) rfl ?_
  refine bp_nx (X := fun h5 => oF h5 t 11 (bp_u1 (bp_u1 (fun _ => none) 0 (some a7)) 1 (some a13)) ∧ aF h5 a7 1 8 ∧ oF h5 a13 7 (bp_u1 (fun _ => none) 0 (some a19)) ∧ aF h5 a19 1 16 ∧ nF t h h5) ⟨F4_0.set, F4_1.sR d_a7_t, F4_2.sR d_a13_t, F4_3.sR d_a19_t, (g4).tr nF.sR⟩ (fun h5 ⟨F5_0, F5_1, F5_2, F5_3, g5⟩ => ?_)
  refine bp_vret 12 rfl rfl ⟨_, rfl, hQ _ a7 a13 a19 z_a7 z_a13 z_a19 F5_0 F5_1 F5_2 F5_3 (by simp [d_a7_t, d_a13_t, d_a13_a7, d_a19_t, d_a19_a7, d_a19_a13]) g5⟩
set_option maxRecDepth 100000 in
set_option maxHeartbeats 4000000 in
theorem s_Rd3_init {b x y : Nat} {R : Nat → Option Nat} (F0_0 : oF h b 9 R) (hQ : ∀ h', oF h' b 9 (bp_u1 (bp_u1 R 11 (some x)) 12 (some y)) → nF b h h' → Q none h' c s) : bp_AM l G H0 (1, 20, false, false) M_Rd_init h c s [.ref b, .ref x, .ref y] Q := by
  refine bp_of (ls := [some (.ref b), some (.ref x), some (.ref y)]) (by decide) dt_Rd_init (Nat.le_of_ble_eq_true rfl) (fun q hq => hq) false ?_
  refine bp_aload_n (q := 1) 0 rfl rfl rfl rfl ?_
  refine bp_objInit (q := 4) 1 rfl rfl wd172 wd121 wd122 (Nat.le_of_ble_eq_true rfl) ⟨Nat.le_of_ble_eq_true rfl, Nat.le_of_ble_eq_true rfl⟩ ?_
  refine bp_aload_n (q := 5) 2 rfl rfl rfl rfl ?_
  refine bp_aload_n (q := 6) 3 rfl rfl rfl rfl ?_
  refine bp_putR (q := 9) (ci := 3) (j := 11) 4 rfl rfl fl_Rd_9_3 cl3 F0_0.1 (fun r hr => by cases hr; exact Or.inr ⟨rfl, rfl, rfl, _, wd234, rfl⟩) (Or.inl ⟨_, rfl⟩) rfl ?_
  refine bp_nx (X := fun h1 => oF h1 b 9 (bp_u1 R 11 (some x)) ∧ nF b h h1) ⟨F0_0.set, (nF.rf).tr nF.sR⟩ (fun h1 ⟨F1_0, g1⟩ => ?_)
  refine bp_aload_n (q := 10) 5 rfl rfl rfl rfl ?_
  refine bp_aload_n (q := 11) 6 rfl rfl rfl rfl ?_
  refine bp_putR (q := 14) (ci := 3) (j := 12) 7 rfl rfl fl_Rd_15_3 cl3 F1_0.1 (fun r hr => by cases hr; exact Or.inr ⟨rfl, rfl, rfl, _, wd239, rfl⟩) (Or.inl ⟨_, rfl⟩) rfl ?_
  refine bp_nx (X := fun h2 => oF h2 b 9 (bp_u1 (bp_u1 R 11 (some x)) 12 (some y)) ∧ nF b h h2) ⟨F1_0.set, (g1).tr nF.sR⟩ (fun h2 ⟨F2_0, g2⟩ => ?_)
  refine bp_vret 8 rfl rfl ⟨_, rfl, hQ _   F2_0 g2⟩
set_option maxRecDepth 100000 in
set_option maxHeartbeats 4000000 in
theorem s_Rd6_init {b x y : Nat} {R : Nat → Option Nat} (F0_0 : oF h b 12 R) (hQ : ∀ h', oF h' b 12 (bp_u1 (bp_u1 R 10 (some x)) 11 (some y)) → nF b h h' → Q none h' c s) : bp_AM l G H0 (1, 20, false, false) M_Rd_init h c s [.ref b, .ref x, .ref y] Q := by
  refine bp_of (ls := [some (.ref b), some (.ref x), some (.ref y)]) (by decide) dt_Rd_init (Nat.le_of_ble_eq_true rfl) (fun q hq => hq) false ?_
  refine bp_aload_n (q := 1) 0 rfl rfl rfl rfl ?_
  refine bp_objInit (q := 4) 1 rfl rfl wd172 wd121 wd122 (Nat.le_of_ble_eq_true rfl) ⟨Nat.le_of_ble_eq_true rfl, Nat.le_of_ble_eq_true rfl⟩ ?_
  refine bp_aload_n (q := 5) 2 rfl rfl rfl rfl ?_
  refine bp_aload_n (q := 6) 3 rfl rfl rfl rfl ?_
  refine bp_putR (q := 9) (ci := 6) (j := 10) 4 rfl rfl fl_Rd_9_6 cl6 F0_0.1 (fun r hr => by cases hr; exact Or.inr ⟨rfl, rfl, rfl, _, wd234, rfl⟩) (Or.inl ⟨_, rfl⟩) rfl ?_
  refine bp_nx (X := fun h1 => oF h1 b 12 (bp_u1 R 10 (some x)) ∧ nF b h h1) ⟨F0_0.set, (nF.rf).tr nF.sR⟩ (fun h1 ⟨F1_0, g1⟩ => ?_)
  refine bp_aload_n (q := 10) 5 rfl rfl rfl rfl ?_
  refine bp_aload_n (q := 11) 6 rfl rfl rfl rfl ?_
  refine bp_putR (q := 14) (ci := 6) (j := 11) 7 rfl rfl fl_Rd_15_6 cl6 F1_0.1 (fun r hr => by cases hr; exact Or.inr ⟨rfl, rfl, rfl, _, wd239, rfl⟩) (Or.inl ⟨_, rfl⟩) rfl ?_
  refine bp_nx (X := fun h2 => oF h2 b 12 (bp_u1 (bp_u1 R 10 (some x)) 11 (some y)) ∧ nF b h h2) ⟨F1_0.set, (g1).tr nF.sR⟩ (fun h2 ⟨F2_0, g2⟩ => ?_)
  refine bp_vret 8 rfl rfl ⟨_, rfl, hQ _   F2_0 g2⟩
set_option maxRecDepth 100000 in
set_option maxHeartbeats 4000000 in
theorem s_Wr7_init {b x y : Nat} {R : Nat → Option Nat} (F0_0 : oF h b 13 R) (hQ : ∀ h', oF h' b 13 (bp_u1 (bp_u1 R 1 (some x)) 2 (some y)) → nF b h h' → Q none h' c s) : bp_AM l G H0 (1, 20, false, false) M_Wr_init h c s [.ref b, .ref x, .ref y] Q := by
  refine bp_of (ls := [some (.ref b), some (.ref x), some (.ref y)]) (by decide) dt_Wr_init (Nat.le_of_ble_eq_true rfl) (fun q hq => hq) false ?_
  refine bp_aload_n (q := 1) 0 rfl rfl rfl rfl ?_
  refine bp_objInit (q := 4) 1 rfl rfl wd342 wd121 wd122 (Nat.le_of_ble_eq_true rfl) ⟨Nat.le_of_ble_eq_true rfl, Nat.le_of_ble_eq_true rfl⟩ ?_
  refine bp_aload_n (q := 5) 2 rfl rfl rfl rfl ?_
  refine bp_aload_n (q := 6) 3 rfl rfl rfl rfl ?_
  refine bp_putR (q := 9) (ci := 7) (j := 1) 4 rfl rfl fl_Wr_7_7 cl7 F0_0.1 (fun r hr => by cases hr; exact Or.inr ⟨rfl, rfl, rfl, _, wd344, rfl⟩) (Or.inl ⟨_, rfl⟩) rfl ?_
  refine bp_nx (X := fun h1 => oF h1 b 13 (bp_u1 R 1 (some x)) ∧ nF b h h1) ⟨F0_0.set, (nF.rf).tr nF.sR⟩ (fun h1 ⟨F1_0, g1⟩ => ?_)
  refine bp_aload_n (q := 10) 5 rfl rfl rfl rfl ?_
  refine bp_aload_n (q := 11) 6 rfl rfl rfl rfl ?_
  refine bp_putR (q := 14) (ci := 7) (j := 2) 7 rfl rfl fl_Wr_13_7 cl7 F1_0.1 (fun r hr => by cases hr; exact Or.inr ⟨rfl, rfl, rfl, _, wd347, rfl⟩) (Or.inl ⟨_, rfl⟩) rfl ?_
  refine bp_nx (X := fun h2 => oF h2 b 13 (bp_u1 (bp_u1 R 1 (some x)) 2 (some y)) ∧ nF b h h2) ⟨F1_0.set, (g1).tr nF.sR⟩ (fun h2 ⟨F2_0, g2⟩ => ?_)
  refine bp_vret 8 rfl rfl ⟨_, rfl, hQ _   F2_0 g2⟩
set_option maxRecDepth 100000 in
set_option maxHeartbeats 4000000 in
theorem s_Wr8_init {b x y : Nat} {R : Nat → Option Nat} (F0_0 : oF h b 14 R) (hQ : ∀ h', oF h' b 14 (bp_u1 (bp_u1 R 0 (some x)) 1 (some y)) → nF b h h' → Q none h' c s) : bp_AM l G H0 (1, 20, false, false) M_Wr_init h c s [.ref b, .ref x, .ref y] Q := by
  refine bp_of (ls := [some (.ref b), some (.ref x), some (.ref y)]) (by decide) dt_Wr_init (Nat.le_of_ble_eq_true rfl) (fun q hq => hq) false ?_
  refine bp_aload_n (q := 1) 0 rfl rfl rfl rfl ?_
  refine bp_objInit (q := 4) 1 rfl rfl wd342 wd121 wd122 (Nat.le_of_ble_eq_true rfl) ⟨Nat.le_of_ble_eq_true rfl, Nat.le_of_ble_eq_true rfl⟩ ?_
  refine bp_aload_n (q := 5) 2 rfl rfl rfl rfl ?_
  refine bp_aload_n (q := 6) 3 rfl rfl rfl rfl ?_
  refine bp_putR (q := 9) (ci := 8) (j := 0) 4 rfl rfl fl_Wr_7_8 cl8 F0_0.1 (fun r hr => by cases hr; exact Or.inr ⟨rfl, rfl, rfl, _, wd344, rfl⟩) (Or.inl ⟨_, rfl⟩) rfl ?_
  refine bp_nx (X := fun h1 => oF h1 b 14 (bp_u1 R 0 (some x)) ∧ nF b h h1) ⟨F0_0.set, (nF.rf).tr nF.sR⟩ (fun h1 ⟨F1_0, g1⟩ => ?_)
  refine bp_aload_n (q := 10) 5 rfl rfl rfl rfl ?_
  refine bp_aload_n (q := 11) 6 rfl rfl rfl rfl ?_
  refine bp_putR (q := 14) (ci := 8) (j := 1) 7 rfl rfl fl_Wr_13_8 cl8 F1_0.1 (fun r hr => by cases hr; exact Or.inr ⟨rfl, rfl, rfl, _, wd347, rfl⟩) (Or.inl ⟨_, rfl⟩) rfl ?_
  refine bp_nx (X := fun h2 => oF h2 b 14 (bp_u1 (bp_u1 R 0 (some x)) 1 (some y)) ∧ nF b h h2) ⟨F1_0.set, (g1).tr nF.sR⟩ (fun h2 ⟨F2_0, g2⟩ => ?_)
  refine bp_vret 8 rfl rfl ⟨_, rfl, hQ _   F2_0 g2⟩
set_option maxRecDepth 100000 in
set_option maxHeartbeats 4000000 in
theorem s_TR_init {b x y : Nat} (F0_0 : oF h b 12 (fun _ => none)) (hQ : ∀ h', oF h' b 12 (bp_u1 (bp_u1 (fun _ => none) 10 (some x)) 11 (some y)) → nF b h h' → Q none h' c s) : bp_AM l G H0 (2, 42, false, false) M_TR_init h c s [.ref b, .ref x, .ref y] Q := by
  refine bp_of (ls := [some (.ref b), some (.ref x), some (.ref y)]) (by decide) dt_TR_init (Nat.le_of_ble_eq_true rfl) (fun q hq => hq) false ?_
  refine bp_aload_n (q := 1) 0 rfl rfl rfl rfl ?_
  refine bp_aload_n (q := 2) 1 rfl rfl rfl rfl ?_
  refine bp_aload_n (q := 3) 2 rfl rfl rfl rfl ?_
  refine bp_callI (q := 6) 3 rfl rfl cw_Rd_init lk_TR_3 rfl rfl wd170 rfl rfl (Nat.le_of_ble_eq_true rfl) ⟨Nat.le_of_ble_eq_true rfl, Nat.le_of_ble_eq_true rfl⟩ (s_Rd6_init F0_0 (fun h1 E_0 f1 => ?_))
  have F1_0 := E_0
  have g1 := (nF.rf).tr f1
  refine bp_vret 4 rfl rfl ⟨_, rfl, hQ _   F1_0 g1⟩
set_option maxRecDepth 100000 in
set_option maxHeartbeats 4000000 in
theorem s_BW_init {b x y : Nat} (F0_0 : oF h b 13 (fun _ => none)) (hQ : ∀ h' a9, bp_K h a9 = 0 → oF h' b 13 (bp_u1 (bp_u1 (bp_u1 (fun _ => none) 1 (some x)) 2 (some y)) 0 (some a9)) → aF h' a9 1 8 → [a9, b].Nodup → nF b h h' → Q none h' c s) : bp_AM l G H0 (2, 42, false, false) M_BW_init h (c + 1) (s + 8) [.ref b, .ref x, .ref y] Q := by
  refine bp_of (ls := [some (.ref b), some (.ref x), some (.ref y)]) (by decide) dt_BW_init (Nat.le_of_ble_eq_true rfl) (fun q hq => hq) false ?_
  refine bp_aload_n (q := 1) 0 rfl rfl rfl rfl ?_
  refine bp_aload_n (q := 2) 1 rfl rfl rfl rfl ?_
  refine bp_aload_n (q := 3) 2 rfl rfl rfl rfl ?_
  refine bp_callI (q := 6) 3 rfl rfl cw_Wr_init lk_BW_3 rfl rfl wd340 rfl rfl (Nat.le_of_ble_eq_true rfl) ⟨Nat.le_of_ble_eq_true rfl, Nat.le_of_ble_eq_true rfl⟩ (s_Wr7_init F0_0 (fun h1 E_0 f1 => ?_))
  have F1_0 := E_0
  have g1 := (nF.rf).tr f1
  refine bp_aload_n (q := 7) 4 rfl rfl rfl rfl ?_
  refine bp_bipush (v := 8) (q := 9) 5 rfl rfl (by decide) ?_
  refine bp_newa (c := c) (s := s) (kd := 1) (N := 8) (q := 11) 6 rfl rfl wd136 rfl (Or.inl ⟨rfl, rfl⟩) (by decide) rfl (by decide) (fun a9 n_a9 => ?_)
  have d_a9_b := F1_0.ne n_a9 (by decide)
  have z_a9 := (g1).z n_a9
  refine bp_nx (X := fun h2 => oF h2 b 13 (bp_u1 (bp_u1 (fun _ => none) 1 (some x)) 2 (some y)) ∧ aF h2 a9 1 8 ∧ nF b h h2) ⟨F1_0.new n_a9 (by decide), aF_new, (g1).tr (nF.new n_a9)⟩ (fun h2 ⟨F2_0, F2_1, g2⟩ => ?_)
  refine bp_putR (q := 14) (ci := 7) (j := 0) 7 rfl rfl fl_BW_9_7 cl7 F2_0.1 (fun r hr => by cases hr; exact Or.inr ⟨rfl, rfl, rfl, _, wd343, rfl⟩) (Or.inr ⟨_, rfl⟩) rfl ?_
  refine bp_nx (X := fun h3 => oF h3 b 13 (bp_u1 (bp_u1 (bp_u1 (fun _ => none) 1 (some x)) 2 (some y)) 0 (some a9)) ∧ aF h3 a9 1 8 ∧ nF b h h3) ⟨F2_0.set, F2_1.sR d_a9_b, (g2).tr nF.sR⟩ (fun h3 ⟨F3_0, F3_1, g3⟩ => ?_)
  refine bp_vret 8 rfl rfl ⟨_, rfl, hQ _ a9 z_a9 F3_0 F3_1 (by simp [d_a9_b]) g3⟩
set_option maxRecDepth 100000 in
set_option maxHeartbeats 4000000 in
theorem s_TW_init {b x y : Nat} (F0_0 : oF h b 14 (fun _ => none)) (hQ : ∀ h', oF h' b 14 (bp_u1 (bp_u1 (fun _ => none) 0 (some x)) 1 (some y)) → nF b h h' → Q none h' c s) : bp_AM l G H0 (2, 42, false, false) M_TW_init h c s [.ref b, .ref x, .ref y] Q := by
  refine bp_of (ls := [some (.ref b), some (.ref x), some (.ref y)]) (by decide) dt_TW_init (Nat.le_of_ble_eq_true rfl) (fun q hq => hq) false ?_
  refine bp_aload_n (q := 1) 0 rfl rfl rfl rfl ?_
  refine bp_aload_n (q := 2) 1 rfl rfl rfl rfl ?_
  refine bp_aload_n (q := 3) 2 rfl rfl rfl rfl ?_
  refine bp_callI (q := 6) 3 rfl rfl cw_Wr_init lk_TW_3 rfl rfl wd340 rfl rfl (Nat.le_of_ble_eq_true rfl) ⟨Nat.le_of_ble_eq_true rfl, Nat.le_of_ble_eq_true rfl⟩ (s_Wr8_init F0_0 (fun h1 E_0 f1 => ?_))
  have F1_0 := E_0
  have g1 := (nF.rf).tr f1
  refine bp_vret 4 rfl rfl ⟨_, rfl, hQ _   F1_0 g1⟩
end CONS
