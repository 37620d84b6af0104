/-! the whole object is made -/
def xV (h : bp_H) (x : Nat) (R : Nat → Option Nat) : Prop := bp_K h x = 6 ∧ bp_I h x 8 = -1 ∧ ∀ j, bp_R h x j = R j
theorem aIx8 (k : Nat) : aIx (8 + k) = 4 + k := by
  unfold aIx
  rw [if_neg (by omega), if_neg (by omega), if_neg (by omega)]
  omega
section XINIT
variable {l : Launch} {G : bp_G} {H0 : Heap} {h : bp_H} {c s : Nat} {Q : Option Value → bp_H → Nat → Nat → Prop}
set_option maxRecDepth 100000 in
set_option maxHeartbeats 4000000 in
theorem s_X_init {x C S : Nat} (F0_0 : oF h x 6 (fun _ => none)) (hC : C + 37604 ≤ c + 80) (hS : S + 75208 ≤ s + 160) (hQ : ∀ h' Z, Z 43 = x → XI (h', fun _ => False) Z C S h' (Z 39) (Z 16) [] [] [] [] (-1) c s → nF x h h' → Q none h' c s) : bp_AM l G H0 (4, 84, false, false) M_X_init h (c + 43) (s + 2349) [.ref x] Q := by
  refine bp_of (ls := [some (.ref x)]) (by decide) dt_X_init (Nat.le_of_ble_eq_true rfl) (fun q hq => hq) false ?_
  have KN0 : ∀ q ∈ [x], bp_K h q ≠ 0 := fun q hq => by rw [List.mem_singleton] at hq; rw [hq, F0_0.1]; decide
  have ND0 : [x].Nodup := List.nodup_cons.mpr ⟨List.not_mem_nil, List.nodup_nil⟩
  refine bp_aload_n (q := 1) 0 rfl rfl rfl rfl ?_
  refine bp_objInit (q := 4) 1 rfl rfl wd120 wd121 wd122 (Nat.le_of_ble_eq_true rfl) ⟨Nat.le_of_ble_eq_true rfl, Nat.le_of_ble_eq_true rfl⟩ ?_
  refine bp_aload_n (q := 5) 2 rfl rfl rfl rfl ?_
  refine bp_newo (c := c + 42) (s := s + 2347) (n := 2) (q := 8) 3 rfl rfl nw_X_7 cl1 (fun a5 n_a5 => ?_)
  have d_a5_x := F0_0.ne n_a5 (by decide)
  have z_a5 := ((nF.rf : nF x h h)).z n_a5
  have ND1 : (a5 :: [x]).Nodup := List.nodup_cons.mpr ⟨fun hm => KN0 a5 hm n_a5, ND0⟩
  refine bp_nx (X := fun h1 => oF h1 x 6 (fun _ => none) ∧ oF h1 a5 7 (fun _ => none) ∧ nF x h h1 ∧ nF x h h1) ⟨F0_0.new n_a5 (by decide), oF_new, (nF.rf).tr (nF.new n_a5), nF.new n_a5⟩ (fun h1 ⟨F1_0, F1_1, g1, l1⟩ => ?_)
  have k_1_0 : bp_K h1 (a5) ≠ 0 := (by rw [F1_1.1]; decide)
  have KN1 : ∀ q ∈ [a5, x], bp_K h1 q ≠ 0 := fun q hq => by
      rcases List.mem_append.mp (show q ∈ [a5] ++ [x] from hq) with z | z
      · simp only [List.mem_cons, List.not_mem_nil, or_false] at z
        rcases z with z <;> subst z <;> assumption
      · rw [l1.2 q (KN0 q z)]; exact KN0 q z
  refine bp_dup (q := 9) 4 rfl rfl rfl ?_
  refine bp_sipush (v := 400) (q := 12) 5 rfl rfl (by decide) ?_
  refine bp_callI (q := 15) 6 rfl rfl cw_Row_init lk_X_11 rfl rfl wd126 rfl rfl (Nat.le_of_ble_eq_true rfl) ⟨Nat.le_of_ble_eq_true rfl, Nat.le_of_ble_eq_true rfl⟩ (s_Row_init (c := c + 41) (s := s + 1947) (n := 400) F1_1 (by decide) (fun h2 a12 y_a12 e_a12 E_0 E_1 f2 => ?_))
  have F2_0 := F1_0.nf f2 (by decide) (d_a5_x).symm
  have F2_1 := E_0
  have F2_2 := E_1
  have d_a12_x := F1_0.ne y_a12 (by decide)
  have d_a12_a5 := F1_1.ne y_a12 (by decide)
  have z_a12 := (g1).z y_a12
  have g2 := (g1).sub f2 z_a5
  have Y2 : ∀ a ∈ [a12], bp_K h1 a = 0 := fun a ha => by rw [List.mem_singleton.mp ha]; exact y_a12
  have ND2 : ([a12] ++ [a5, x]).Nodup := nd_app (List.nodup_cons.mpr ⟨List.not_mem_nil, List.nodup_nil⟩) ND1 (fun a ha hb => KN1 a hb (Y2 a ha))
  have k_2_0 : bp_K h2 (a12) ≠ 0 := (by rw [F2_2.1]; decide)
  have KN2 : ∀ q ∈ [a12, a5, x], bp_K h2 q ≠ 0 := fun q hq => by
      rcases List.mem_append.mp (show q ∈ [a12] ++ [a5, x] from hq) with z | z
      · simp only [List.mem_cons, List.not_mem_nil, or_false] at z
        rcases z with z <;> subst z <;> assumption
      · rw [f2.2 q (KN1 q z)]; exact KN1 q z
  refine bp_putR (q := 18) (ci := 0) (j := 0) 7 rfl rfl fl_X_14_0 cl0 F2_0.1 (fun r hr => by cases hr; exact Or.inr ⟨rfl, rfl, rfl, _, wd368, rfl⟩) (Or.inl ⟨_, rfl⟩) rfl ?_
  refine bp_nx (X := fun h3 => oF h3 x 6 (bp_u1 (fun _ => none) 0 (some a5)) ∧ oF h3 a5 7 (bp_u1 (fun _ => none) 0 (some a12)) ∧ aF h3 a12 1 400 ∧ nF x h h3 ∧ nF x h2 h3) ⟨F2_0.set, F2_1.sR d_a5_x, F2_2.sR d_a12_x, (g2).tr (nF.sR), nF.sR⟩ (fun h3 ⟨F3_0, F3_1, F3_2, g3, l3⟩ => ?_)
  have KN3 : ∀ q ∈ [a12, a5, x], bp_K h3 q ≠ 0 := fun q hq => by rw [l3.2 q (KN2 q hq)]; exact KN2 q hq
  have ND3 := ND2
  refine bp_aload_n (q := 19) 8 rfl rfl rfl rfl ?_
  refine bp_newo (c := c + 40) (s := s + 1945) (n := 2) (q := 22) 9 rfl rfl nw_X_7 cl1 (fun a19 n_a19 => ?_)
  have d_a19_x := F3_0.ne n_a19 (by decide)
  have d_a19_a5 := F3_1.ne n_a19 (by decide)
  have d_a19_a12 := F3_2.ne n_a19 (by decide)
  have z_a19 := (g3).z n_a19
  have ND4 : (a19 :: [a12, a5, x]).Nodup := List.nodup_cons.mpr ⟨fun hm => KN3 a19 hm n_a19, ND3⟩
  refine bp_nx (X := fun h4 => oF h4 x 6 (bp_u1 (fun _ => none) 0 (some a5)) ∧ oF h4 a5 7 (bp_u1 (fun _ => none) 0 (some a12)) ∧ aF h4 a12 1 400 ∧ oF h4 a19 7 (fun _ => none) ∧ nF x h h4 ∧ nF x h3 h4) ⟨F3_0.new n_a19 (by decide), F3_1.new n_a19 (by decide), F3_2.new n_a19 (by decide), oF_new, (g3).tr (nF.new n_a19), nF.new n_a19⟩ (fun h4 ⟨F4_0, F4_1, F4_2, F4_3, g4, l4⟩ => ?_)
  have k_4_0 : bp_K h4 (a19) ≠ 0 := (by rw [F4_3.1]; decide)
  have KN4 : ∀ q ∈ [a19, a12, a5, x], bp_K h4 q ≠ 0 := fun q hq => by
      rcases List.mem_append.mp (show q ∈ [a19] ++ [a12, a5, x] from hq) with z | z
      · simp only [List.mem_cons, List.not_mem_nil, or_false] at z
        rcases z with z <;> subst z <;> assumption
      · rw [l4.2 q (KN3 q z)]; exact KN3 q z
  refine bp_dup (q := 23) 10 rfl rfl rfl ?_
  refine bp_bipush (v := 64) (q := 25) 11 rfl rfl (by decide) ?_
  refine bp_callI (q := 28) 12 rfl rfl cw_Row_init lk_X_11 rfl rfl wd126 rfl rfl (Nat.le_of_ble_eq_true rfl) ⟨Nat.le_of_ble_eq_true rfl, Nat.le_of_ble_eq_true rfl⟩ (s_Row_init (c := c + 39) (s := s + 1881) (n := 64) F4_3 (by decide) (fun h5 a25 y_a25 e_a25 E_0 E_1 f5 => ?_))
  have F5_0 := F4_0.nf f5 (by decide) (d_a19_x).symm
  have F5_1 := F4_1.nf f5 (by decide) (d_a19_a5).symm
  have F5_2 := F4_2.nf f5 (by decide) (d_a19_a12).symm
  have F5_3 := E_0
  have F5_4 := E_1
  have d_a25_x := F4_0.ne y_a25 (by decide)
  have d_a25_a5 := F4_1.ne y_a25 (by decide)
  have d_a25_a12 := F4_2.ne y_a25 (by decide)
  have d_a25_a19 := F4_3.ne y_a25 (by decide)
  have z_a25 := (g4).z y_a25
  have g5 := (g4).sub f5 z_a19
  have Y5 : ∀ a ∈ [a25], bp_K h4 a = 0 := fun a ha => by rw [List.mem_singleton.mp ha]; exact y_a25
  have ND5 : ([a25] ++ [a19, a12, a5, x]).Nodup := nd_app (List.nodup_cons.mpr ⟨List.not_mem_nil, List.nodup_nil⟩) ND4 (fun a ha hb => KN4 a hb (Y5 a ha))
  have k_5_0 : bp_K h5 (a25) ≠ 0 := (by rw [F5_4.1]; decide)
  have KN5 : ∀ q ∈ [a25, a19, a12, a5, x], bp_K h5 q ≠ 0 := fun q hq => by
      rcases List.mem_append.mp (show q ∈ [a25] ++ [a19, a12, a5, x] from hq) with z | z
      · simp only [List.mem_cons, List.not_mem_nil, or_false] at z
        rcases z with z <;> subst z <;> assumption
      · rw [f5.2 q (KN4 q z)]; exact KN4 q z
  refine bp_putR (q := 31) (ci := 0) (j := 1) 13 rfl rfl fl_X_18_0 cl0 F5_0.1 (fun r hr => by cases hr; exact Or.inr ⟨rfl, rfl, rfl, _, wd369, rfl⟩) (Or.inl ⟨_, rfl⟩) rfl ?_
  refine bp_nx (X := fun h6 => oF h6 x 6 (bp_u1 (bp_u1 (fun _ => none) 0 (some a5)) 1 (some a19)) ∧ oF h6 a5 7 (bp_u1 (fun _ => none) 0 (some a12)) ∧ aF h6 a12 1 400 ∧ oF h6 a19 7 (bp_u1 (fun _ => none) 0 (some a25)) ∧ aF h6 a25 1 64 ∧ nF x h h6 ∧ nF x h5 h6) ⟨F5_0.set, F5_1.sR d_a5_x, F5_2.sR d_a12_x, F5_3.sR d_a19_x, F5_4.sR d_a25_x, (g5).tr (nF.sR), nF.sR⟩ (fun h6 ⟨F6_0, F6_1, F6_2, F6_3, F6_4, g6, l6⟩ => ?_)
  have KN6 : ∀ q ∈ [a25, a19, a12, a5, x], bp_K h6 q ≠ 0 := fun q hq => by rw [l6.2 q (KN5 q hq)]; exact KN5 q hq
  have ND6 := ND5
  refine bp_aload_n (q := 32) 14 rfl rfl rfl rfl ?_
  refine bp_newo (c := c + 38) (s := s + 1875) (n := 6) (q := 35) 15 rfl rfl nw_X_21 cl2 (fun a32 n_a32 => ?_)
  have d_a32_x := F6_0.ne n_a32 (by decide)
  have d_a32_a5 := F6_1.ne n_a32 (by decide)
  have d_a32_a12 := F6_2.ne n_a32 (by decide)
  have d_a32_a19 := F6_3.ne n_a32 (by decide)
  have d_a32_a25 := F6_4.ne n_a32 (by decide)
  have z_a32 := (g6).z n_a32
  have ND7 : (a32 :: [a25, a19, a12, a5, x]).Nodup := List.nodup_cons.mpr ⟨fun hm => KN6 a32 hm n_a32, ND6⟩
  refine bp_nx (X := fun h7 => oF h7 x 6 (bp_u1 (bp_u1 (fun _ => none) 0 (some a5)) 1 (some a19)) ∧ oF h7 a5 7 (bp_u1 (fun _ => none) 0 (some a12)) ∧ aF h7 a12 1 400 ∧ oF h7 a19 7 (bp_u1 (fun _ => none) 0 (some a25)) ∧ aF h7 a25 1 64 ∧ oF h7 a32 8 (fun _ => none) ∧ nF x h h7 ∧ nF x h6 h7) ⟨F6_0.new n_a32 (by decide), F6_1.new n_a32 (by decide), F6_2.new n_a32 (by decide), F6_3.new n_a32 (by decide), F6_4.new n_a32 (by decide), oF_new, (g6).tr (nF.new n_a32), nF.new n_a32⟩ (fun h7 ⟨F7_0, F7_1, F7_2, F7_3, F7_4, F7_5, g7, l7⟩ => ?_)
  have k_7_0 : bp_K h7 (a32) ≠ 0 := (by rw [F7_5.1]; decide)
  have KN7 : ∀ q ∈ [a32, a25, a19, a12, a5, x], bp_K h7 q ≠ 0 := fun q hq => by
      rcases List.mem_append.mp (show q ∈ [a32] ++ [a25, a19, a12, a5, x] from hq) with z | z
      · simp only [List.mem_cons, List.not_mem_nil, or_false] at z
        rcases z with z <;> subst z <;> assumption
      · rw [l7.2 q (KN6 q z)]; exact KN6 q z
  refine bp_dup (q := 36) 16 rfl rfl rfl ?_
  refine bp_callI (q := 39) 17 rfl rfl cw_Page_init lk_X_23 rfl rfl wd140 rfl rfl (Nat.le_of_ble_eq_true rfl) ⟨Nat.le_of_ble_eq_true rfl, Nat.le_of_ble_eq_true rfl⟩ (s_Page_init (c := c + 31) (s := s + 1023) F7_5 (fun h8 a36_1 a36_2 a36_3 a36_4 a36_5 a36_6 a36_7 y_a36_1 y_a36_2 y_a36_3 y_a36_4 y_a36_5 y_a36_6 y_a36_7 E_0 E_1 E_2 E_3 E_4 E_5 E_6 E_7 nd8 f8 => ?_))
  have F8_0 := F7_0.nf f8 (by decide) (d_a32_x).symm
  have F8_1 := F7_1.nf f8 (by decide) (d_a32_a5).symm
  have F8_2 := F7_2.nf f8 (by decide) (d_a32_a12).symm
  have F8_3 := F7_3.nf f8 (by decide) (d_a32_a19).symm
  have F8_4 := F7_4.nf f8 (by decide) (d_a32_a25).symm
  have F8_5 := E_0
  have F8_6 := E_1
  have d_a36_1_x := F7_0.ne y_a36_1 (by decide)
  have d_a36_1_a5 := F7_1.ne y_a36_1 (by decide)
  have d_a36_1_a12 := F7_2.ne y_a36_1 (by decide)
  have d_a36_1_a19 := F7_3.ne y_a36_1 (by decide)
  have d_a36_1_a25 := F7_4.ne y_a36_1 (by decide)
  have d_a36_1_a32 := F7_5.ne y_a36_1 (by decide)
  have z_a36_1 := (g7).z y_a36_1
  have F8_7 := E_2
  have d_a36_2_x := F7_0.ne y_a36_2 (by decide)
  have d_a36_2_a5 := F7_1.ne y_a36_2 (by decide)
  have d_a36_2_a12 := F7_2.ne y_a36_2 (by decide)
  have d_a36_2_a19 := F7_3.ne y_a36_2 (by decide)
  have d_a36_2_a25 := F7_4.ne y_a36_2 (by decide)
  have d_a36_2_a32 := F7_5.ne y_a36_2 (by decide)
  have z_a36_2 := (g7).z y_a36_2
  have F8_8 := E_3
  have d_a36_3_x := F7_0.ne y_a36_3 (by decide)
  have d_a36_3_a5 := F7_1.ne y_a36_3 (by decide)
  have d_a36_3_a12 := F7_2.ne y_a36_3 (by decide)
  have d_a36_3_a19 := F7_3.ne y_a36_3 (by decide)
  have d_a36_3_a25 := F7_4.ne y_a36_3 (by decide)
  have d_a36_3_a32 := F7_5.ne y_a36_3 (by decide)
  have z_a36_3 := (g7).z y_a36_3
  have F8_9 := E_4
  have d_a36_4_x := F7_0.ne y_a36_4 (by decide)
  have d_a36_4_a5 := F7_1.ne y_a36_4 (by decide)
  have d_a36_4_a12 := F7_2.ne y_a36_4 (by decide)
  have d_a36_4_a19 := F7_3.ne y_a36_4 (by decide)
  have d_a36_4_a25 := F7_4.ne y_a36_4 (by decide)
  have d_a36_4_a32 := F7_5.ne y_a36_4 (by decide)
  have z_a36_4 := (g7).z y_a36_4
  have F8_10 := E_5
  have d_a36_5_x := F7_0.ne y_a36_5 (by decide)
  have d_a36_5_a5 := F7_1.ne y_a36_5 (by decide)
  have d_a36_5_a12 := F7_2.ne y_a36_5 (by decide)
  have d_a36_5_a19 := F7_3.ne y_a36_5 (by decide)
  have d_a36_5_a25 := F7_4.ne y_a36_5 (by decide)
  have d_a36_5_a32 := F7_5.ne y_a36_5 (by decide)
  have z_a36_5 := (g7).z y_a36_5
  have F8_11 := E_6
  have d_a36_6_x := F7_0.ne y_a36_6 (by decide)
  have d_a36_6_a5 := F7_1.ne y_a36_6 (by decide)
  have d_a36_6_a12 := F7_2.ne y_a36_6 (by decide)
  have d_a36_6_a19 := F7_3.ne y_a36_6 (by decide)
  have d_a36_6_a25 := F7_4.ne y_a36_6 (by decide)
  have d_a36_6_a32 := F7_5.ne y_a36_6 (by decide)
  have z_a36_6 := (g7).z y_a36_6
  have F8_12 := E_7
  have d_a36_7_x := F7_0.ne y_a36_7 (by decide)
  have d_a36_7_a5 := F7_1.ne y_a36_7 (by decide)
  have d_a36_7_a12 := F7_2.ne y_a36_7 (by decide)
  have d_a36_7_a19 := F7_3.ne y_a36_7 (by decide)
  have d_a36_7_a25 := F7_4.ne y_a36_7 (by decide)
  have d_a36_7_a32 := F7_5.ne y_a36_7 (by decide)
  have z_a36_7 := (g7).z y_a36_7
  have g8 := (g7).sub f8 z_a32
  have Y8 : ∀ a ∈ [a36_7, a36_6, a36_5, a36_4, a36_3, a36_2, a36_1], bp_K h7 a = 0 := fun a ha => by
    simp only [List.mem_cons, List.not_mem_nil, or_false] at ha
    rcases ha with e9 | e9 | e9 | e9 | e9 | e9 | e9
    · rw [e9]; exact y_a36_7
    · rw [e9]; exact y_a36_6
    · rw [e9]; exact y_a36_5
    · rw [e9]; exact y_a36_4
    · rw [e9]; exact y_a36_3
    · rw [e9]; exact y_a36_2
    · rw [e9]; exact y_a36_1
  have ND8 : ([a36_7, a36_6, a36_5, a36_4, a36_3, a36_2, a36_1] ++ [a32, a25, a19, a12, a5, x]).Nodup := nd_app (List.Nodup.sublist (List.sublist_append_left [a36_7, a36_6, a36_5, a36_4, a36_3, a36_2, a36_1] [a32]) nd8) ND7 (fun a ha hb => KN7 a hb (Y8 a ha))
  have k_8_0 : bp_K h8 (a36_7) ≠ 0 := (by rw [F8_12.1]; decide)
  have k_8_1 : bp_K h8 (a36_6) ≠ 0 := (by rw [F8_11.1]; decide)
  have k_8_2 : bp_K h8 (a36_5) ≠ 0 := (by rw [F8_10.1]; decide)
  have k_8_3 : bp_K h8 (a36_4) ≠ 0 := (by rw [F8_9.1]; decide)
  have k_8_4 : bp_K h8 (a36_3) ≠ 0 := (by rw [F8_8.1]; decide)
  have k_8_5 : bp_K h8 (a36_2) ≠ 0 := (by rw [F8_7.1]; decide)
  have k_8_6 : bp_K h8 (a36_1) ≠ 0 := (by rw [F8_6.1]; decide)
  have KN8 : ∀ q ∈ [a36_7, a36_6, a36_5, a36_4, a36_3, a36_2, a36_1, a32, a25, a19, a12, a5, x], bp_K h8 q ≠ 0 := fun q hq => by
      rcases List.mem_append.mp (show q ∈ [a36_7, a36_6, a36_5, a36_4, a36_3, a36_2, a36_1] ++ [a32, a25, a19, a12, a5, x] from hq) with z | z
      · simp only [List.mem_cons, List.not_mem_nil, or_false] at z
        rcases z with z | z | z | z | z | z | z <;> subst z <;> assumption
      · rw [f8.2 q (KN7 q z)]; exact KN7 q z
  refine bp_putR (q := 42) (ci := 0) (j := 2) 18 rfl rfl fl_X_24_0 cl0 F8_0.1 (fun r hr => by cases hr; exact Or.inr ⟨rfl, rfl, rfl, _, wd370, rfl⟩) (Or.inl ⟨_, rfl⟩) rfl ?_
  refine bp_nx (X := fun h9 => oF h9 x 6 (bp_u1 (bp_u1 (bp_u1 (fun _ => none) 0 (some a5)) 1 (some a19)) 2 (some a32)) ∧ oF h9 a5 7 (bp_u1 (fun _ => none) 0 (some a12)) ∧ aF h9 a12 1 400 ∧ oF h9 a19 7 (bp_u1 (fun _ => none) 0 (some a25)) ∧ aF h9 a25 1 64 ∧ oF h9 a32 8 (bp_u1 (bp_u1 (bp_u1 (bp_u1 (bp_u1 (fun _ => none) 0 (some a36_1)) 1 (some a36_2)) 2 (some a36_3)) 3 (some a36_4)) 4 (some a36_6)) ∧ aF h9 a36_1 1 16 ∧ aF h9 a36_2 1 16 ∧ aF h9 a36_3 1 16 ∧ oF h9 a36_4 7 (bp_u1 (fun _ => none) 0 (some a36_5)) ∧ aF h9 a36_5 1 400 ∧ oF h9 a36_6 7 (bp_u1 (fun _ => none) 0 (some a36_7)) ∧ aF h9 a36_7 1 400 ∧ nF x h h9 ∧ nF x h8 h9) ⟨F8_0.set, F8_1.sR d_a5_x, F8_2.sR d_a12_x, F8_3.sR d_a19_x, F8_4.sR d_a25_x, F8_5.sR d_a32_x, F8_6.sR d_a36_1_x, F8_7.sR d_a36_2_x, F8_8.sR d_a36_3_x, F8_9.sR d_a36_4_x, F8_10.sR d_a36_5_x, F8_11.sR d_a36_6_x, F8_12.sR d_a36_7_x, (g8).tr (nF.sR), nF.sR⟩ (fun h9 ⟨F9_0, F9_1, F9_2, F9_3, F9_4, F9_5, F9_6, F9_7, F9_8, F9_9, F9_10, F9_11, F9_12, g9, l9⟩ => ?_)
  have KN9 : ∀ q ∈ [a36_7, a36_6, a36_5, a36_4, a36_3, a36_2, a36_1, a32, a25, a19, a12, a5, x], bp_K h9 q ≠ 0 := fun q hq => by rw [l9.2 q (KN8 q hq)]; exact KN8 q hq
  have ND9 := ND8
  refine bp_aload_n (q := 43) 19 rfl rfl rfl rfl ?_
  refine bp_newo (c := c + 30) (s := s + 1017) (n := 6) (q := 46) 20 rfl rfl nw_X_21 cl2 (fun a43 n_a43 => ?_)
  have d_a43_x := F9_0.ne n_a43 (by decide)
  have d_a43_a5 := F9_1.ne n_a43 (by decide)
  have d_a43_a12 := F9_2.ne n_a43 (by decide)
  have d_a43_a19 := F9_3.ne n_a43 (by decide)
  have d_a43_a25 := F9_4.ne n_a43 (by decide)
  have d_a43_a32 := F9_5.ne n_a43 (by decide)
  have d_a43_a36_1 := F9_6.ne n_a43 (by decide)
  have d_a43_a36_2 := F9_7.ne n_a43 (by decide)
  have d_a43_a36_3 := F9_8.ne n_a43 (by decide)
  have d_a43_a36_4 := F9_9.ne n_a43 (by decide)
  have d_a43_a36_5 := F9_10.ne n_a43 (by decide)
  have d_a43_a36_6 := F9_11.ne n_a43 (by decide)
  have d_a43_a36_7 := F9_12.ne n_a43 (by decide)
  have z_a43 := (g9).z n_a43
  have ND10 : (a43 :: [a36_7, a36_6, a36_5, a36_4, a36_3, a36_2, a36_1, a32, a25, a19, a12, a5, x]).Nodup := List.nodup_cons.mpr ⟨fun hm => KN9 a43 hm n_a43, ND9⟩
  refine bp_nx (X := fun h10 => oF h10 x 6 (bp_u1 (bp_u1 (bp_u1 (fun _ => none) 0 (some a5)) 1 (some a19)) 2 (some a32)) ∧ oF h10 a5 7 (bp_u1 (fun _ => none) 0 (some a12)) ∧ aF h10 a12 1 400 ∧ oF h10 a19 7 (bp_u1 (fun _ => none) 0 (some a25)) ∧ aF h10 a25 1 64 ∧ oF h10 a32 8 (bp_u1 (bp_u1 (bp_u1 (bp_u1 (bp_u1 (fun _ => none) 0 (some a36_1)) 1 (some a36_2)) 2 (some a36_3)) 3 (some a36_4)) 4 (some a36_6)) ∧ aF h10 a36_1 1 16 ∧ aF h10 a36_2 1 16 ∧ aF h10 a36_3 1 16 ∧ oF h10 a36_4 7 (bp_u1 (fun _ => none) 0 (some a36_5)) ∧ aF h10 a36_5 1 400 ∧ oF h10 a36_6 7 (bp_u1 (fun _ => none) 0 (some a36_7)) ∧ aF h10 a36_7 1 400 ∧ oF h10 a43 8 (fun _ => none) ∧ nF x h h10 ∧ nF x h9 h10) ⟨F9_0.new n_a43 (by decide), F9_1.new n_a43 (by decide), F9_2.new n_a43 (by decide), F9_3.new n_a43 (by decide), F9_4.new n_a43 (by decide), F9_5.new n_a43 (by decide), F9_6.new n_a43 (by decide), F9_7.new n_a43 (by decide), F9_8.new n_a43 (by decide), F9_9.new n_a43 (by decide), F9_10.new n_a43 (by decide), F9_11.new n_a43 (by decide), F9_12.new n_a43 (by decide), oF_new, (g9).tr (nF.new n_a43), nF.new n_a43⟩ (fun h10 ⟨F10_0, F10_1, F10_2, F10_3, F10_4, F10_5, F10_6, F10_7, F10_8, F10_9, F10_10, F10_11, F10_12, F10_13, g10, l10⟩ => ?_)
  have k_10_0 : bp_K h10 (a43) ≠ 0 := (by rw [F10_13.1]; decide)
  have KN10 : ∀ q ∈ [a43, a36_7, a36_6, a36_5, a36_4, a36_3, a36_2, a36_1, a32, a25, a19, a12, a5, x], bp_K h10 q ≠ 0 := fun q hq => by
      rcases List.mem_append.mp (show q ∈ [a43] ++ [a36_7, a36_6, a36_5, a36_4, a36_3, a36_2, a36_1, a32, a25, a19, a12, a5, x] from hq) with z | z
      · simp only [List.mem_cons, List.not_mem_nil, or_false] at z
        rcases z with z <;> subst z <;> assumption
      · rw [l10.2 q (KN9 q z)]; exact KN9 q z
  refine bp_dup (q := 47) 21 rfl rfl rfl ?_
  refine bp_callI (q := 50) 22 rfl rfl cw_Page_init lk_X_23 rfl rfl wd140 rfl rfl (Nat.le_of_ble_eq_true rfl) ⟨Nat.le_of_ble_eq_true rfl, Nat.le_of_ble_eq_true rfl⟩ (s_Page_init (c := c + 23) (s := s + 165) F10_13 (fun h11 a47_1 a47_2 a47_3 a47_4 a47_5 a47_6 a47_7 y_a47_1 y_a47_2 y_a47_3 y_a47_4 y_a47_5 y_a47_6 y_a47_7 E_0 E_1 E_2 E_3 E_4 E_5 E_6 E_7 nd11 f11 => ?_))
  have F11_0 := F10_0.nf f11 (by decide) (d_a43_x).symm
  have F11_1 := F10_1.nf f11 (by decide) (d_a43_a5).symm
  have F11_2 := F10_2.nf f11 (by decide) (d_a43_a12).symm
  have F11_3 := F10_3.nf f11 (by decide) (d_a43_a19).symm
  have F11_4 := F10_4.nf f11 (by decide) (d_a43_a25).symm
  have F11_5 := F10_5.nf f11 (by decide) (d_a43_a32).symm
  have F11_6 := F10_6.nf f11 (by decide) (d_a43_a36_1).symm
  have F11_7 := F10_7.nf f11 (by decide) (d_a43_a36_2).symm
  have F11_8 := F10_8.nf f11 (by decide) (d_a43_a36_3).symm
  have F11_9 := F10_9.nf f11 (by decide) (d_a43_a36_4).symm
  have F11_10 := F10_10.nf f11 (by decide) (d_a43_a36_5).symm
  have F11_11 := F10_11.nf f11 (by decide) (d_a43_a36_6).symm
  have F11_12 := F10_12.nf f11 (by decide) (d_a43_a36_7).symm
  have F11_13 := E_0
  have F11_14 := E_1
  have d_a47_1_x := F10_0.ne y_a47_1 (by decide)
  have d_a47_1_a5 := F10_1.ne y_a47_1 (by decide)
  have d_a47_1_a12 := F10_2.ne y_a47_1 (by decide)
  have d_a47_1_a19 := F10_3.ne y_a47_1 (by decide)
  have d_a47_1_a25 := F10_4.ne y_a47_1 (by decide)
  have d_a47_1_a32 := F10_5.ne y_a47_1 (by decide)
  have d_a47_1_a36_1 := F10_6.ne y_a47_1 (by decide)
  have d_a47_1_a36_2 := F10_7.ne y_a47_1 (by decide)
  have d_a47_1_a36_3 := F10_8.ne y_a47_1 (by decide)
  have d_a47_1_a36_4 := F10_9.ne y_a47_1 (by decide)
  have d_a47_1_a36_5 := F10_10.ne y_a47_1 (by decide)
  have d_a47_1_a36_6 := F10_11.ne y_a47_1 (by decide)
  have d_a47_1_a36_7 := F10_12.ne y_a47_1 (by decide)
  have d_a47_1_a43 := F10_13.ne y_a47_1 (by decide)
  have z_a47_1 := (g10).z y_a47_1
  have F11_15 := E_2
  have d_a47_2_x := F10_0.ne y_a47_2 (by decide)
  have d_a47_2_a5 := F10_1.ne y_a47_2 (by decide)
  have d_a47_2_a12 := F10_2.ne y_a47_2 (by decide)
  have d_a47_2_a19 := F10_3.ne y_a47_2 (by decide)
  have d_a47_2_a25 := F10_4.ne y_a47_2 (by decide)
  have d_a47_2_a32 := F10_5.ne y_a47_2 (by decide)
  have d_a47_2_a36_1 := F10_6.ne y_a47_2 (by decide)
  have d_a47_2_a36_2 := F10_7.ne y_a47_2 (by decide)
  have d_a47_2_a36_3 := F10_8.ne y_a47_2 (by decide)
  have d_a47_2_a36_4 := F10_9.ne y_a47_2 (by decide)
  have d_a47_2_a36_5 := F10_10.ne y_a47_2 (by decide)
  have d_a47_2_a36_6 := F10_11.ne y_a47_2 (by decide)
  have d_a47_2_a36_7 := F10_12.ne y_a47_2 (by decide)
  have d_a47_2_a43 := F10_13.ne y_a47_2 (by decide)
  have z_a47_2 := (g10).z y_a47_2
  have F11_16 := E_3
  have d_a47_3_x := F10_0.ne y_a47_3 (by decide)
  have d_a47_3_a5 := F10_1.ne y_a47_3 (by decide)
  have d_a47_3_a12 := F10_2.ne y_a47_3 (by decide)
  have d_a47_3_a19 := F10_3.ne y_a47_3 (by decide)
  have d_a47_3_a25 := F10_4.ne y_a47_3 (by decide)
  have d_a47_3_a32 := F10_5.ne y_a47_3 (by decide)
  have d_a47_3_a36_1 := F10_6.ne y_a47_3 (by decide)
  have d_a47_3_a36_2 := F10_7.ne y_a47_3 (by decide)
  have d_a47_3_a36_3 := F10_8.ne y_a47_3 (by decide)
  have d_a47_3_a36_4 := F10_9.ne y_a47_3 (by decide)
  have d_a47_3_a36_5 := F10_10.ne y_a47_3 (by decide)
  have d_a47_3_a36_6 := F10_11.ne y_a47_3 (by decide)
  have d_a47_3_a36_7 := F10_12.ne y_a47_3 (by decide)
  have d_a47_3_a43 := F10_13.ne y_a47_3 (by decide)
  have z_a47_3 := (g10).z y_a47_3
  have F11_17 := E_4
  have d_a47_4_x := F10_0.ne y_a47_4 (by decide)
  have d_a47_4_a5 := F10_1.ne y_a47_4 (by decide)
  have d_a47_4_a12 := F10_2.ne y_a47_4 (by decide)
  have d_a47_4_a19 := F10_3.ne y_a47_4 (by decide)
  have d_a47_4_a25 := F10_4.ne y_a47_4 (by decide)
  have d_a47_4_a32 := F10_5.ne y_a47_4 (by decide)
  have d_a47_4_a36_1 := F10_6.ne y_a47_4 (by decide)
  have d_a47_4_a36_2 := F10_7.ne y_a47_4 (by decide)
  have d_a47_4_a36_3 := F10_8.ne y_a47_4 (by decide)
  have d_a47_4_a36_4 := F10_9.ne y_a47_4 (by decide)
  have d_a47_4_a36_5 := F10_10.ne y_a47_4 (by decide)
  have d_a47_4_a36_6 := F10_11.ne y_a47_4 (by decide)
  have d_a47_4_a36_7 := F10_12.ne y_a47_4 (by decide)
  have d_a47_4_a43 := F10_13.ne y_a47_4 (by decide)
  have z_a47_4 := (g10).z y_a47_4
  have F11_18 := E_5
  have d_a47_5_x := F10_0.ne y_a47_5 (by decide)
  have d_a47_5_a5 := F10_1.ne y_a47_5 (by decide)
  have d_a47_5_a12 := F10_2.ne y_a47_5 (by decide)
  have d_a47_5_a19 := F10_3.ne y_a47_5 (by decide)
  have d_a47_5_a25 := F10_4.ne y_a47_5 (by decide)
  have d_a47_5_a32 := F10_5.ne y_a47_5 (by decide)
  have d_a47_5_a36_1 := F10_6.ne y_a47_5 (by decide)
  have d_a47_5_a36_2 := F10_7.ne y_a47_5 (by decide)
  have d_a47_5_a36_3 := F10_8.ne y_a47_5 (by decide)
  have d_a47_5_a36_4 := F10_9.ne y_a47_5 (by decide)
  have d_a47_5_a36_5 := F10_10.ne y_a47_5 (by decide)
  have d_a47_5_a36_6 := F10_11.ne y_a47_5 (by decide)
  have d_a47_5_a36_7 := F10_12.ne y_a47_5 (by decide)
  have d_a47_5_a43 := F10_13.ne y_a47_5 (by decide)
  have z_a47_5 := (g10).z y_a47_5
  have F11_19 := E_6
  have d_a47_6_x := F10_0.ne y_a47_6 (by decide)
  have d_a47_6_a5 := F10_1.ne y_a47_6 (by decide)
  have d_a47_6_a12 := F10_2.ne y_a47_6 (by decide)
  have d_a47_6_a19 := F10_3.ne y_a47_6 (by decide)
  have d_a47_6_a25 := F10_4.ne y_a47_6 (by decide)
  have d_a47_6_a32 := F10_5.ne y_a47_6 (by decide)
  have d_a47_6_a36_1 := F10_6.ne y_a47_6 (by decide)
  have d_a47_6_a36_2 := F10_7.ne y_a47_6 (by decide)
  have d_a47_6_a36_3 := F10_8.ne y_a47_6 (by decide)
  have d_a47_6_a36_4 := F10_9.ne y_a47_6 (by decide)
  have d_a47_6_a36_5 := F10_10.ne y_a47_6 (by decide)
  have d_a47_6_a36_6 := F10_11.ne y_a47_6 (by decide)
  have d_a47_6_a36_7 := F10_12.ne y_a47_6 (by decide)
  have d_a47_6_a43 := F10_13.ne y_a47_6 (by decide)
  have z_a47_6 := (g10).z y_a47_6
  have F11_20 := E_7
  have d_a47_7_x := F10_0.ne y_a47_7 (by decide)
  have d_a47_7_a5 := F10_1.ne y_a47_7 (by decide)
  have d_a47_7_a12 := F10_2.ne y_a47_7 (by decide)
  have d_a47_7_a19 := F10_3.ne y_a47_7 (by decide)
  have d_a47_7_a25 := F10_4.ne y_a47_7 (by decide)
  have d_a47_7_a32 := F10_5.ne y_a47_7 (by decide)
  have d_a47_7_a36_1 := F10_6.ne y_a47_7 (by decide)
  have d_a47_7_a36_2 := F10_7.ne y_a47_7 (by decide)
  have d_a47_7_a36_3 := F10_8.ne y_a47_7 (by decide)
  have d_a47_7_a36_4 := F10_9.ne y_a47_7 (by decide)
  have d_a47_7_a36_5 := F10_10.ne y_a47_7 (by decide)
  have d_a47_7_a36_6 := F10_11.ne y_a47_7 (by decide)
  have d_a47_7_a36_7 := F10_12.ne y_a47_7 (by decide)
  have d_a47_7_a43 := F10_13.ne y_a47_7 (by decide)
  have z_a47_7 := (g10).z y_a47_7
  have g11 := (g10).sub f11 z_a43
  have Y11 : ∀ a ∈ [a47_7, a47_6, a47_5, a47_4, a47_3, a47_2, a47_1], bp_K h10 a = 0 := fun a ha => by
    simp only [List.mem_cons, List.not_mem_nil, or_false] at ha
    rcases ha with e9 | e9 | e9 | e9 | e9 | e9 | e9
    · rw [e9]; exact y_a47_7
    · rw [e9]; exact y_a47_6
    · rw [e9]; exact y_a47_5
    · rw [e9]; exact y_a47_4
    · rw [e9]; exact y_a47_3
    · rw [e9]; exact y_a47_2
    · rw [e9]; exact y_a47_1
  have ND11 : ([a47_7, a47_6, a47_5, a47_4, a47_3, a47_2, a47_1] ++ [a43, a36_7, a36_6, a36_5, a36_4, a36_3, a36_2, a36_1, a32, a25, a19, a12, a5, x]).Nodup := nd_app (List.Nodup.sublist (List.sublist_append_left [a47_7, a47_6, a47_5, a47_4, a47_3, a47_2, a47_1] [a43]) nd11) ND10 (fun a ha hb => KN10 a hb (Y11 a ha))
  have k_11_0 : bp_K h11 (a47_7) ≠ 0 := (by rw [F11_20.1]; decide)
  have k_11_1 : bp_K h11 (a47_6) ≠ 0 := (by rw [F11_19.1]; decide)
  have k_11_2 : bp_K h11 (a47_5) ≠ 0 := (by rw [F11_18.1]; decide)
  have k_11_3 : bp_K h11 (a47_4) ≠ 0 := (by rw [F11_17.1]; decide)
  have k_11_4 : bp_K h11 (a47_3) ≠ 0 := (by rw [F11_16.1]; decide)
  have k_11_5 : bp_K h11 (a47_2) ≠ 0 := (by rw [F11_15.1]; decide)
  have k_11_6 : bp_K h11 (a47_1) ≠ 0 := (by rw [F11_14.1]; decide)
  have KN11 : ∀ q ∈ [a47_7, a47_6, a47_5, a47_4, a47_3, a47_2, a47_1, a43, a36_7, a36_6, a36_5, a36_4, a36_3, a36_2, a36_1, a32, a25, a19, a12, a5, x], bp_K h11 q ≠ 0 := fun q hq => by
      rcases List.mem_append.mp (show q ∈ [a47_7, a47_6, a47_5, a47_4, a47_3, a47_2, a47_1] ++ [a43, a36_7, a36_6, a36_5, a36_4, a36_3, a36_2, a36_1, a32, a25, a19, a12, a5, x] from hq) with z | z
      · simp only [List.mem_cons, List.not_mem_nil, or_false] at z
        rcases z with z | z | z | z | z | z | z <;> subst z <;> assumption
      · rw [f11.2 q (KN10 q z)]; exact KN10 q z
  refine bp_putR (q := 53) (ci := 0) (j := 3) 23 rfl rfl fl_X_28_0 cl0 F11_0.1 (fun r hr => by cases hr; exact Or.inr ⟨rfl, rfl, rfl, _, wd371, rfl⟩) (Or.inl ⟨_, rfl⟩) rfl ?_
  refine bp_nx (X := fun h12 => oF h12 x 6 (bp_u1 (bp_u1 (bp_u1 (bp_u1 (fun _ => none) 0 (some a5)) 1 (some a19)) 2 (some a32)) 3 (some a43)) ∧ oF h12 a5 7 (bp_u1 (fun _ => none) 0 (some a12)) ∧ aF h12 a12 1 400 ∧ oF h12 a19 7 (bp_u1 (fun _ => none) 0 (some a25)) ∧ aF h12 a25 1 64 ∧ oF h12 a32 8 (bp_u1 (bp_u1 (bp_u1 (bp_u1 (bp_u1 (fun _ => none) 0 (some a36_1)) 1 (some a36_2)) 2 (some a36_3)) 3 (some a36_4)) 4 (some a36_6)) ∧ aF h12 a36_1 1 16 ∧ aF h12 a36_2 1 16 ∧ aF h12 a36_3 1 16 ∧ oF h12 a36_4 7 (bp_u1 (fun _ => none) 0 (some a36_5)) ∧ aF h12 a36_5 1 400 ∧ oF h12 a36_6 7 (bp_u1 (fun _ => none) 0 (some a36_7)) ∧ aF h12 a36_7 1 400 ∧ oF h12 a43 8 (bp_u1 (bp_u1 (bp_u1 (bp_u1 (bp_u1 (fun _ => none) 0 (some a47_1)) 1 (some a47_2)) 2 (some a47_3)) 3 (some a47_4)) 4 (some a47_6)) ∧ aF h12 a47_1 1 16 ∧ aF h12 a47_2 1 16 ∧ aF h12 a47_3 1 16 ∧ oF h12 a47_4 7 (bp_u1 (fun _ => none) 0 (some a47_5)) ∧ aF h12 a47_5 1 400 ∧ oF h12 a47_6 7 (bp_u1 (fun _ => none) 0 (some a47_7)) ∧ aF h12 a47_7 1 400 ∧ nF x h h12 ∧ nF x h11 h12) ⟨F11_0.set, F11_1.sR d_a5_x, F11_2.sR d_a12_x, F11_3.sR d_a19_x, F11_4.sR d_a25_x, F11_5.sR d_a32_x, F11_6.sR d_a36_1_x, F11_7.sR d_a36_2_x, F11_8.sR d_a36_3_x, F11_9.sR d_a36_4_x, F11_10.sR d_a36_5_x, F11_11.sR d_a36_6_x, F11_12.sR d_a36_7_x, F11_13.sR d_a43_x, F11_14.sR d_a47_1_x, F11_15.sR d_a47_2_x, F11_16.sR d_a47_3_x, F11_17.sR d_a47_4_x, F11_18.sR d_a47_5_x, F11_19.sR d_a47_6_x, F11_20.sR d_a47_7_x, (g11).tr (nF.sR), nF.sR⟩ (fun h12 ⟨F12_0, F12_1, F12_2, F12_3, F12_4, F12_5, F12_6, F12_7, F12_8, F12_9, F12_10, F12_11, F12_12, F12_13, F12_14, F12_15, F12_16, F12_17, F12_18, F12_19, F12_20, g12, l12⟩ => ?_)
  have KN12 : ∀ q ∈ [a47_7, a47_6, a47_5, a47_4, a47_3, a47_2, a47_1, a43, a36_7, a36_6, a36_5, a36_4, a36_3, a36_2, a36_1, a32, a25, a19, a12, a5, x], bp_K h12 q ≠ 0 := fun q hq => by rw [l12.2 q (KN11 q hq)]; exact KN11 q hq
  have ND12 := ND11
  refine bp_aload_n (q := 54) 24 rfl rfl rfl rfl ?_
  refine bp_newo (c := c + 22) (s := s + 148) (n := 17) (q := 57) 25 rfl rfl nw_X_31 cl3 (fun a54 n_a54 => ?_)
  have d_a54_x := F12_0.ne n_a54 (by decide)
  have d_a54_a5 := F12_1.ne n_a54 (by decide)
  have d_a54_a12 := F12_2.ne n_a54 (by decide)
  have d_a54_a19 := F12_3.ne n_a54 (by decide)
  have d_a54_a25 := F12_4.ne n_a54 (by decide)
  have d_a54_a32 := F12_5.ne n_a54 (by decide)
  have d_a54_a36_1 := F12_6.ne n_a54 (by decide)
  have d_a54_a36_2 := F12_7.ne n_a54 (by decide)
  have d_a54_a36_3 := F12_8.ne n_a54 (by decide)
  have d_a54_a36_4 := F12_9.ne n_a54 (by decide)
  have d_a54_a36_5 := F12_10.ne n_a54 (by decide)
  have d_a54_a36_6 := F12_11.ne n_a54 (by decide)
  have d_a54_a36_7 := F12_12.ne n_a54 (by decide)
  have d_a54_a43 := F12_13.ne n_a54 (by decide)
  have d_a54_a47_1 := F12_14.ne n_a54 (by decide)
  have d_a54_a47_2 := F12_15.ne n_a54 (by decide)
  have d_a54_a47_3 := F12_16.ne n_a54 (by decide)
  have d_a54_a47_4 := F12_17.ne n_a54 (by decide)
  have d_a54_a47_5 := F12_18.ne n_a54 (by decide)
  have d_a54_a47_6 := F12_19.ne n_a54 (by decide)
  have d_a54_a47_7 := F12_20.ne n_a54 (by decide)
  have z_a54 := (g12).z n_a54
  have ND13 : (a54 :: [a47_7, a47_6, a47_5, a47_4, a47_3, a47_2, a47_1, a43, a36_7, a36_6, a36_5, a36_4, a36_3, a36_2, a36_1, a32, a25, a19, a12, a5, x]).Nodup := List.nodup_cons.mpr ⟨fun hm => KN12 a54 hm n_a54, ND12⟩
  refine bp_nx (X := fun h13 => oF h13 x 6 (bp_u1 (bp_u1 (bp_u1 (bp_u1 (fun _ => none) 0 (some a5)) 1 (some a19)) 2 (some a32)) 3 (some a43)) ∧ oF h13 a5 7 (bp_u1 (fun _ => none) 0 (some a12)) ∧ aF h13 a12 1 400 ∧ oF h13 a19 7 (bp_u1 (fun _ => none) 0 (some a25)) ∧ aF h13 a25 1 64 ∧ oF h13 a32 8 (bp_u1 (bp_u1 (bp_u1 (bp_u1 (bp_u1 (fun _ => none) 0 (some a36_1)) 1 (some a36_2)) 2 (some a36_3)) 3 (some a36_4)) 4 (some a36_6)) ∧ aF h13 a36_1 1 16 ∧ aF h13 a36_2 1 16 ∧ aF h13 a36_3 1 16 ∧ oF h13 a36_4 7 (bp_u1 (fun _ => none) 0 (some a36_5)) ∧ aF h13 a36_5 1 400 ∧ oF h13 a36_6 7 (bp_u1 (fun _ => none) 0 (some a36_7)) ∧ aF h13 a36_7 1 400 ∧ oF h13 a43 8 (bp_u1 (bp_u1 (bp_u1 (bp_u1 (bp_u1 (fun _ => none) 0 (some a47_1)) 1 (some a47_2)) 2 (some a47_3)) 3 (some a47_4)) 4 (some a47_6)) ∧ aF h13 a47_1 1 16 ∧ aF h13 a47_2 1 16 ∧ aF h13 a47_3 1 16 ∧ oF h13 a47_4 7 (bp_u1 (fun _ => none) 0 (some a47_5)) ∧ aF h13 a47_5 1 400 ∧ oF h13 a47_6 7 (bp_u1 (fun _ => none) 0 (some a47_7)) ∧ aF h13 a47_7 1 400 ∧ oF h13 a54 9 (fun _ => none) ∧ nF x h h13 ∧ nF x h12 h13) ⟨F12_0.new n_a54 (by decide), F12_1.new n_a54 (by decide), F12_2.new n_a54 (by decide), F12_3.new n_a54 (by decide), F12_4.new n_a54 (by decide), F12_5.new n_a54 (by decide), F12_6.new n_a54 (by decide), F12_7.new n_a54 (by decide), F12_8.new n_a54 (by decide), F12_9.new n_a54 (by decide), F12_10.new n_a54 (by decide), F12_11.new n_a54 (by decide), F12_12.new n_a54 (by decide), F12_13.new n_a54 (by decide), F12_14.new n_a54 (by decide), F12_15.new n_a54 (by decide), F12_16.new n_a54 (by decide), F12_17.new n_a54 (by decide), F12_18.new n_a54 (by decide), F12_19.new n_a54 (by decide), F12_20.new n_a54 (by decide), oF_new, (g12).tr (nF.new n_a54), nF.new n_a54⟩ (fun h13 ⟨F13_0, F13_1, F13_2, F13_3, F13_4, F13_5, F13_6, F13_7, F13_8, F13_9, F13_10, F13_11, F13_12, F13_13, F13_14, F13_15, F13_16, F13_17, F13_18, F13_19, F13_20, F13_21, g13, l13⟩ => ?_)
  have k_13_0 : bp_K h13 (a54) ≠ 0 := (by rw [F13_21.1]; decide)
  have KN13 : ∀ q ∈ [a54, a47_7, a47_6, a47_5, a47_4, a47_3, a47_2, a47_1, a43, a36_7, a36_6, a36_5, a36_4, a36_3, a36_2, a36_1, a32, a25, a19, a12, a5, x], bp_K h13 q ≠ 0 := fun q hq => by
      rcases List.mem_append.mp (show q ∈ [a54] ++ [a47_7, a47_6, a47_5, a47_4, a47_3, a47_2, a47_1, a43, a36_7, a36_6, a36_5, a36_4, a36_3, a36_2, a36_1, a32, a25, a19, a12, a5, x] from hq) with z | z
      · simp only [List.mem_cons, List.not_mem_nil, or_false] at z
        rcases z with z <;> subst z <;> assumption
      · rw [l13.2 q (KN12 q z)]; exact KN12 q z
  refine bp_dup (q := 58) 26 rfl rfl rfl ?_
  refine bp_aload_n (q := 59) 27 rfl rfl rfl rfl ?_
  refine bp_getR (x := a5) (q := 62) (ci := 0) (j := 0) 28 rfl rfl fl_X_14_0 F13_0.1 rfl ((F13_0.2.2 0).trans rfl) ?_
  refine bp_aload_n (q := 63) 29 rfl rfl rfl rfl ?_
  refine bp_getR (x := a43) (q := 66) (ci := 0) (j := 3) 30 rfl rfl fl_X_28_0 F13_0.1 rfl ((F13_0.2.2 3).trans rfl) ?_
  refine bp_callI (q := 69) 31 rfl rfl cw_BR_init lk_X_33 rfl rfl wd167 rfl rfl (Nat.le_of_ble_eq_true rfl) ⟨Nat.le_of_ble_eq_true rfl, Nat.le_of_ble_eq_true rfl⟩ (s_BR_init (c := c + 4) (s := s + 29) F13_21 (fun h14 a66_1 a66_2 a66_3 a66_4 a66_5 a66_6 N66 y_a66_1 y_a66_2 y_a66_3 y_a66_4 y_a66_5 y_a66_6 nd14 HB => ?_))
  have E_0 := HB.1
  have E_1 := HB.2.1
  have E_2 := HB.2.2.1
  have E_3 := HB.2.2.2.1
  have E_4 := HB.2.2.2.2.1
  have E_5 := HB.2.2.2.2.2.1
  have E_6 := HB.2.2.2.2.2.2.1
  have E_7 := HB.2.2.2.2.2.2.2.1
  have y_N66 : ∀ k, k < 12 → bp_K h13 (N66 k) = 0 := fun k hk => (HB.2.2.2.2.2.2.2.2.1 k hk).1
  have f14 := HB.2.2.2.2.2.2.2.2.2.2.2
  have ndN : [N66 0, N66 1, N66 2, N66 3, N66 4, N66 5, N66 6, N66 7, N66 8, N66 9, N66 10, N66 11].Nodup := nd_map 12 HB.2.2.2.2.2.2.2.2.2.1
  have ndA : [a66_6, a66_5, a66_4, a66_3, a66_2, a66_1].Nodup := List.Nodup.sublist (List.sublist_append_left [a66_6, a66_5, a66_4, a66_3, a66_2, a66_1] [a54]) nd14
  have ndX : ∀ k, k < 12 → N66 k ∉ [a66_6, a66_5, a66_4, a66_3, a66_2, a66_1] := fun k hk hm => by
    have e0 := E_7 k hk
    simp only [List.mem_cons, List.not_mem_nil, or_false] at hm
    rcases hm with z | z | z | z | z | z
    · exact e0.ka E_6 (by decide) z
    · exact e0.ko E_5 (by decide) z
    · exact e0.ka E_4 (by decide) z
    · exact e0.ko E_3 (by decide) z
    · exact e0.kq E_2 (by decide) z
    · exact (HB.2.2.2.2.2.2.2.2.1 k hk).2 z
  have ndB : ([N66 0, N66 1, N66 2, N66 3, N66 4, N66 5, N66 6, N66 7, N66 8, N66 9, N66 10, N66 11] ++ [a66_6, a66_5, a66_4, a66_3, a66_2, a66_1]).Nodup := nd_app ndN ndA (fun a ha => by
    simp only [List.mem_cons, List.not_mem_nil, or_false] at ha
    rcases ha with e9 | e9 | e9 | e9 | e9 | e9 | e9 | e9 | e9 | e9 | e9 | e9
    · rw [e9]; exact ndX 0 (by decide)
    · rw [e9]; exact ndX 1 (by decide)
    · rw [e9]; exact ndX 2 (by decide)
    · rw [e9]; exact ndX 3 (by decide)
    · rw [e9]; exact ndX 4 (by decide)
    · rw [e9]; exact ndX 5 (by decide)
    · rw [e9]; exact ndX 6 (by decide)
    · rw [e9]; exact ndX 7 (by decide)
    · rw [e9]; exact ndX 8 (by decide)
    · rw [e9]; exact ndX 9 (by decide)
    · rw [e9]; exact ndX 10 (by decide)
    · rw [e9]; exact ndX 11 (by decide))
  have F14_0 := F13_0.nf f14 (by decide) (d_a54_x).symm
  have F14_1 := F13_1.nf f14 (by decide) (d_a54_a5).symm
  have F14_2 := F13_2.nf f14 (by decide) (d_a54_a12).symm
  have F14_3 := F13_3.nf f14 (by decide) (d_a54_a19).symm
  have F14_4 := F13_4.nf f14 (by decide) (d_a54_a25).symm
  have F14_5 := F13_5.nf f14 (by decide) (d_a54_a32).symm
  have F14_6 := F13_6.nf f14 (by decide) (d_a54_a36_1).symm
  have F14_7 := F13_7.nf f14 (by decide) (d_a54_a36_2).symm
  have F14_8 := F13_8.nf f14 (by decide) (d_a54_a36_3).symm
  have F14_9 := F13_9.nf f14 (by decide) (d_a54_a36_4).symm
  have F14_10 := F13_10.nf f14 (by decide) (d_a54_a36_5).symm
  have F14_11 := F13_11.nf f14 (by decide) (d_a54_a36_6).symm
  have F14_12 := F13_12.nf f14 (by decide) (d_a54_a36_7).symm
  have F14_13 := F13_13.nf f14 (by decide) (d_a54_a43).symm
  have F14_14 := F13_14.nf f14 (by decide) (d_a54_a47_1).symm
  have F14_15 := F13_15.nf f14 (by decide) (d_a54_a47_2).symm
  have F14_16 := F13_16.nf f14 (by decide) (d_a54_a47_3).symm
  have F14_17 := F13_17.nf f14 (by decide) (d_a54_a47_4).symm
  have F14_18 := F13_18.nf f14 (by decide) (d_a54_a47_5).symm
  have F14_19 := F13_19.nf f14 (by decide) (d_a54_a47_6).symm
  have F14_20 := F13_20.nf f14 (by decide) (d_a54_a47_7).symm
  have F14_21 := E_0
  have F14_22 := E_1
  have d_a66_1_x := F13_0.ne y_a66_1 (by decide)
  have d_a66_1_a5 := F13_1.ne y_a66_1 (by decide)
  have d_a66_1_a12 := F13_2.ne y_a66_1 (by decide)
  have d_a66_1_a19 := F13_3.ne y_a66_1 (by decide)
  have d_a66_1_a25 := F13_4.ne y_a66_1 (by decide)
  have d_a66_1_a32 := F13_5.ne y_a66_1 (by decide)
  have d_a66_1_a36_1 := F13_6.ne y_a66_1 (by decide)
  have d_a66_1_a36_2 := F13_7.ne y_a66_1 (by decide)
  have d_a66_1_a36_3 := F13_8.ne y_a66_1 (by decide)
  have d_a66_1_a36_4 := F13_9.ne y_a66_1 (by decide)
  have d_a66_1_a36_5 := F13_10.ne y_a66_1 (by decide)
  have d_a66_1_a36_6 := F13_11.ne y_a66_1 (by decide)
  have d_a66_1_a36_7 := F13_12.ne y_a66_1 (by decide)
  have d_a66_1_a43 := F13_13.ne y_a66_1 (by decide)
  have d_a66_1_a47_1 := F13_14.ne y_a66_1 (by decide)
  have d_a66_1_a47_2 := F13_15.ne y_a66_1 (by decide)
  have d_a66_1_a47_3 := F13_16.ne y_a66_1 (by decide)
  have d_a66_1_a47_4 := F13_17.ne y_a66_1 (by decide)
  have d_a66_1_a47_5 := F13_18.ne y_a66_1 (by decide)
  have d_a66_1_a47_6 := F13_19.ne y_a66_1 (by decide)
  have d_a66_1_a47_7 := F13_20.ne y_a66_1 (by decide)
  have d_a66_1_a54 := F13_21.ne y_a66_1 (by decide)
  have z_a66_1 := (g13).z y_a66_1
  have F14_23 := E_2
  have d_a66_2_x := F13_0.ne y_a66_2 (by decide)
  have d_a66_2_a5 := F13_1.ne y_a66_2 (by decide)
  have d_a66_2_a12 := F13_2.ne y_a66_2 (by decide)
  have d_a66_2_a19 := F13_3.ne y_a66_2 (by decide)
  have d_a66_2_a25 := F13_4.ne y_a66_2 (by decide)
  have d_a66_2_a32 := F13_5.ne y_a66_2 (by decide)
  have d_a66_2_a36_1 := F13_6.ne y_a66_2 (by decide)
  have d_a66_2_a36_2 := F13_7.ne y_a66_2 (by decide)
  have d_a66_2_a36_3 := F13_8.ne y_a66_2 (by decide)
  have d_a66_2_a36_4 := F13_9.ne y_a66_2 (by decide)
  have d_a66_2_a36_5 := F13_10.ne y_a66_2 (by decide)
  have d_a66_2_a36_6 := F13_11.ne y_a66_2 (by decide)
  have d_a66_2_a36_7 := F13_12.ne y_a66_2 (by decide)
  have d_a66_2_a43 := F13_13.ne y_a66_2 (by decide)
  have d_a66_2_a47_1 := F13_14.ne y_a66_2 (by decide)
  have d_a66_2_a47_2 := F13_15.ne y_a66_2 (by decide)
  have d_a66_2_a47_3 := F13_16.ne y_a66_2 (by decide)
  have d_a66_2_a47_4 := F13_17.ne y_a66_2 (by decide)
  have d_a66_2_a47_5 := F13_18.ne y_a66_2 (by decide)
  have d_a66_2_a47_6 := F13_19.ne y_a66_2 (by decide)
  have d_a66_2_a47_7 := F13_20.ne y_a66_2 (by decide)
  have d_a66_2_a54 := F13_21.ne y_a66_2 (by decide)
  have z_a66_2 := (g13).z y_a66_2
  have F14_24 := E_3
  have d_a66_3_x := F13_0.ne y_a66_3 (by decide)
  have d_a66_3_a5 := F13_1.ne y_a66_3 (by decide)
  have d_a66_3_a12 := F13_2.ne y_a66_3 (by decide)
  have d_a66_3_a19 := F13_3.ne y_a66_3 (by decide)
  have d_a66_3_a25 := F13_4.ne y_a66_3 (by decide)
  have d_a66_3_a32 := F13_5.ne y_a66_3 (by decide)
  have d_a66_3_a36_1 := F13_6.ne y_a66_3 (by decide)
  have d_a66_3_a36_2 := F13_7.ne y_a66_3 (by decide)
  have d_a66_3_a36_3 := F13_8.ne y_a66_3 (by decide)
  have d_a66_3_a36_4 := F13_9.ne y_a66_3 (by decide)
  have d_a66_3_a36_5 := F13_10.ne y_a66_3 (by decide)
  have d_a66_3_a36_6 := F13_11.ne y_a66_3 (by decide)
  have d_a66_3_a36_7 := F13_12.ne y_a66_3 (by decide)
  have d_a66_3_a43 := F13_13.ne y_a66_3 (by decide)
  have d_a66_3_a47_1 := F13_14.ne y_a66_3 (by decide)
  have d_a66_3_a47_2 := F13_15.ne y_a66_3 (by decide)
  have d_a66_3_a47_3 := F13_16.ne y_a66_3 (by decide)
  have d_a66_3_a47_4 := F13_17.ne y_a66_3 (by decide)
  have d_a66_3_a47_5 := F13_18.ne y_a66_3 (by decide)
  have d_a66_3_a47_6 := F13_19.ne y_a66_3 (by decide)
  have d_a66_3_a47_7 := F13_20.ne y_a66_3 (by decide)
  have d_a66_3_a54 := F13_21.ne y_a66_3 (by decide)
  have z_a66_3 := (g13).z y_a66_3
  have F14_25 := E_4
  have d_a66_4_x := F13_0.ne y_a66_4 (by decide)
  have d_a66_4_a5 := F13_1.ne y_a66_4 (by decide)
  have d_a66_4_a12 := F13_2.ne y_a66_4 (by decide)
  have d_a66_4_a19 := F13_3.ne y_a66_4 (by decide)
  have d_a66_4_a25 := F13_4.ne y_a66_4 (by decide)
  have d_a66_4_a32 := F13_5.ne y_a66_4 (by decide)
  have d_a66_4_a36_1 := F13_6.ne y_a66_4 (by decide)
  have d_a66_4_a36_2 := F13_7.ne y_a66_4 (by decide)
  have d_a66_4_a36_3 := F13_8.ne y_a66_4 (by decide)
  have d_a66_4_a36_4 := F13_9.ne y_a66_4 (by decide)
  have d_a66_4_a36_5 := F13_10.ne y_a66_4 (by decide)
  have d_a66_4_a36_6 := F13_11.ne y_a66_4 (by decide)
  have d_a66_4_a36_7 := F13_12.ne y_a66_4 (by decide)
  have d_a66_4_a43 := F13_13.ne y_a66_4 (by decide)
  have d_a66_4_a47_1 := F13_14.ne y_a66_4 (by decide)
  have d_a66_4_a47_2 := F13_15.ne y_a66_4 (by decide)
  have d_a66_4_a47_3 := F13_16.ne y_a66_4 (by decide)
  have d_a66_4_a47_4 := F13_17.ne y_a66_4 (by decide)
  have d_a66_4_a47_5 := F13_18.ne y_a66_4 (by decide)
  have d_a66_4_a47_6 := F13_19.ne y_a66_4 (by decide)
  have d_a66_4_a47_7 := F13_20.ne y_a66_4 (by decide)
  have d_a66_4_a54 := F13_21.ne y_a66_4 (by decide)
  have z_a66_4 := (g13).z y_a66_4
  have F14_26 := E_5
  have d_a66_5_x := F13_0.ne y_a66_5 (by decide)
  have d_a66_5_a5 := F13_1.ne y_a66_5 (by decide)
  have d_a66_5_a12 := F13_2.ne y_a66_5 (by decide)
  have d_a66_5_a19 := F13_3.ne y_a66_5 (by decide)
  have d_a66_5_a25 := F13_4.ne y_a66_5 (by decide)
  have d_a66_5_a32 := F13_5.ne y_a66_5 (by decide)
  have d_a66_5_a36_1 := F13_6.ne y_a66_5 (by decide)
  have d_a66_5_a36_2 := F13_7.ne y_a66_5 (by decide)
  have d_a66_5_a36_3 := F13_8.ne y_a66_5 (by decide)
  have d_a66_5_a36_4 := F13_9.ne y_a66_5 (by decide)
  have d_a66_5_a36_5 := F13_10.ne y_a66_5 (by decide)
  have d_a66_5_a36_6 := F13_11.ne y_a66_5 (by decide)
  have d_a66_5_a36_7 := F13_12.ne y_a66_5 (by decide)
  have d_a66_5_a43 := F13_13.ne y_a66_5 (by decide)
  have d_a66_5_a47_1 := F13_14.ne y_a66_5 (by decide)
  have d_a66_5_a47_2 := F13_15.ne y_a66_5 (by decide)
  have d_a66_5_a47_3 := F13_16.ne y_a66_5 (by decide)
  have d_a66_5_a47_4 := F13_17.ne y_a66_5 (by decide)
  have d_a66_5_a47_5 := F13_18.ne y_a66_5 (by decide)
  have d_a66_5_a47_6 := F13_19.ne y_a66_5 (by decide)
  have d_a66_5_a47_7 := F13_20.ne y_a66_5 (by decide)
  have d_a66_5_a54 := F13_21.ne y_a66_5 (by decide)
  have z_a66_5 := (g13).z y_a66_5
  have F14_27 := E_6
  have d_a66_6_x := F13_0.ne y_a66_6 (by decide)
  have d_a66_6_a5 := F13_1.ne y_a66_6 (by decide)
  have d_a66_6_a12 := F13_2.ne y_a66_6 (by decide)
  have d_a66_6_a19 := F13_3.ne y_a66_6 (by decide)
  have d_a66_6_a25 := F13_4.ne y_a66_6 (by decide)
  have d_a66_6_a32 := F13_5.ne y_a66_6 (by decide)
  have d_a66_6_a36_1 := F13_6.ne y_a66_6 (by decide)
  have d_a66_6_a36_2 := F13_7.ne y_a66_6 (by decide)
  have d_a66_6_a36_3 := F13_8.ne y_a66_6 (by decide)
  have d_a66_6_a36_4 := F13_9.ne y_a66_6 (by decide)
  have d_a66_6_a36_5 := F13_10.ne y_a66_6 (by decide)
  have d_a66_6_a36_6 := F13_11.ne y_a66_6 (by decide)
  have d_a66_6_a36_7 := F13_12.ne y_a66_6 (by decide)
  have d_a66_6_a43 := F13_13.ne y_a66_6 (by decide)
  have d_a66_6_a47_1 := F13_14.ne y_a66_6 (by decide)
  have d_a66_6_a47_2 := F13_15.ne y_a66_6 (by decide)
  have d_a66_6_a47_3 := F13_16.ne y_a66_6 (by decide)
  have d_a66_6_a47_4 := F13_17.ne y_a66_6 (by decide)
  have d_a66_6_a47_5 := F13_18.ne y_a66_6 (by decide)
  have d_a66_6_a47_6 := F13_19.ne y_a66_6 (by decide)
  have d_a66_6_a47_7 := F13_20.ne y_a66_6 (by decide)
  have d_a66_6_a54 := F13_21.ne y_a66_6 (by decide)
  have z_a66_6 := (g13).z y_a66_6
  have F14_28 := E_7
  have e_N66_x : ∀ k, k < 12 → N66 k ≠ x := fun k hk => F13_0.ne (y_N66 k hk) (by decide)
  have e_N66_a5 : ∀ k, k < 12 → N66 k ≠ a5 := fun k hk => F13_1.ne (y_N66 k hk) (by decide)
  have e_N66_a12 : ∀ k, k < 12 → N66 k ≠ a12 := fun k hk => F13_2.ne (y_N66 k hk) (by decide)
  have e_N66_a19 : ∀ k, k < 12 → N66 k ≠ a19 := fun k hk => F13_3.ne (y_N66 k hk) (by decide)
  have e_N66_a25 : ∀ k, k < 12 → N66 k ≠ a25 := fun k hk => F13_4.ne (y_N66 k hk) (by decide)
  have e_N66_a32 : ∀ k, k < 12 → N66 k ≠ a32 := fun k hk => F13_5.ne (y_N66 k hk) (by decide)
  have e_N66_a36_1 : ∀ k, k < 12 → N66 k ≠ a36_1 := fun k hk => F13_6.ne (y_N66 k hk) (by decide)
  have e_N66_a36_2 : ∀ k, k < 12 → N66 k ≠ a36_2 := fun k hk => F13_7.ne (y_N66 k hk) (by decide)
  have e_N66_a36_3 : ∀ k, k < 12 → N66 k ≠ a36_3 := fun k hk => F13_8.ne (y_N66 k hk) (by decide)
  have e_N66_a36_4 : ∀ k, k < 12 → N66 k ≠ a36_4 := fun k hk => F13_9.ne (y_N66 k hk) (by decide)
  have e_N66_a36_5 : ∀ k, k < 12 → N66 k ≠ a36_5 := fun k hk => F13_10.ne (y_N66 k hk) (by decide)
  have e_N66_a36_6 : ∀ k, k < 12 → N66 k ≠ a36_6 := fun k hk => F13_11.ne (y_N66 k hk) (by decide)
  have e_N66_a36_7 : ∀ k, k < 12 → N66 k ≠ a36_7 := fun k hk => F13_12.ne (y_N66 k hk) (by decide)
  have e_N66_a43 : ∀ k, k < 12 → N66 k ≠ a43 := fun k hk => F13_13.ne (y_N66 k hk) (by decide)
  have e_N66_a47_1 : ∀ k, k < 12 → N66 k ≠ a47_1 := fun k hk => F13_14.ne (y_N66 k hk) (by decide)
  have e_N66_a47_2 : ∀ k, k < 12 → N66 k ≠ a47_2 := fun k hk => F13_15.ne (y_N66 k hk) (by decide)
  have e_N66_a47_3 : ∀ k, k < 12 → N66 k ≠ a47_3 := fun k hk => F13_16.ne (y_N66 k hk) (by decide)
  have e_N66_a47_4 : ∀ k, k < 12 → N66 k ≠ a47_4 := fun k hk => F13_17.ne (y_N66 k hk) (by decide)
  have e_N66_a47_5 : ∀ k, k < 12 → N66 k ≠ a47_5 := fun k hk => F13_18.ne (y_N66 k hk) (by decide)
  have e_N66_a47_6 : ∀ k, k < 12 → N66 k ≠ a47_6 := fun k hk => F13_19.ne (y_N66 k hk) (by decide)
  have e_N66_a47_7 : ∀ k, k < 12 → N66 k ≠ a47_7 := fun k hk => F13_20.ne (y_N66 k hk) (by decide)
  have e_N66_a54 : ∀ k, k < 12 → N66 k ≠ a54 := fun k hk => F13_21.ne (y_N66 k hk) (by decide)
  have z_N66 : ∀ k, k < 12 → bp_K h (N66 k) = 0 := fun k hk => (g13).z (y_N66 k hk)
  have g14 := (g13).sub f14 z_a54
  have Y14 : ∀ a ∈ [N66 0, N66 1, N66 2, N66 3, N66 4, N66 5, N66 6, N66 7, N66 8, N66 9, N66 10, N66 11, a66_6, a66_5, a66_4, a66_3, a66_2, a66_1], bp_K h13 a = 0 := fun a ha => by
    simp only [List.mem_cons, List.not_mem_nil, or_false] at ha
    rcases ha with e9 | e9 | e9 | e9 | e9 | e9 | e9 | e9 | e9 | e9 | e9 | e9 | e9 | e9 | e9 | e9 | e9 | e9
    · rw [e9]; exact y_N66 0 (by decide)
    · rw [e9]; exact y_N66 1 (by decide)
    · rw [e9]; exact y_N66 2 (by decide)
    · rw [e9]; exact y_N66 3 (by decide)
    · rw [e9]; exact y_N66 4 (by decide)
    · rw [e9]; exact y_N66 5 (by decide)
    · rw [e9]; exact y_N66 6 (by decide)
    · rw [e9]; exact y_N66 7 (by decide)
    · rw [e9]; exact y_N66 8 (by decide)
    · rw [e9]; exact y_N66 9 (by decide)
    · rw [e9]; exact y_N66 10 (by decide)
    · rw [e9]; exact y_N66 11 (by decide)
    · rw [e9]; exact y_a66_6
    · rw [e9]; exact y_a66_5
    · rw [e9]; exact y_a66_4
    · rw [e9]; exact y_a66_3
    · rw [e9]; exact y_a66_2
    · rw [e9]; exact y_a66_1
  have ND14 : ([N66 0, N66 1, N66 2, N66 3, N66 4, N66 5, N66 6, N66 7, N66 8, N66 9, N66 10, N66 11, a66_6, a66_5, a66_4, a66_3, a66_2, a66_1] ++ [a54, a47_7, a47_6, a47_5, a47_4, a47_3, a47_2, a47_1, a43, a36_7, a36_6, a36_5, a36_4, a36_3, a36_2, a36_1, a32, a25, a19, a12, a5, x]).Nodup := nd_app (ndB) ND13 (fun a ha hb => KN13 a hb (Y14 a ha))
  have k_14_0 : bp_K h14 (N66 0) ≠ 0 := (by rw [(F14_28 0 (by decide)).1]; decide)
  have k_14_1 : bp_K h14 (N66 1) ≠ 0 := (by rw [(F14_28 1 (by decide)).1]; decide)
  have k_14_2 : bp_K h14 (N66 2) ≠ 0 := (by rw [(F14_28 2 (by decide)).1]; decide)
  have k_14_3 : bp_K h14 (N66 3) ≠ 0 := (by rw [(F14_28 3 (by decide)).1]; decide)
  have k_14_4 : bp_K h14 (N66 4) ≠ 0 := (by rw [(F14_28 4 (by decide)).1]; decide)
  have k_14_5 : bp_K h14 (N66 5) ≠ 0 := (by rw [(F14_28 5 (by decide)).1]; decide)
  have k_14_6 : bp_K h14 (N66 6) ≠ 0 := (by rw [(F14_28 6 (by decide)).1]; decide)
  have k_14_7 : bp_K h14 (N66 7) ≠ 0 := (by rw [(F14_28 7 (by decide)).1]; decide)
  have k_14_8 : bp_K h14 (N66 8) ≠ 0 := (by rw [(F14_28 8 (by decide)).1]; decide)
  have k_14_9 : bp_K h14 (N66 9) ≠ 0 := (by rw [(F14_28 9 (by decide)).1]; decide)
  have k_14_10 : bp_K h14 (N66 10) ≠ 0 := (by rw [(F14_28 10 (by decide)).1]; decide)
  have k_14_11 : bp_K h14 (N66 11) ≠ 0 := (by rw [(F14_28 11 (by decide)).1]; decide)
  have k_14_12 : bp_K h14 (a66_6) ≠ 0 := (by rw [F14_27.1]; decide)
  have k_14_13 : bp_K h14 (a66_5) ≠ 0 := (by rw [F14_26.1]; decide)
  have k_14_14 : bp_K h14 (a66_4) ≠ 0 := (by rw [F14_25.1]; decide)
  have k_14_15 : bp_K h14 (a66_3) ≠ 0 := (by rw [F14_24.1]; decide)
  have k_14_16 : bp_K h14 (a66_2) ≠ 0 := (by rw [F14_23.1]; decide)
  have k_14_17 : bp_K h14 (a66_1) ≠ 0 := (by rw [F14_22.1]; decide)
  have KN14 : ∀ q ∈ [N66 0, N66 1, N66 2, N66 3, N66 4, N66 5, N66 6, N66 7, N66 8, N66 9, N66 10, N66 11, a66_6, a66_5, a66_4, a66_3, a66_2, a66_1, a54, a47_7, a47_6, a47_5, a47_4, a47_3, a47_2, a47_1, a43, a36_7, a36_6, a36_5, a36_4, a36_3, a36_2, a36_1, a32, a25, a19, a12, a5, x], bp_K h14 q ≠ 0 := fun q hq => by
      rcases List.mem_append.mp (show q ∈ [N66 0, N66 1, N66 2, N66 3, N66 4, N66 5, N66 6, N66 7, N66 8, N66 9, N66 10, N66 11, a66_6, a66_5, a66_4, a66_3, a66_2, a66_1] ++ [a54, a47_7, a47_6, a47_5, a47_4, a47_3, a47_2, a47_1, a43, a36_7, a36_6, a36_5, a36_4, a36_3, a36_2, a36_1, a32, a25, a19, a12, a5, x] from hq) with z | z
      · simp only [List.mem_cons, List.not_mem_nil, or_false] at z
        rcases z with z | z | z | z | z | z | z | z | z | z | z | z | z | z | z | z | z | z <;> subst z <;> assumption
      · rw [f14.2 q (KN13 q z)]; exact KN13 q z
  refine bp_putR (q := 72) (ci := 0) (j := 4) 32 rfl rfl fl_X_36_0 cl0 F14_0.1 (fun r hr => by cases hr; exact Or.inr ⟨rfl, rfl, rfl, _, wd372, rfl⟩) (Or.inl ⟨_, rfl⟩) rfl ?_
  refine bp_nx (X := fun h15 => oF h15 x 6 (bp_u1 (bp_u1 (bp_u1 (bp_u1 (bp_u1 (fun _ => none) 0 (some a5)) 1 (some a19)) 2 (some a32)) 3 (some a43)) 4 (some a54)) ∧ oF h15 a5 7 (bp_u1 (fun _ => none) 0 (some a12)) ∧ aF h15 a12 1 400 ∧ oF h15 a19 7 (bp_u1 (fun _ => none) 0 (some a25)) ∧ aF h15 a25 1 64 ∧ oF h15 a32 8 (bp_u1 (bp_u1 (bp_u1 (bp_u1 (bp_u1 (fun _ => none) 0 (some a36_1)) 1 (some a36_2)) 2 (some a36_3)) 3 (some a36_4)) 4 (some a36_6)) ∧ aF h15 a36_1 1 16 ∧ aF h15 a36_2 1 16 ∧ aF h15 a36_3 1 16 ∧ oF h15 a36_4 7 (bp_u1 (fun _ => none) 0 (some a36_5)) ∧ aF h15 a36_5 1 400 ∧ oF h15 a36_6 7 (bp_u1 (fun _ => none) 0 (some a36_7)) ∧ aF h15 a36_7 1 400 ∧ oF h15 a43 8 (bp_u1 (bp_u1 (bp_u1 (bp_u1 (bp_u1 (fun _ => none) 0 (some a47_1)) 1 (some a47_2)) 2 (some a47_3)) 3 (some a47_4)) 4 (some a47_6)) ∧ aF h15 a47_1 1 16 ∧ aF h15 a47_2 1 16 ∧ aF h15 a47_3 1 16 ∧ oF h15 a47_4 7 (bp_u1 (fun _ => none) 0 (some a47_5)) ∧ aF h15 a47_5 1 400 ∧ oF h15 a47_6 7 (bp_u1 (fun _ => none) 0 (some a47_7)) ∧ aF h15 a47_7 1 400 ∧ oF h15 a54 9 (bp_u1 (bp_u1 (bp_u1 (bp_u1 (bp_u1 (fun _ => none) 11 (some a5)) 12 (some a43)) 0 (some a66_1)) 1 (some a66_2)) 2 (some a66_3)) ∧ oF h15 a66_1 10 (fun _ => none) ∧ qF h15 a66_2 12 N66 ∧ oF h15 a66_3 11 (bp_u1 (bp_u1 (fun _ => none) 0 (some a66_4)) 1 (some a66_5)) ∧ aF h15 a66_4 1 8 ∧ oF h15 a66_5 7 (bp_u1 (fun _ => none) 0 (some a66_6)) ∧ aF h15 a66_6 1 16 ∧ sF h15 12 N66 ∧ nF x h h15 ∧ nF x h14 h15) ⟨F14_0.set, F14_1.sR d_a5_x, F14_2.sR d_a12_x, F14_3.sR d_a19_x, F14_4.sR d_a25_x, F14_5.sR d_a32_x, F14_6.sR d_a36_1_x, F14_7.sR d_a36_2_x, F14_8.sR d_a36_3_x, F14_9.sR d_a36_4_x, F14_10.sR d_a36_5_x, F14_11.sR d_a36_6_x, F14_12.sR d_a36_7_x, F14_13.sR d_a43_x, F14_14.sR d_a47_1_x, F14_15.sR d_a47_2_x, F14_16.sR d_a47_3_x, F14_17.sR d_a47_4_x, F14_18.sR d_a47_5_x, F14_19.sR d_a47_6_x, F14_20.sR d_a47_7_x, F14_21.sR d_a54_x, F14_22.sR d_a66_1_x, F14_23.sR d_a66_2_x, F14_24.sR d_a66_3_x, F14_25.sR d_a66_4_x, F14_26.sR d_a66_5_x, F14_27.sR d_a66_6_x, F14_28.sR (fun k hk => e_N66_x k hk), (g14).tr (nF.sR), nF.sR⟩ (fun h15 ⟨F15_0, F15_1, F15_2, F15_3, F15_4, F15_5, F15_6, F15_7, F15_8, F15_9, F15_10, F15_11, F15_12, F15_13, F15_14, F15_15, F15_16, F15_17, F15_18, F15_19, F15_20, F15_21, F15_22, F15_23, F15_24, F15_25, F15_26, F15_27, F15_28, g15, l15⟩ => ?_)
  have KN15 : ∀ q ∈ [N66 0, N66 1, N66 2, N66 3, N66 4, N66 5, N66 6, N66 7, N66 8, N66 9, N66 10, N66 11, a66_6, a66_5, a66_4, a66_3, a66_2, a66_1, a54, a47_7, a47_6, a47_5, a47_4, a47_3, a47_2, a47_1, a43, a36_7, a36_6, a36_5, a36_4, a36_3, a36_2, a36_1, a32, a25, a19, a12, a5, x], bp_K h15 q ≠ 0 := fun q hq => by rw [l15.2 q (KN14 q hq)]; exact KN14 q hq
  have ND15 := ND14
  refine bp_aload_n (q := 73) 33 rfl rfl rfl rfl ?_
  refine bp_newo (c := c + 3) (s := s + 13) (n := 16) (q := 76) 34 rfl rfl nw_X_40 cl6 (fun a73 n_a73 => ?_)
  have d_a73_x := F15_0.ne n_a73 (by decide)
  have d_a73_a5 := F15_1.ne n_a73 (by decide)
  have d_a73_a12 := F15_2.ne n_a73 (by decide)
  have d_a73_a19 := F15_3.ne n_a73 (by decide)
  have d_a73_a25 := F15_4.ne n_a73 (by decide)
  have d_a73_a32 := F15_5.ne n_a73 (by decide)
  have d_a73_a36_1 := F15_6.ne n_a73 (by decide)
  have d_a73_a36_2 := F15_7.ne n_a73 (by decide)
  have d_a73_a36_3 := F15_8.ne n_a73 (by decide)
  have d_a73_a36_4 := F15_9.ne n_a73 (by decide)
  have d_a73_a36_5 := F15_10.ne n_a73 (by decide)
  have d_a73_a36_6 := F15_11.ne n_a73 (by decide)
  have d_a73_a36_7 := F15_12.ne n_a73 (by decide)
  have d_a73_a43 := F15_13.ne n_a73 (by decide)
  have d_a73_a47_1 := F15_14.ne n_a73 (by decide)
  have d_a73_a47_2 := F15_15.ne n_a73 (by decide)
  have d_a73_a47_3 := F15_16.ne n_a73 (by decide)
  have d_a73_a47_4 := F15_17.ne n_a73 (by decide)
  have d_a73_a47_5 := F15_18.ne n_a73 (by decide)
  have d_a73_a47_6 := F15_19.ne n_a73 (by decide)
  have d_a73_a47_7 := F15_20.ne n_a73 (by decide)
  have d_a73_a54 := F15_21.ne n_a73 (by decide)
  have d_a73_a66_1 := F15_22.ne n_a73 (by decide)
  have d_a73_a66_2 := F15_23.ne n_a73
  have d_a73_a66_3 := F15_24.ne n_a73 (by decide)
  have d_a73_a66_4 := F15_25.ne n_a73 (by decide)
  have d_a73_a66_5 := F15_26.ne n_a73 (by decide)
  have d_a73_a66_6 := F15_27.ne n_a73 (by decide)
  have d_a73_N66 := F15_28.ne n_a73
  have z_a73 := (g15).z n_a73
  have ND16 : (a73 :: [N66 0, N66 1, N66 2, N66 3, N66 4, N66 5, N66 6, N66 7, N66 8, N66 9, N66 10, N66 11, a66_6, a66_5, a66_4, a66_3, a66_2, a66_1, a54, a47_7, a47_6, a47_5, a47_4, a47_3, a47_2, a47_1, a43, a36_7, a36_6, a36_5, a36_4, a36_3, a36_2, a36_1, a32, a25, a19, a12, a5, x]).Nodup := List.nodup_cons.mpr ⟨fun hm => KN15 a73 hm n_a73, ND15⟩
  refine bp_nx (X := fun h16 => oF h16 x 6 (bp_u1 (bp_u1 (bp_u1 (bp_u1 (bp_u1 (fun _ => none) 0 (some a5)) 1 (some a19)) 2 (some a32)) 3 (some a43)) 4 (some a54)) ∧ oF h16 a5 7 (bp_u1 (fun _ => none) 0 (some a12)) ∧ aF h16 a12 1 400 ∧ oF h16 a19 7 (bp_u1 (fun _ => none) 0 (some a25)) ∧ aF h16 a25 1 64 ∧ oF h16 a32 8 (bp_u1 (bp_u1 (bp_u1 (bp_u1 (bp_u1 (fun _ => none) 0 (some a36_1)) 1 (some a36_2)) 2 (some a36_3)) 3 (some a36_4)) 4 (some a36_6)) ∧ aF h16 a36_1 1 16 ∧ aF h16 a36_2 1 16 ∧ aF h16 a36_3 1 16 ∧ oF h16 a36_4 7 (bp_u1 (fun _ => none) 0 (some a36_5)) ∧ aF h16 a36_5 1 400 ∧ oF h16 a36_6 7 (bp_u1 (fun _ => none) 0 (some a36_7)) ∧ aF h16 a36_7 1 400 ∧ oF h16 a43 8 (bp_u1 (bp_u1 (bp_u1 (bp_u1 (bp_u1 (fun _ => none) 0 (some a47_1)) 1 (some a47_2)) 2 (some a47_3)) 3 (some a47_4)) 4 (some a47_6)) ∧ aF h16 a47_1 1 16 ∧ aF h16 a47_2 1 16 ∧ aF h16 a47_3 1 16 ∧ oF h16 a47_4 7 (bp_u1 (fun _ => none) 0 (some a47_5)) ∧ aF h16 a47_5 1 400 ∧ oF h16 a47_6 7 (bp_u1 (fun _ => none) 0 (some a47_7)) ∧ aF h16 a47_7 1 400 ∧ oF h16 a54 9 (bp_u1 (bp_u1 (bp_u1 (bp_u1 (bp_u1 (fun _ => none) 11 (some a5)) 12 (some a43)) 0 (some a66_1)) 1 (some a66_2)) 2 (some a66_3)) ∧ oF h16 a66_1 10 (fun _ => none) ∧ qF h16 a66_2 12 N66 ∧ oF h16 a66_3 11 (bp_u1 (bp_u1 (fun _ => none) 0 (some a66_4)) 1 (some a66_5)) ∧ aF h16 a66_4 1 8 ∧ oF h16 a66_5 7 (bp_u1 (fun _ => none) 0 (some a66_6)) ∧ aF h16 a66_6 1 16 ∧ sF h16 12 N66 ∧ oF h16 a73 12 (fun _ => none) ∧ nF x h h16 ∧ nF x h15 h16) ⟨F15_0.new n_a73 (by decide), F15_1.new n_a73 (by decide), F15_2.new n_a73 (by decide), F15_3.new n_a73 (by decide), F15_4.new n_a73 (by decide), F15_5.new n_a73 (by decide), F15_6.new n_a73 (by decide), F15_7.new n_a73 (by decide), F15_8.new n_a73 (by decide), F15_9.new n_a73 (by decide), F15_10.new n_a73 (by decide), F15_11.new n_a73 (by decide), F15_12.new n_a73 (by decide), F15_13.new n_a73 (by decide), F15_14.new n_a73 (by decide), F15_15.new n_a73 (by decide), F15_16.new n_a73 (by decide), F15_17.new n_a73 (by decide), F15_18.new n_a73 (by decide), F15_19.new n_a73 (by decide), F15_20.new n_a73 (by decide), F15_21.new n_a73 (by decide), F15_22.new n_a73 (by decide), F15_23.new n_a73, F15_24.new n_a73 (by decide), F15_25.new n_a73 (by decide), F15_26.new n_a73 (by decide), F15_27.new n_a73 (by decide), F15_28.new n_a73, oF_new, (g15).tr (nF.new n_a73), nF.new n_a73⟩ (fun h16 ⟨F16_0, F16_1, F16_2, F16_3, F16_4, F16_5, F16_6, F16_7, F16_8, F16_9, F16_10, F16_11, F16_12, F16_13, F16_14, F16_15, F16_16, F16_17, F16_18, F16_19, F16_20, F16_21, F16_22, F16_23, F16_24, F16_25, F16_26, F16_27, F16_28, F16_29, g16, l16⟩ => ?_)
  have k_16_0 : bp_K h16 (a73) ≠ 0 := (by rw [F16_29.1]; decide)
  have KN16 : ∀ q ∈ [a73, N66 0, N66 1, N66 2, N66 3, N66 4, N66 5, N66 6, N66 7, N66 8, N66 9, N66 10, N66 11, a66_6, a66_5, a66_4, a66_3, a66_2, a66_1, a54, a47_7, a47_6, a47_5, a47_4, a47_3, a47_2, a47_1, a43, a36_7, a36_6, a36_5, a36_4, a36_3, a36_2, a36_1, a32, a25, a19, a12, a5, x], bp_K h16 q ≠ 0 := fun q hq => by
      rcases List.mem_append.mp (show q ∈ [a73] ++ [N66 0, N66 1, N66 2, N66 3, N66 4, N66 5, N66 6, N66 7, N66 8, N66 9, N66 10, N66 11, a66_6, a66_5, a66_4, a66_3, a66_2, a66_1, a54, a47_7, a47_6, a47_5, a47_4, a47_3, a47_2, a47_1, a43, a36_7, a36_6, a36_5, a36_4, a36_3, a36_2, a36_1, a32, a25, a19, a12, a5, x] from hq) with z | z
      · simp only [List.mem_cons, List.not_mem_nil, or_false] at z
        rcases z with z <;> subst z <;> assumption
      · rw [l16.2 q (KN15 q z)]; exact KN15 q z
  refine bp_dup (q := 77) 35 rfl rfl rfl ?_
  refine bp_aload_n (q := 78) 36 rfl rfl rfl rfl ?_
  refine bp_getR (x := a5) (q := 81) (ci := 0) (j := 0) 37 rfl rfl fl_X_14_0 F16_0.1 rfl ((F16_0.2.2 0).trans rfl) ?_
  refine bp_aload_n (q := 82) 38 rfl rfl rfl rfl ?_
  refine bp_getR (x := a43) (q := 85) (ci := 0) (j := 3) 39 rfl rfl fl_X_28_0 F16_0.1 rfl ((F16_0.2.2 3).trans rfl) ?_
  refine bp_callI (q := 88) 40 rfl rfl cw_TR_init lk_X_42 rfl rfl wd294 rfl rfl (Nat.le_of_ble_eq_true rfl) ⟨Nat.le_of_ble_eq_true rfl, Nat.le_of_ble_eq_true rfl⟩ (s_TR_init F16_29 (fun h17 E_0 f17 => ?_))
  have F17_0 := F16_0.nf f17 (by decide) (d_a73_x).symm
  have F17_1 := F16_1.nf f17 (by decide) (d_a73_a5).symm
  have F17_2 := F16_2.nf f17 (by decide) (d_a73_a12).symm
  have F17_3 := F16_3.nf f17 (by decide) (d_a73_a19).symm
  have F17_4 := F16_4.nf f17 (by decide) (d_a73_a25).symm
  have F17_5 := F16_5.nf f17 (by decide) (d_a73_a32).symm
  have F17_6 := F16_6.nf f17 (by decide) (d_a73_a36_1).symm
  have F17_7 := F16_7.nf f17 (by decide) (d_a73_a36_2).symm
  have F17_8 := F16_8.nf f17 (by decide) (d_a73_a36_3).symm
  have F17_9 := F16_9.nf f17 (by decide) (d_a73_a36_4).symm
  have F17_10 := F16_10.nf f17 (by decide) (d_a73_a36_5).symm
  have F17_11 := F16_11.nf f17 (by decide) (d_a73_a36_6).symm
  have F17_12 := F16_12.nf f17 (by decide) (d_a73_a36_7).symm
  have F17_13 := F16_13.nf f17 (by decide) (d_a73_a43).symm
  have F17_14 := F16_14.nf f17 (by decide) (d_a73_a47_1).symm
  have F17_15 := F16_15.nf f17 (by decide) (d_a73_a47_2).symm
  have F17_16 := F16_16.nf f17 (by decide) (d_a73_a47_3).symm
  have F17_17 := F16_17.nf f17 (by decide) (d_a73_a47_4).symm
  have F17_18 := F16_18.nf f17 (by decide) (d_a73_a47_5).symm
  have F17_19 := F16_19.nf f17 (by decide) (d_a73_a47_6).symm
  have F17_20 := F16_20.nf f17 (by decide) (d_a73_a47_7).symm
  have F17_21 := F16_21.nf f17 (by decide) (d_a73_a54).symm
  have F17_22 := F16_22.nf f17 (by decide) (d_a73_a66_1).symm
  have F17_23 := F16_23.nf f17 (d_a73_a66_2).symm
  have F17_24 := F16_24.nf f17 (by decide) (d_a73_a66_3).symm
  have F17_25 := F16_25.nf f17 (by decide) (d_a73_a66_4).symm
  have F17_26 := F16_26.nf f17 (by decide) (d_a73_a66_5).symm
  have F17_27 := F16_27.nf f17 (by decide) (d_a73_a66_6).symm
  have F17_28 := F16_28.nf f17 (fun k hk => (d_a73_N66 k hk).symm)
  have F17_29 := E_0
  have g17 := (g16).sub f17 z_a73
  have KN17 : ∀ q ∈ [a73, N66 0, N66 1, N66 2, N66 3, N66 4, N66 5, N66 6, N66 7, N66 8, N66 9, N66 10, N66 11, a66_6, a66_5, a66_4, a66_3, a66_2, a66_1, a54, a47_7, a47_6, a47_5, a47_4, a47_3, a47_2, a47_1, a43, a36_7, a36_6, a36_5, a36_4, a36_3, a36_2, a36_1, a32, a25, a19, a12, a5, x], bp_K h17 q ≠ 0 := fun q hq => by rw [f17.2 q (KN16 q hq)]; exact KN16 q hq
  have ND17 := ND16
  refine bp_putR (q := 91) (ci := 0) (j := 5) 41 rfl rfl fl_X_43_0 cl0 F17_0.1 (fun r hr => by cases hr; exact Or.inr ⟨rfl, rfl, rfl, _, wd373, rfl⟩) (Or.inl ⟨_, rfl⟩) rfl ?_
  refine bp_nx (X := fun h18 => oF h18 x 6 (bp_u1 (bp_u1 (bp_u1 (bp_u1 (bp_u1 (bp_u1 (fun _ => none) 0 (some a5)) 1 (some a19)) 2 (some a32)) 3 (some a43)) 4 (some a54)) 5 (some a73)) ∧ oF h18 a5 7 (bp_u1 (fun _ => none) 0 (some a12)) ∧ aF h18 a12 1 400 ∧ oF h18 a19 7 (bp_u1 (fun _ => none) 0 (some a25)) ∧ aF h18 a25 1 64 ∧ oF h18 a32 8 (bp_u1 (bp_u1 (bp_u1 (bp_u1 (bp_u1 (fun _ => none) 0 (some a36_1)) 1 (some a36_2)) 2 (some a36_3)) 3 (some a36_4)) 4 (some a36_6)) ∧ aF h18 a36_1 1 16 ∧ aF h18 a36_2 1 16 ∧ aF h18 a36_3 1 16 ∧ oF h18 a36_4 7 (bp_u1 (fun _ => none) 0 (some a36_5)) ∧ aF h18 a36_5 1 400 ∧ oF h18 a36_6 7 (bp_u1 (fun _ => none) 0 (some a36_7)) ∧ aF h18 a36_7 1 400 ∧ oF h18 a43 8 (bp_u1 (bp_u1 (bp_u1 (bp_u1 (bp_u1 (fun _ => none) 0 (some a47_1)) 1 (some a47_2)) 2 (some a47_3)) 3 (some a47_4)) 4 (some a47_6)) ∧ aF h18 a47_1 1 16 ∧ aF h18 a47_2 1 16 ∧ aF h18 a47_3 1 16 ∧ oF h18 a47_4 7 (bp_u1 (fun _ => none) 0 (some a47_5)) ∧ aF h18 a47_5 1 400 ∧ oF h18 a47_6 7 (bp_u1 (fun _ => none) 0 (some a47_7)) ∧ aF h18 a47_7 1 400 ∧ oF h18 a54 9 (bp_u1 (bp_u1 (bp_u1 (bp_u1 (bp_u1 (fun _ => none) 11 (some a5)) 12 (some a43)) 0 (some a66_1)) 1 (some a66_2)) 2 (some a66_3)) ∧ oF h18 a66_1 10 (fun _ => none) ∧ qF h18 a66_2 12 N66 ∧ oF h18 a66_3 11 (bp_u1 (bp_u1 (fun _ => none) 0 (some a66_4)) 1 (some a66_5)) ∧ aF h18 a66_4 1 8 ∧ oF h18 a66_5 7 (bp_u1 (fun _ => none) 0 (some a66_6)) ∧ aF h18 a66_6 1 16 ∧ sF h18 12 N66 ∧ oF h18 a73 12 (bp_u1 (bp_u1 (fun _ => none) 10 (some a5)) 11 (some a43)) ∧ nF x h h18 ∧ nF x h17 h18) ⟨F17_0.set, F17_1.sR d_a5_x, F17_2.sR d_a12_x, F17_3.sR d_a19_x, F17_4.sR d_a25_x, F17_5.sR d_a32_x, F17_6.sR d_a36_1_x, F17_7.sR d_a36_2_x, F17_8.sR d_a36_3_x, F17_9.sR d_a36_4_x, F17_10.sR d_a36_5_x, F17_11.sR d_a36_6_x, F17_12.sR d_a36_7_x, F17_13.sR d_a43_x, F17_14.sR d_a47_1_x, F17_15.sR d_a47_2_x, F17_16.sR d_a47_3_x, F17_17.sR d_a47_4_x, F17_18.sR d_a47_5_x, F17_19.sR d_a47_6_x, F17_20.sR d_a47_7_x, F17_21.sR d_a54_x, F17_22.sR d_a66_1_x, F17_23.sR d_a66_2_x, F17_24.sR d_a66_3_x, F17_25.sR d_a66_4_x, F17_26.sR d_a66_5_x, F17_27.sR d_a66_6_x, F17_28.sR (fun k hk => e_N66_x k hk), F17_29.sR d_a73_x, (g17).tr (nF.sR), nF.sR⟩ (fun h18 ⟨F18_0, F18_1, F18_2, F18_3, F18_4, F18_5, F18_6, F18_7, F18_8, F18_9, F18_10, F18_11, F18_12, F18_13, F18_14, F18_15, F18_16, F18_17, F18_18, F18_19, F18_20, F18_21, F18_22, F18_23, F18_24, F18_25, F18_26, F18_27, F18_28, F18_29, g18, l18⟩ => ?_)
  have KN18 : ∀ q ∈ [a73, N66 0, N66 1, N66 2, N66 3, N66 4, N66 5, N66 6, N66 7, N66 8, N66 9, N66 10, N66 11, a66_6, a66_5, a66_4, a66_3, a66_2, a66_1, a54, a47_7, a47_6, a47_5, a47_4, a47_3, a47_2, a47_1, a43, a36_7, a36_6, a36_5, a36_4, a36_3, a36_2, a36_1, a32, a25, a19, a12, a5, x], bp_K h18 q ≠ 0 := fun q hq => by rw [l18.2 q (KN17 q hq)]; exact KN17 q hq
  have ND18 := ND17
  refine bp_aload_n (q := 92) 42 rfl rfl rfl rfl ?_
  refine bp_newo (c := c + 2) (s := s + 10) (n := 3) (q := 95) 43 rfl rfl nw_X_46 cl7 (fun a92 n_a92 => ?_)
  have d_a92_x := F18_0.ne n_a92 (by decide)
  have d_a92_a5 := F18_1.ne n_a92 (by decide)
  have d_a92_a12 := F18_2.ne n_a92 (by decide)
  have d_a92_a19 := F18_3.ne n_a92 (by decide)
  have d_a92_a25 := F18_4.ne n_a92 (by decide)
  have d_a92_a32 := F18_5.ne n_a92 (by decide)
  have d_a92_a36_1 := F18_6.ne n_a92 (by decide)
  have d_a92_a36_2 := F18_7.ne n_a92 (by decide)
  have d_a92_a36_3 := F18_8.ne n_a92 (by decide)
  have d_a92_a36_4 := F18_9.ne n_a92 (by decide)
  have d_a92_a36_5 := F18_10.ne n_a92 (by decide)
  have d_a92_a36_6 := F18_11.ne n_a92 (by decide)
  have d_a92_a36_7 := F18_12.ne n_a92 (by decide)
  have d_a92_a43 := F18_13.ne n_a92 (by decide)
  have d_a92_a47_1 := F18_14.ne n_a92 (by decide)
  have d_a92_a47_2 := F18_15.ne n_a92 (by decide)
  have d_a92_a47_3 := F18_16.ne n_a92 (by decide)
  have d_a92_a47_4 := F18_17.ne n_a92 (by decide)
  have d_a92_a47_5 := F18_18.ne n_a92 (by decide)
  have d_a92_a47_6 := F18_19.ne n_a92 (by decide)
  have d_a92_a47_7 := F18_20.ne n_a92 (by decide)
  have d_a92_a54 := F18_21.ne n_a92 (by decide)
  have d_a92_a66_1 := F18_22.ne n_a92 (by decide)
  have d_a92_a66_2 := F18_23.ne n_a92
  have d_a92_a66_3 := F18_24.ne n_a92 (by decide)
  have d_a92_a66_4 := F18_25.ne n_a92 (by decide)
  have d_a92_a66_5 := F18_26.ne n_a92 (by decide)
  have d_a92_a66_6 := F18_27.ne n_a92 (by decide)
  have d_a92_N66 := F18_28.ne n_a92
  have d_a92_a73 := F18_29.ne n_a92 (by decide)
  have z_a92 := (g18).z n_a92
  have ND19 : (a92 :: [a73, N66 0, N66 1, N66 2, N66 3, N66 4, N66 5, N66 6, N66 7, N66 8, N66 9, N66 10, N66 11, a66_6, a66_5, a66_4, a66_3, a66_2, a66_1, a54, a47_7, a47_6, a47_5, a47_4, a47_3, a47_2, a47_1, a43, a36_7, a36_6, a36_5, a36_4, a36_3, a36_2, a36_1, a32, a25, a19, a12, a5, x]).Nodup := List.nodup_cons.mpr ⟨fun hm => KN18 a92 hm n_a92, ND18⟩
  refine bp_nx (X := fun h19 => oF h19 x 6 (bp_u1 (bp_u1 (bp_u1 (bp_u1 (bp_u1 (bp_u1 (fun _ => none) 0 (some a5)) 1 (some a19)) 2 (some a32)) 3 (some a43)) 4 (some a54)) 5 (some a73)) ∧ oF h19 a5 7 (bp_u1 (fun _ => none) 0 (some a12)) ∧ aF h19 a12 1 400 ∧ oF h19 a19 7 (bp_u1 (fun _ => none) 0 (some a25)) ∧ aF h19 a25 1 64 ∧ oF h19 a32 8 (bp_u1 (bp_u1 (bp_u1 (bp_u1 (bp_u1 (fun _ => none) 0 (some a36_1)) 1 (some a36_2)) 2 (some a36_3)) 3 (some a36_4)) 4 (some a36_6)) ∧ aF h19 a36_1 1 16 ∧ aF h19 a36_2 1 16 ∧ aF h19 a36_3 1 16 ∧ oF h19 a36_4 7 (bp_u1 (fun _ => none) 0 (some a36_5)) ∧ aF h19 a36_5 1 400 ∧ oF h19 a36_6 7 (bp_u1 (fun _ => none) 0 (some a36_7)) ∧ aF h19 a36_7 1 400 ∧ oF h19 a43 8 (bp_u1 (bp_u1 (bp_u1 (bp_u1 (bp_u1 (fun _ => none) 0 (some a47_1)) 1 (some a47_2)) 2 (some a47_3)) 3 (some a47_4)) 4 (some a47_6)) ∧ aF h19 a47_1 1 16 ∧ aF h19 a47_2 1 16 ∧ aF h19 a47_3 1 16 ∧ oF h19 a47_4 7 (bp_u1 (fun _ => none) 0 (some a47_5)) ∧ aF h19 a47_5 1 400 ∧ oF h19 a47_6 7 (bp_u1 (fun _ => none) 0 (some a47_7)) ∧ aF h19 a47_7 1 400 ∧ oF h19 a54 9 (bp_u1 (bp_u1 (bp_u1 (bp_u1 (bp_u1 (fun _ => none) 11 (some a5)) 12 (some a43)) 0 (some a66_1)) 1 (some a66_2)) 2 (some a66_3)) ∧ oF h19 a66_1 10 (fun _ => none) ∧ qF h19 a66_2 12 N66 ∧ oF h19 a66_3 11 (bp_u1 (bp_u1 (fun _ => none) 0 (some a66_4)) 1 (some a66_5)) ∧ aF h19 a66_4 1 8 ∧ oF h19 a66_5 7 (bp_u1 (fun _ => none) 0 (some a66_6)) ∧ aF h19 a66_6 1 16 ∧ sF h19 12 N66 ∧ oF h19 a73 12 (bp_u1 (bp_u1 (fun _ => none) 10 (some a5)) 11 (some a43)) ∧ oF h19 a92 13 (fun _ => none) ∧ nF x h h19 ∧ nF x h18 h19) ⟨F18_0.new n_a92 (by decide), F18_1.new n_a92 (by decide), F18_2.new n_a92 (by decide), F18_3.new n_a92 (by decide), F18_4.new n_a92 (by decide), F18_5.new n_a92 (by decide), F18_6.new n_a92 (by decide), F18_7.new n_a92 (by decide), F18_8.new n_a92 (by decide), F18_9.new n_a92 (by decide), F18_10.new n_a92 (by decide), F18_11.new n_a92 (by decide), F18_12.new n_a92 (by decide), F18_13.new n_a92 (by decide), F18_14.new n_a92 (by decide), F18_15.new n_a92 (by decide), F18_16.new n_a92 (by decide), F18_17.new n_a92 (by decide), F18_18.new n_a92 (by decide), F18_19.new n_a92 (by decide), F18_20.new n_a92 (by decide), F18_21.new n_a92 (by decide), F18_22.new n_a92 (by decide), F18_23.new n_a92, F18_24.new n_a92 (by decide), F18_25.new n_a92 (by decide), F18_26.new n_a92 (by decide), F18_27.new n_a92 (by decide), F18_28.new n_a92, F18_29.new n_a92 (by decide), oF_new, (g18).tr (nF.new n_a92), nF.new n_a92⟩ (fun h19 ⟨F19_0, F19_1, F19_2, F19_3, F19_4, F19_5, F19_6, F19_7, F19_8, F19_9, F19_10, F19_11, F19_12, F19_13, F19_14, F19_15, F19_16, F19_17, F19_18, F19_19, F19_20, F19_21, F19_22, F19_23, F19_24, F19_25, F19_26, F19_27, F19_28, F19_29, F19_30, g19, l19⟩ => ?_)
  have k_19_0 : bp_K h19 (a92) ≠ 0 := (by rw [F19_30.1]; decide)
  have KN19 : ∀ q ∈ [a92, a73, N66 0, N66 1, N66 2, N66 3, N66 4, N66 5, N66 6, N66 7, N66 8, N66 9, N66 10, N66 11, a66_6, a66_5, a66_4, a66_3, a66_2, a66_1, a54, a47_7, a47_6, a47_5, a47_4, a47_3, a47_2, a47_1, a43, a36_7, a36_6, a36_5, a36_4, a36_3, a36_2, a36_1, a32, a25, a19, a12, a5, x], bp_K h19 q ≠ 0 := fun q hq => by
      rcases List.mem_append.mp (show q ∈ [a92] ++ [a73, N66 0, N66 1, N66 2, N66 3, N66 4, N66 5, N66 6, N66 7, N66 8, N66 9, N66 10, N66 11, a66_6, a66_5, a66_4, a66_3, a66_2, a66_1, a54, a47_7, a47_6, a47_5, a47_4, a47_3, a47_2, a47_1, a43, a36_7, a36_6, a36_5, a36_4, a36_3, a36_2, a36_1, a32, a25, a19, a12, a5, x] from hq) with z | z
      · simp only [List.mem_cons, List.not_mem_nil, or_false] at z
        rcases z with z <;> subst z <;> assumption
      · rw [l19.2 q (KN18 q z)]; exact KN18 q z
  refine bp_dup (q := 96) 44 rfl rfl rfl ?_
  refine bp_aload_n (q := 97) 45 rfl rfl rfl rfl ?_
  refine bp_getR (x := a32) (q := 100) (ci := 0) (j := 2) 46 rfl rfl fl_X_24_0 F19_0.1 rfl ((F19_0.2.2 2).trans rfl) ?_
  refine bp_aload_n (q := 101) 47 rfl rfl rfl rfl ?_
  refine bp_getR (x := a19) (q := 104) (ci := 0) (j := 1) 48 rfl rfl fl_X_18_0 F19_0.1 rfl ((F19_0.2.2 1).trans rfl) ?_
  refine bp_callI (q := 107) 49 rfl rfl cw_BW_init lk_X_48 rfl rfl wd337 rfl rfl (Nat.le_of_ble_eq_true rfl) ⟨Nat.le_of_ble_eq_true rfl, Nat.le_of_ble_eq_true rfl⟩ (s_BW_init (c := c + 1) (s := s + 2) F19_30 (fun h20 a104_1 y_a104_1 E_0 E_1 nd20 f20 => ?_))
  have F20_0 := F19_0.nf f20 (by decide) (d_a92_x).symm
  have F20_1 := F19_1.nf f20 (by decide) (d_a92_a5).symm
  have F20_2 := F19_2.nf f20 (by decide) (d_a92_a12).symm
  have F20_3 := F19_3.nf f20 (by decide) (d_a92_a19).symm
  have F20_4 := F19_4.nf f20 (by decide) (d_a92_a25).symm
  have F20_5 := F19_5.nf f20 (by decide) (d_a92_a32).symm
  have F20_6 := F19_6.nf f20 (by decide) (d_a92_a36_1).symm
  have F20_7 := F19_7.nf f20 (by decide) (d_a92_a36_2).symm
  have F20_8 := F19_8.nf f20 (by decide) (d_a92_a36_3).symm
  have F20_9 := F19_9.nf f20 (by decide) (d_a92_a36_4).symm
  have F20_10 := F19_10.nf f20 (by decide) (d_a92_a36_5).symm
  have F20_11 := F19_11.nf f20 (by decide) (d_a92_a36_6).symm
  have F20_12 := F19_12.nf f20 (by decide) (d_a92_a36_7).symm
  have F20_13 := F19_13.nf f20 (by decide) (d_a92_a43).symm
  have F20_14 := F19_14.nf f20 (by decide) (d_a92_a47_1).symm
  have F20_15 := F19_15.nf f20 (by decide) (d_a92_a47_2).symm
  have F20_16 := F19_16.nf f20 (by decide) (d_a92_a47_3).symm
  have F20_17 := F19_17.nf f20 (by decide) (d_a92_a47_4).symm
  have F20_18 := F19_18.nf f20 (by decide) (d_a92_a47_5).symm
  have F20_19 := F19_19.nf f20 (by decide) (d_a92_a47_6).symm
  have F20_20 := F19_20.nf f20 (by decide) (d_a92_a47_7).symm
  have F20_21 := F19_21.nf f20 (by decide) (d_a92_a54).symm
  have F20_22 := F19_22.nf f20 (by decide) (d_a92_a66_1).symm
  have F20_23 := F19_23.nf f20 (d_a92_a66_2).symm
  have F20_24 := F19_24.nf f20 (by decide) (d_a92_a66_3).symm
  have F20_25 := F19_25.nf f20 (by decide) (d_a92_a66_4).symm
  have F20_26 := F19_26.nf f20 (by decide) (d_a92_a66_5).symm
  have F20_27 := F19_27.nf f20 (by decide) (d_a92_a66_6).symm
  have F20_28 := F19_28.nf f20 (fun k hk => (d_a92_N66 k hk).symm)
  have F20_29 := F19_29.nf f20 (by decide) (d_a92_a73).symm
  have F20_30 := E_0
  have F20_31 := E_1
  have d_a104_1_x := F19_0.ne y_a104_1 (by decide)
  have d_a104_1_a5 := F19_1.ne y_a104_1 (by decide)
  have d_a104_1_a12 := F19_2.ne y_a104_1 (by decide)
  have d_a104_1_a19 := F19_3.ne y_a104_1 (by decide)
  have d_a104_1_a25 := F19_4.ne y_a104_1 (by decide)
  have d_a104_1_a32 := F19_5.ne y_a104_1 (by decide)
  have d_a104_1_a36_1 := F19_6.ne y_a104_1 (by decide)
  have d_a104_1_a36_2 := F19_7.ne y_a104_1 (by decide)
  have d_a104_1_a36_3 := F19_8.ne y_a104_1 (by decide)
  have d_a104_1_a36_4 := F19_9.ne y_a104_1 (by decide)
  have d_a104_1_a36_5 := F19_10.ne y_a104_1 (by decide)
  have d_a104_1_a36_6 := F19_11.ne y_a104_1 (by decide)
  have d_a104_1_a36_7 := F19_12.ne y_a104_1 (by decide)
  have d_a104_1_a43 := F19_13.ne y_a104_1 (by decide)
  have d_a104_1_a47_1 := F19_14.ne y_a104_1 (by decide)
  have d_a104_1_a47_2 := F19_15.ne y_a104_1 (by decide)
  have d_a104_1_a47_3 := F19_16.ne y_a104_1 (by decide)
  have d_a104_1_a47_4 := F19_17.ne y_a104_1 (by decide)
  have d_a104_1_a47_5 := F19_18.ne y_a104_1 (by decide)
  have d_a104_1_a47_6 := F19_19.ne y_a104_1 (by decide)
  have d_a104_1_a47_7 := F19_20.ne y_a104_1 (by decide)
  have d_a104_1_a54 := F19_21.ne y_a104_1 (by decide)
  have d_a104_1_a66_1 := F19_22.ne y_a104_1 (by decide)
  have d_a104_1_a66_2 := F19_23.ne y_a104_1
  have d_a104_1_a66_3 := F19_24.ne y_a104_1 (by decide)
  have d_a104_1_a66_4 := F19_25.ne y_a104_1 (by decide)
  have d_a104_1_a66_5 := F19_26.ne y_a104_1 (by decide)
  have d_a104_1_a66_6 := F19_27.ne y_a104_1 (by decide)
  have d_a104_1_N66 := F19_28.ne y_a104_1
  have d_a104_1_a73 := F19_29.ne y_a104_1 (by decide)
  have d_a104_1_a92 := F19_30.ne y_a104_1 (by decide)
  have z_a104_1 := (g19).z y_a104_1
  have g20 := (g19).sub f20 z_a92
  have Y20 : ∀ a ∈ [a104_1], bp_K h19 a = 0 := fun a ha => by rw [List.mem_singleton.mp ha]; exact y_a104_1
  have ND20 : ([a104_1] ++ [a92, a73, N66 0, N66 1, N66 2, N66 3, N66 4, N66 5, N66 6, N66 7, N66 8, N66 9, N66 10, N66 11, a66_6, a66_5, a66_4, a66_3, a66_2, a66_1, a54, a47_7, a47_6, a47_5, a47_4, a47_3, a47_2, a47_1, a43, a36_7, a36_6, a36_5, a36_4, a36_3, a36_2, a36_1, a32, a25, a19, a12, a5, x]).Nodup := nd_app (List.nodup_cons.mpr ⟨List.not_mem_nil, List.nodup_nil⟩) ND19 (fun a ha hb => KN19 a hb (Y20 a ha))
  have k_20_0 : bp_K h20 (a104_1) ≠ 0 := (by rw [F20_31.1]; decide)
  have KN20 : ∀ q ∈ [a104_1, a92, a73, N66 0, N66 1, N66 2, N66 3, N66 4, N66 5, N66 6, N66 7, N66 8, N66 9, N66 10, N66 11, a66_6, a66_5, a66_4, a66_3, a66_2, a66_1, a54, a47_7, a47_6, a47_5, a47_4, a47_3, a47_2, a47_1, a43, a36_7, a36_6, a36_5, a36_4, a36_3, a36_2, a36_1, a32, a25, a19, a12, a5, x], bp_K h20 q ≠ 0 := fun q hq => by
      rcases List.mem_append.mp (show q ∈ [a104_1] ++ [a92, a73, N66 0, N66 1, N66 2, N66 3, N66 4, N66 5, N66 6, N66 7, N66 8, N66 9, N66 10, N66 11, a66_6, a66_5, a66_4, a66_3, a66_2, a66_1, a54, a47_7, a47_6, a47_5, a47_4, a47_3, a47_2, a47_1, a43, a36_7, a36_6, a36_5, a36_4, a36_3, a36_2, a36_1, a32, a25, a19, a12, a5, x] from hq) with z | z
      · simp only [List.mem_cons, List.not_mem_nil, or_false] at z
        rcases z with z <;> subst z <;> assumption
      · rw [f20.2 q (KN19 q z)]; exact KN19 q z
  refine bp_putR (q := 110) (ci := 0) (j := 6) 50 rfl rfl fl_X_51_0 cl0 F20_0.1 (fun r hr => by cases hr; exact Or.inr ⟨rfl, rfl, rfl, _, wd374, rfl⟩) (Or.inl ⟨_, rfl⟩) rfl ?_
  refine bp_nx (X := fun h21 => oF h21 x 6 (bp_u1 (bp_u1 (bp_u1 (bp_u1 (bp_u1 (bp_u1 (bp_u1 (fun _ => none) 0 (some a5)) 1 (some a19)) 2 (some a32)) 3 (some a43)) 4 (some a54)) 5 (some a73)) 6 (some a92)) ∧ oF h21 a5 7 (bp_u1 (fun _ => none) 0 (some a12)) ∧ aF h21 a12 1 400 ∧ oF h21 a19 7 (bp_u1 (fun _ => none) 0 (some a25)) ∧ aF h21 a25 1 64 ∧ oF h21 a32 8 (bp_u1 (bp_u1 (bp_u1 (bp_u1 (bp_u1 (fun _ => none) 0 (some a36_1)) 1 (some a36_2)) 2 (some a36_3)) 3 (some a36_4)) 4 (some a36_6)) ∧ aF h21 a36_1 1 16 ∧ aF h21 a36_2 1 16 ∧ aF h21 a36_3 1 16 ∧ oF h21 a36_4 7 (bp_u1 (fun _ => none) 0 (some a36_5)) ∧ aF h21 a36_5 1 400 ∧ oF h21 a36_6 7 (bp_u1 (fun _ => none) 0 (some a36_7)) ∧ aF h21 a36_7 1 400 ∧ oF h21 a43 8 (bp_u1 (bp_u1 (bp_u1 (bp_u1 (bp_u1 (fun _ => none) 0 (some a47_1)) 1 (some a47_2)) 2 (some a47_3)) 3 (some a47_4)) 4 (some a47_6)) ∧ aF h21 a47_1 1 16 ∧ aF h21 a47_2 1 16 ∧ aF h21 a47_3 1 16 ∧ oF h21 a47_4 7 (bp_u1 (fun _ => none) 0 (some a47_5)) ∧ aF h21 a47_5 1 400 ∧ oF h21 a47_6 7 (bp_u1 (fun _ => none) 0 (some a47_7)) ∧ aF h21 a47_7 1 400 ∧ oF h21 a54 9 (bp_u1 (bp_u1 (bp_u1 (bp_u1 (bp_u1 (fun _ => none) 11 (some a5)) 12 (some a43)) 0 (some a66_1)) 1 (some a66_2)) 2 (some a66_3)) ∧ oF h21 a66_1 10 (fun _ => none) ∧ qF h21 a66_2 12 N66 ∧ oF h21 a66_3 11 (bp_u1 (bp_u1 (fun _ => none) 0 (some a66_4)) 1 (some a66_5)) ∧ aF h21 a66_4 1 8 ∧ oF h21 a66_5 7 (bp_u1 (fun _ => none) 0 (some a66_6)) ∧ aF h21 a66_6 1 16 ∧ sF h21 12 N66 ∧ oF h21 a73 12 (bp_u1 (bp_u1 (fun _ => none) 10 (some a5)) 11 (some a43)) ∧ oF h21 a92 13 (bp_u1 (bp_u1 (bp_u1 (fun _ => none) 1 (some a32)) 2 (some a19)) 0 (some a104_1)) ∧ aF h21 a104_1 1 8 ∧ nF x h h21 ∧ nF x h20 h21) ⟨F20_0.set, F20_1.sR d_a5_x, F20_2.sR d_a12_x, F20_3.sR d_a19_x, F20_4.sR d_a25_x, F20_5.sR d_a32_x, F20_6.sR d_a36_1_x, F20_7.sR d_a36_2_x, F20_8.sR d_a36_3_x, F20_9.sR d_a36_4_x, F20_10.sR d_a36_5_x, F20_11.sR d_a36_6_x, F20_12.sR d_a36_7_x, F20_13.sR d_a43_x, F20_14.sR d_a47_1_x, F20_15.sR d_a47_2_x, F20_16.sR d_a47_3_x, F20_17.sR d_a47_4_x, F20_18.sR d_a47_5_x, F20_19.sR d_a47_6_x, F20_20.sR d_a47_7_x, F20_21.sR d_a54_x, F20_22.sR d_a66_1_x, F20_23.sR d_a66_2_x, F20_24.sR d_a66_3_x, F20_25.sR d_a66_4_x, F20_26.sR d_a66_5_x, F20_27.sR d_a66_6_x, F20_28.sR (fun k hk => e_N66_x k hk), F20_29.sR d_a73_x, F20_30.sR d_a92_x, F20_31.sR d_a104_1_x, (g20).tr (nF.sR), nF.sR⟩ (fun h21 ⟨F21_0, F21_1, F21_2, F21_3, F21_4, F21_5, F21_6, F21_7, F21_8, F21_9, F21_10, F21_11, F21_12, F21_13, F21_14, F21_15, F21_16, F21_17, F21_18, F21_19, F21_20, F21_21, F21_22, F21_23, F21_24, F21_25, F21_26, F21_27, F21_28, F21_29, F21_30, F21_31, g21, l21⟩ => ?_)
  have KN21 : ∀ q ∈ [a104_1, a92, a73, N66 0, N66 1, N66 2, N66 3, N66 4, N66 5, N66 6, N66 7, N66 8, N66 9, N66 10, N66 11, a66_6, a66_5, a66_4, a66_3, a66_2, a66_1, a54, a47_7, a47_6, a47_5, a47_4, a47_3, a47_2, a47_1, a43, a36_7, a36_6, a36_5, a36_4, a36_3, a36_2, a36_1, a32, a25, a19, a12, a5, x], bp_K h21 q ≠ 0 := fun q hq => by rw [l21.2 q (KN20 q hq)]; exact KN20 q hq
  have ND21 := ND20
  refine bp_aload_n (q := 111) 51 rfl rfl rfl rfl ?_
  refine bp_newo (c := c) (s := s) (n := 2) (q := 114) 52 rfl rfl nw_X_55 cl8 (fun a111 n_a111 => ?_)
  have d_a111_x := F21_0.ne n_a111 (by decide)
  have d_a111_a5 := F21_1.ne n_a111 (by decide)
  have d_a111_a12 := F21_2.ne n_a111 (by decide)
  have d_a111_a19 := F21_3.ne n_a111 (by decide)
  have d_a111_a25 := F21_4.ne n_a111 (by decide)
  have d_a111_a32 := F21_5.ne n_a111 (by decide)
  have d_a111_a36_1 := F21_6.ne n_a111 (by decide)
  have d_a111_a36_2 := F21_7.ne n_a111 (by decide)
  have d_a111_a36_3 := F21_8.ne n_a111 (by decide)
  have d_a111_a36_4 := F21_9.ne n_a111 (by decide)
  have d_a111_a36_5 := F21_10.ne n_a111 (by decide)
  have d_a111_a36_6 := F21_11.ne n_a111 (by decide)
  have d_a111_a36_7 := F21_12.ne n_a111 (by decide)
  have d_a111_a43 := F21_13.ne n_a111 (by decide)
  have d_a111_a47_1 := F21_14.ne n_a111 (by decide)
  have d_a111_a47_2 := F21_15.ne n_a111 (by decide)
  have d_a111_a47_3 := F21_16.ne n_a111 (by decide)
  have d_a111_a47_4 := F21_17.ne n_a111 (by decide)
  have d_a111_a47_5 := F21_18.ne n_a111 (by decide)
  have d_a111_a47_6 := F21_19.ne n_a111 (by decide)
  have d_a111_a47_7 := F21_20.ne n_a111 (by decide)
  have d_a111_a54 := F21_21.ne n_a111 (by decide)
  have d_a111_a66_1 := F21_22.ne n_a111 (by decide)
  have d_a111_a66_2 := F21_23.ne n_a111
  have d_a111_a66_3 := F21_24.ne n_a111 (by decide)
  have d_a111_a66_4 := F21_25.ne n_a111 (by decide)
  have d_a111_a66_5 := F21_26.ne n_a111 (by decide)
  have d_a111_a66_6 := F21_27.ne n_a111 (by decide)
  have d_a111_N66 := F21_28.ne n_a111
  have d_a111_a73 := F21_29.ne n_a111 (by decide)
  have d_a111_a92 := F21_30.ne n_a111 (by decide)
  have d_a111_a104_1 := F21_31.ne n_a111 (by decide)
  have z_a111 := (g21).z n_a111
  have ND22 : (a111 :: [a104_1, a92, a73, N66 0, N66 1, N66 2, N66 3, N66 4, N66 5, N66 6, N66 7, N66 8, N66 9, N66 10, N66 11, a66_6, a66_5, a66_4, a66_3, a66_2, a66_1, a54, a47_7, a47_6, a47_5, a47_4, a47_3, a47_2, a47_1, a43, a36_7, a36_6, a36_5, a36_4, a36_3, a36_2, a36_1, a32, a25, a19, a12, a5, x]).Nodup := List.nodup_cons.mpr ⟨fun hm => KN21 a111 hm n_a111, ND21⟩
  refine bp_nx (X := fun h22 => oF h22 x 6 (bp_u1 (bp_u1 (bp_u1 (bp_u1 (bp_u1 (bp_u1 (bp_u1 (fun _ => none) 0 (some a5)) 1 (some a19)) 2 (some a32)) 3 (some a43)) 4 (some a54)) 5 (some a73)) 6 (some a92)) ∧ oF h22 a5 7 (bp_u1 (fun _ => none) 0 (some a12)) ∧ aF h22 a12 1 400 ∧ oF h22 a19 7 (bp_u1 (fun _ => none) 0 (some a25)) ∧ aF h22 a25 1 64 ∧ oF h22 a32 8 (bp_u1 (bp_u1 (bp_u1 (bp_u1 (bp_u1 (fun _ => none) 0 (some a36_1)) 1 (some a36_2)) 2 (some a36_3)) 3 (some a36_4)) 4 (some a36_6)) ∧ aF h22 a36_1 1 16 ∧ aF h22 a36_2 1 16 ∧ aF h22 a36_3 1 16 ∧ oF h22 a36_4 7 (bp_u1 (fun _ => none) 0 (some a36_5)) ∧ aF h22 a36_5 1 400 ∧ oF h22 a36_6 7 (bp_u1 (fun _ => none) 0 (some a36_7)) ∧ aF h22 a36_7 1 400 ∧ oF h22 a43 8 (bp_u1 (bp_u1 (bp_u1 (bp_u1 (bp_u1 (fun _ => none) 0 (some a47_1)) 1 (some a47_2)) 2 (some a47_3)) 3 (some a47_4)) 4 (some a47_6)) ∧ aF h22 a47_1 1 16 ∧ aF h22 a47_2 1 16 ∧ aF h22 a47_3 1 16 ∧ oF h22 a47_4 7 (bp_u1 (fun _ => none) 0 (some a47_5)) ∧ aF h22 a47_5 1 400 ∧ oF h22 a47_6 7 (bp_u1 (fun _ => none) 0 (some a47_7)) ∧ aF h22 a47_7 1 400 ∧ oF h22 a54 9 (bp_u1 (bp_u1 (bp_u1 (bp_u1 (bp_u1 (fun _ => none) 11 (some a5)) 12 (some a43)) 0 (some a66_1)) 1 (some a66_2)) 2 (some a66_3)) ∧ oF h22 a66_1 10 (fun _ => none) ∧ qF h22 a66_2 12 N66 ∧ oF h22 a66_3 11 (bp_u1 (bp_u1 (fun _ => none) 0 (some a66_4)) 1 (some a66_5)) ∧ aF h22 a66_4 1 8 ∧ oF h22 a66_5 7 (bp_u1 (fun _ => none) 0 (some a66_6)) ∧ aF h22 a66_6 1 16 ∧ sF h22 12 N66 ∧ oF h22 a73 12 (bp_u1 (bp_u1 (fun _ => none) 10 (some a5)) 11 (some a43)) ∧ oF h22 a92 13 (bp_u1 (bp_u1 (bp_u1 (fun _ => none) 1 (some a32)) 2 (some a19)) 0 (some a104_1)) ∧ aF h22 a104_1 1 8 ∧ oF h22 a111 14 (fun _ => none) ∧ nF x h h22 ∧ nF x h21 h22) ⟨F21_0.new n_a111 (by decide), F21_1.new n_a111 (by decide), F21_2.new n_a111 (by decide), F21_3.new n_a111 (by decide), F21_4.new n_a111 (by decide), F21_5.new n_a111 (by decide), F21_6.new n_a111 (by decide), F21_7.new n_a111 (by decide), F21_8.new n_a111 (by decide), F21_9.new n_a111 (by decide), F21_10.new n_a111 (by decide), F21_11.new n_a111 (by decide), F21_12.new n_a111 (by decide), F21_13.new n_a111 (by decide), F21_14.new n_a111 (by decide), F21_15.new n_a111 (by decide), F21_16.new n_a111 (by decide), F21_17.new n_a111 (by decide), F21_18.new n_a111 (by decide), F21_19.new n_a111 (by decide), F21_20.new n_a111 (by decide), F21_21.new n_a111 (by decide), F21_22.new n_a111 (by decide), F21_23.new n_a111, F21_24.new n_a111 (by decide), F21_25.new n_a111 (by decide), F21_26.new n_a111 (by decide), F21_27.new n_a111 (by decide), F21_28.new n_a111, F21_29.new n_a111 (by decide), F21_30.new n_a111 (by decide), F21_31.new n_a111 (by decide), oF_new, (g21).tr (nF.new n_a111), nF.new n_a111⟩ (fun h22 ⟨F22_0, F22_1, F22_2, F22_3, F22_4, F22_5, F22_6, F22_7, F22_8, F22_9, F22_10, F22_11, F22_12, F22_13, F22_14, F22_15, F22_16, F22_17, F22_18, F22_19, F22_20, F22_21, F22_22, F22_23, F22_24, F22_25, F22_26, F22_27, F22_28, F22_29, F22_30, F22_31, F22_32, g22, l22⟩ => ?_)
  have k_22_0 : bp_K h22 (a111) ≠ 0 := (by rw [F22_32.1]; decide)
  have KN22 : ∀ q ∈ [a111, a104_1, a92, a73, N66 0, N66 1, N66 2, N66 3, N66 4, N66 5, N66 6, N66 7, N66 8, N66 9, N66 10, N66 11, a66_6, a66_5, a66_4, a66_3, a66_2, a66_1, a54, a47_7, a47_6, a47_5, a47_4, a47_3, a47_2, a47_1, a43, a36_7, a36_6, a36_5, a36_4, a36_3, a36_2, a36_1, a32, a25, a19, a12, a5, x], bp_K h22 q ≠ 0 := fun q hq => by
      rcases List.mem_append.mp (show q ∈ [a111] ++ [a104_1, a92, a73, N66 0, N66 1, N66 2, N66 3, N66 4, N66 5, N66 6, N66 7, N66 8, N66 9, N66 10, N66 11, a66_6, a66_5, a66_4, a66_3, a66_2, a66_1, a54, a47_7, a47_6, a47_5, a47_4, a47_3, a47_2, a47_1, a43, a36_7, a36_6, a36_5, a36_4, a36_3, a36_2, a36_1, a32, a25, a19, a12, a5, x] from hq) with z | z
      · simp only [List.mem_cons, List.not_mem_nil, or_false] at z
        rcases z with z <;> subst z <;> assumption
      · rw [l22.2 q (KN21 q z)]; exact KN21 q z
  refine bp_dup (q := 115) 53 rfl rfl rfl ?_
  refine bp_aload_n (q := 116) 54 rfl rfl rfl rfl ?_
  refine bp_getR (x := a32) (q := 119) (ci := 0) (j := 2) 55 rfl rfl fl_X_24_0 F22_0.1 rfl ((F22_0.2.2 2).trans rfl) ?_
  refine bp_aload_n (q := 120) 56 rfl rfl rfl rfl ?_
  refine bp_getR (x := a19) (q := 123) (ci := 0) (j := 1) 57 rfl rfl fl_X_18_0 F22_0.1 rfl ((F22_0.2.2 1).trans rfl) ?_
  refine bp_callI (q := 126) 58 rfl rfl cw_TW_init lk_X_57 rfl rfl wd362 rfl rfl (Nat.le_of_ble_eq_true rfl) ⟨Nat.le_of_ble_eq_true rfl, Nat.le_of_ble_eq_true rfl⟩ (s_TW_init F22_32 (fun h23 E_0 f23 => ?_))
  have F23_0 := F22_0.nf f23 (by decide) (d_a111_x).symm
  have F23_1 := F22_1.nf f23 (by decide) (d_a111_a5).symm
  have F23_2 := F22_2.nf f23 (by decide) (d_a111_a12).symm
  have F23_3 := F22_3.nf f23 (by decide) (d_a111_a19).symm
  have F23_4 := F22_4.nf f23 (by decide) (d_a111_a25).symm
  have F23_5 := F22_5.nf f23 (by decide) (d_a111_a32).symm
  have F23_6 := F22_6.nf f23 (by decide) (d_a111_a36_1).symm
  have F23_7 := F22_7.nf f23 (by decide) (d_a111_a36_2).symm
  have F23_8 := F22_8.nf f23 (by decide) (d_a111_a36_3).symm
  have F23_9 := F22_9.nf f23 (by decide) (d_a111_a36_4).symm
  have F23_10 := F22_10.nf f23 (by decide) (d_a111_a36_5).symm
  have F23_11 := F22_11.nf f23 (by decide) (d_a111_a36_6).symm
  have F23_12 := F22_12.nf f23 (by decide) (d_a111_a36_7).symm
  have F23_13 := F22_13.nf f23 (by decide) (d_a111_a43).symm
  have F23_14 := F22_14.nf f23 (by decide) (d_a111_a47_1).symm
  have F23_15 := F22_15.nf f23 (by decide) (d_a111_a47_2).symm
  have F23_16 := F22_16.nf f23 (by decide) (d_a111_a47_3).symm
  have F23_17 := F22_17.nf f23 (by decide) (d_a111_a47_4).symm
  have F23_18 := F22_18.nf f23 (by decide) (d_a111_a47_5).symm
  have F23_19 := F22_19.nf f23 (by decide) (d_a111_a47_6).symm
  have F23_20 := F22_20.nf f23 (by decide) (d_a111_a47_7).symm
  have F23_21 := F22_21.nf f23 (by decide) (d_a111_a54).symm
  have F23_22 := F22_22.nf f23 (by decide) (d_a111_a66_1).symm
  have F23_23 := F22_23.nf f23 (d_a111_a66_2).symm
  have F23_24 := F22_24.nf f23 (by decide) (d_a111_a66_3).symm
  have F23_25 := F22_25.nf f23 (by decide) (d_a111_a66_4).symm
  have F23_26 := F22_26.nf f23 (by decide) (d_a111_a66_5).symm
  have F23_27 := F22_27.nf f23 (by decide) (d_a111_a66_6).symm
  have F23_28 := F22_28.nf f23 (fun k hk => (d_a111_N66 k hk).symm)
  have F23_29 := F22_29.nf f23 (by decide) (d_a111_a73).symm
  have F23_30 := F22_30.nf f23 (by decide) (d_a111_a92).symm
  have F23_31 := F22_31.nf f23 (by decide) (d_a111_a104_1).symm
  have F23_32 := E_0
  have g23 := (g22).sub f23 z_a111
  have KN23 : ∀ q ∈ [a111, a104_1, a92, a73, N66 0, N66 1, N66 2, N66 3, N66 4, N66 5, N66 6, N66 7, N66 8, N66 9, N66 10, N66 11, a66_6, a66_5, a66_4, a66_3, a66_2, a66_1, a54, a47_7, a47_6, a47_5, a47_4, a47_3, a47_2, a47_1, a43, a36_7, a36_6, a36_5, a36_4, a36_3, a36_2, a36_1, a32, a25, a19, a12, a5, x], bp_K h23 q ≠ 0 := fun q hq => by rw [f23.2 q (KN22 q hq)]; exact KN22 q hq
  have ND23 := ND22
  refine bp_putR (q := 129) (ci := 0) (j := 7) 59 rfl rfl fl_X_58_0 cl0 F23_0.1 (fun r hr => by cases hr; exact Or.inr ⟨rfl, rfl, rfl, _, wd375, rfl⟩) (Or.inl ⟨_, rfl⟩) rfl ?_
  refine bp_nx (X := fun h24 => oF h24 x 6 (bp_u1 (bp_u1 (bp_u1 (bp_u1 (bp_u1 (bp_u1 (bp_u1 (bp_u1 (fun _ => none) 0 (some a5)) 1 (some a19)) 2 (some a32)) 3 (some a43)) 4 (some a54)) 5 (some a73)) 6 (some a92)) 7 (some a111)) ∧ oF h24 a5 7 (bp_u1 (fun _ => none) 0 (some a12)) ∧ aF h24 a12 1 400 ∧ oF h24 a19 7 (bp_u1 (fun _ => none) 0 (some a25)) ∧ aF h24 a25 1 64 ∧ oF h24 a32 8 (bp_u1 (bp_u1 (bp_u1 (bp_u1 (bp_u1 (fun _ => none) 0 (some a36_1)) 1 (some a36_2)) 2 (some a36_3)) 3 (some a36_4)) 4 (some a36_6)) ∧ aF h24 a36_1 1 16 ∧ aF h24 a36_2 1 16 ∧ aF h24 a36_3 1 16 ∧ oF h24 a36_4 7 (bp_u1 (fun _ => none) 0 (some a36_5)) ∧ aF h24 a36_5 1 400 ∧ oF h24 a36_6 7 (bp_u1 (fun _ => none) 0 (some a36_7)) ∧ aF h24 a36_7 1 400 ∧ oF h24 a43 8 (bp_u1 (bp_u1 (bp_u1 (bp_u1 (bp_u1 (fun _ => none) 0 (some a47_1)) 1 (some a47_2)) 2 (some a47_3)) 3 (some a47_4)) 4 (some a47_6)) ∧ aF h24 a47_1 1 16 ∧ aF h24 a47_2 1 16 ∧ aF h24 a47_3 1 16 ∧ oF h24 a47_4 7 (bp_u1 (fun _ => none) 0 (some a47_5)) ∧ aF h24 a47_5 1 400 ∧ oF h24 a47_6 7 (bp_u1 (fun _ => none) 0 (some a47_7)) ∧ aF h24 a47_7 1 400 ∧ oF h24 a54 9 (bp_u1 (bp_u1 (bp_u1 (bp_u1 (bp_u1 (fun _ => none) 11 (some a5)) 12 (some a43)) 0 (some a66_1)) 1 (some a66_2)) 2 (some a66_3)) ∧ oF h24 a66_1 10 (fun _ => none) ∧ qF h24 a66_2 12 N66 ∧ oF h24 a66_3 11 (bp_u1 (bp_u1 (fun _ => none) 0 (some a66_4)) 1 (some a66_5)) ∧ aF h24 a66_4 1 8 ∧ oF h24 a66_5 7 (bp_u1 (fun _ => none) 0 (some a66_6)) ∧ aF h24 a66_6 1 16 ∧ sF h24 12 N66 ∧ oF h24 a73 12 (bp_u1 (bp_u1 (fun _ => none) 10 (some a5)) 11 (some a43)) ∧ oF h24 a92 13 (bp_u1 (bp_u1 (bp_u1 (fun _ => none) 1 (some a32)) 2 (some a19)) 0 (some a104_1)) ∧ aF h24 a104_1 1 8 ∧ oF h24 a111 14 (bp_u1 (bp_u1 (fun _ => none) 0 (some a32)) 1 (some a19)) ∧ nF x h h24 ∧ nF x h23 h24) ⟨F23_0.set, F23_1.sR d_a5_x, F23_2.sR d_a12_x, F23_3.sR d_a19_x, F23_4.sR d_a25_x, F23_5.sR d_a32_x, F23_6.sR d_a36_1_x, F23_7.sR d_a36_2_x, F23_8.sR d_a36_3_x, F23_9.sR d_a36_4_x, F23_10.sR d_a36_5_x, F23_11.sR d_a36_6_x, F23_12.sR d_a36_7_x, F23_13.sR d_a43_x, F23_14.sR d_a47_1_x, F23_15.sR d_a47_2_x, F23_16.sR d_a47_3_x, F23_17.sR d_a47_4_x, F23_18.sR d_a47_5_x, F23_19.sR d_a47_6_x, F23_20.sR d_a47_7_x, F23_21.sR d_a54_x, F23_22.sR d_a66_1_x, F23_23.sR d_a66_2_x, F23_24.sR d_a66_3_x, F23_25.sR d_a66_4_x, F23_26.sR d_a66_5_x, F23_27.sR d_a66_6_x, F23_28.sR (fun k hk => e_N66_x k hk), F23_29.sR d_a73_x, F23_30.sR d_a92_x, F23_31.sR d_a104_1_x, F23_32.sR d_a111_x, (g23).tr (nF.sR), nF.sR⟩ (fun h24 ⟨F24_0, F24_1, F24_2, F24_3, F24_4, F24_5, F24_6, F24_7, F24_8, F24_9, F24_10, F24_11, F24_12, F24_13, F24_14, F24_15, F24_16, F24_17, F24_18, F24_19, F24_20, F24_21, F24_22, F24_23, F24_24, F24_25, F24_26, F24_27, F24_28, F24_29, F24_30, F24_31, F24_32, g24, l24⟩ => ?_)
  have KN24 : ∀ q ∈ [a111, a104_1, a92, a73, N66 0, N66 1, N66 2, N66 3, N66 4, N66 5, N66 6, N66 7, N66 8, N66 9, N66 10, N66 11, a66_6, a66_5, a66_4, a66_3, a66_2, a66_1, a54, a47_7, a47_6, a47_5, a47_4, a47_3, a47_2, a47_1, a43, a36_7, a36_6, a36_5, a36_4, a36_3, a36_2, a36_1, a32, a25, a19, a12, a5, x], bp_K h24 q ≠ 0 := fun q hq => by rw [l24.2 q (KN23 q hq)]; exact KN23 q hq
  have ND24 := ND23
  refine bp_aload_n (q := 130) 60 rfl rfl rfl rfl ?_
  refine bp_iconst (v := -1) (q := 131) 61 rfl rfl (by decide) ?_
  refine bp_putI (q := 134) (ci := 0) (j := 8) 62 rfl rfl fl_X_61_0 cl0 F24_0.1 (fun r hr => by cases hr; rfl) (by decide) rfl rfl ?_
  refine bp_nx (X := fun h25 => xV h25 x (bp_u1 (bp_u1 (bp_u1 (bp_u1 (bp_u1 (bp_u1 (bp_u1 (bp_u1 (fun _ => none) 0 (some a5)) 1 (some a19)) 2 (some a32)) 3 (some a43)) 4 (some a54)) 5 (some a73)) 6 (some a92)) 7 (some a111)) ∧ oF h25 a5 7 (bp_u1 (fun _ => none) 0 (some a12)) ∧ aF h25 a12 1 400 ∧ oF h25 a19 7 (bp_u1 (fun _ => none) 0 (some a25)) ∧ aF h25 a25 1 64 ∧ oF h25 a32 8 (bp_u1 (bp_u1 (bp_u1 (bp_u1 (bp_u1 (fun _ => none) 0 (some a36_1)) 1 (some a36_2)) 2 (some a36_3)) 3 (some a36_4)) 4 (some a36_6)) ∧ aF h25 a36_1 1 16 ∧ aF h25 a36_2 1 16 ∧ aF h25 a36_3 1 16 ∧ oF h25 a36_4 7 (bp_u1 (fun _ => none) 0 (some a36_5)) ∧ aF h25 a36_5 1 400 ∧ oF h25 a36_6 7 (bp_u1 (fun _ => none) 0 (some a36_7)) ∧ aF h25 a36_7 1 400 ∧ oF h25 a43 8 (bp_u1 (bp_u1 (bp_u1 (bp_u1 (bp_u1 (fun _ => none) 0 (some a47_1)) 1 (some a47_2)) 2 (some a47_3)) 3 (some a47_4)) 4 (some a47_6)) ∧ aF h25 a47_1 1 16 ∧ aF h25 a47_2 1 16 ∧ aF h25 a47_3 1 16 ∧ oF h25 a47_4 7 (bp_u1 (fun _ => none) 0 (some a47_5)) ∧ aF h25 a47_5 1 400 ∧ oF h25 a47_6 7 (bp_u1 (fun _ => none) 0 (some a47_7)) ∧ aF h25 a47_7 1 400 ∧ oF h25 a54 9 (bp_u1 (bp_u1 (bp_u1 (bp_u1 (bp_u1 (fun _ => none) 11 (some a5)) 12 (some a43)) 0 (some a66_1)) 1 (some a66_2)) 2 (some a66_3)) ∧ oF h25 a66_1 10 (fun _ => none) ∧ qF h25 a66_2 12 N66 ∧ oF h25 a66_3 11 (bp_u1 (bp_u1 (fun _ => none) 0 (some a66_4)) 1 (some a66_5)) ∧ aF h25 a66_4 1 8 ∧ oF h25 a66_5 7 (bp_u1 (fun _ => none) 0 (some a66_6)) ∧ aF h25 a66_6 1 16 ∧ sF h25 12 N66 ∧ oF h25 a73 12 (bp_u1 (bp_u1 (fun _ => none) 10 (some a5)) 11 (some a43)) ∧ oF h25 a92 13 (bp_u1 (bp_u1 (bp_u1 (fun _ => none) 1 (some a32)) 2 (some a19)) 0 (some a104_1)) ∧ aF h25 a104_1 1 8 ∧ oF h25 a111 14 (bp_u1 (bp_u1 (fun _ => none) 0 (some a32)) 1 (some a19)) ∧ nF x h h25 ∧ nF x h24 h25) ⟨⟨F24_0.1, by rw [bp_I_sI, if_pos ⟨rfl, rfl⟩], F24_0.2.2⟩, F24_1.nf nF.sI (by decide) d_a5_x, F24_2.nf nF.sI (by decide) d_a12_x, F24_3.nf nF.sI (by decide) d_a19_x, F24_4.nf nF.sI (by decide) d_a25_x, F24_5.nf nF.sI (by decide) d_a32_x, F24_6.nf nF.sI (by decide) d_a36_1_x, F24_7.nf nF.sI (by decide) d_a36_2_x, F24_8.nf nF.sI (by decide) d_a36_3_x, F24_9.nf nF.sI (by decide) d_a36_4_x, F24_10.nf nF.sI (by decide) d_a36_5_x, F24_11.nf nF.sI (by decide) d_a36_6_x, F24_12.nf nF.sI (by decide) d_a36_7_x, F24_13.nf nF.sI (by decide) d_a43_x, F24_14.nf nF.sI (by decide) d_a47_1_x, F24_15.nf nF.sI (by decide) d_a47_2_x, F24_16.nf nF.sI (by decide) d_a47_3_x, F24_17.nf nF.sI (by decide) d_a47_4_x, F24_18.nf nF.sI (by decide) d_a47_5_x, F24_19.nf nF.sI (by decide) d_a47_6_x, F24_20.nf nF.sI (by decide) d_a47_7_x, F24_21.nf nF.sI (by decide) d_a54_x, F24_22.nf nF.sI (by decide) d_a66_1_x, F24_23.nf nF.sI d_a66_2_x, F24_24.nf nF.sI (by decide) d_a66_3_x, F24_25.nf nF.sI (by decide) d_a66_4_x, F24_26.nf nF.sI (by decide) d_a66_5_x, F24_27.nf nF.sI (by decide) d_a66_6_x, F24_28.nf nF.sI (fun k hk => e_N66_x k hk), F24_29.nf nF.sI (by decide) d_a73_x, F24_30.nf nF.sI (by decide) d_a92_x, F24_31.nf nF.sI (by decide) d_a104_1_x, F24_32.nf nF.sI (by decide) d_a111_x, (g24).tr (nF.sI), nF.sI⟩ (fun h25 ⟨F25_0, F25_1, F25_2, F25_3, F25_4, F25_5, F25_6, F25_7, F25_8, F25_9, F25_10, F25_11, F25_12, F25_13, F25_14, F25_15, F25_16, F25_17, F25_18, F25_19, F25_20, F25_21, F25_22, F25_23, F25_24, F25_25, F25_26, F25_27, F25_28, F25_29, F25_30, F25_31, F25_32, g25, l25⟩ => ?_)
  have KN25 : ∀ q ∈ [a111, a104_1, a92, a73, N66 0, N66 1, N66 2, N66 3, N66 4, N66 5, N66 6, N66 7, N66 8, N66 9, N66 10, N66 11, a66_6, a66_5, a66_4, a66_3, a66_2, a66_1, a54, a47_7, a47_6, a47_5, a47_4, a47_3, a47_2, a47_1, a43, a36_7, a36_6, a36_5, a36_4, a36_3, a36_2, a36_1, a32, a25, a19, a12, a5, x], bp_K h25 q ≠ 0 := fun q hq => by rw [l25.2 q (KN24 q hq)]; exact KN24 q hq
  have ND25 := ND24
  refine bp_vret 63 rfl rfl ⟨_, rfl, ?_⟩
  have hZ : ∀ i j, i < 44 → j < 44 → [a111, a104_1, a92, a73, N66 0, N66 1, N66 2, N66 3, N66 4, N66 5, N66 6, N66 7, N66 8, N66 9, N66 10, N66 11, a66_6, a66_5, a66_4, a66_3, a66_2, a66_1, a54, a47_7, a47_6, a47_5, a47_4, a47_3, a47_2, a47_1, a43, a36_7, a36_6, a36_5, a36_4, a36_3, a36_2, a36_1, a32, a25, a19, a12, a5, x].getD i 0 = [a111, a104_1, a92, a73, N66 0, N66 1, N66 2, N66 3, N66 4, N66 5, N66 6, N66 7, N66 8, N66 9, N66 10, N66 11, a66_6, a66_5, a66_4, a66_3, a66_2, a66_1, a54, a47_7, a47_6, a47_5, a47_4, a47_3, a47_2, a47_1, a43, a36_7, a36_6, a36_5, a36_4, a36_3, a36_2, a36_1, a32, a25, a19, a12, a5, x].getD j 0 → i = j := fun i j hi hj e => getD_inj ND25 hi hj e
  generalize hZd : (fun i => [a111, a104_1, a92, a73, N66 0, N66 1, N66 2, N66 3, N66 4, N66 5, N66 6, N66 7, N66 8, N66 9, N66 10, N66 11, a66_6, a66_5, a66_4, a66_3, a66_2, a66_1, a54, a47_7, a47_6, a47_5, a47_4, a47_3, a47_2, a47_1, a43, a36_7, a36_6, a36_5, a36_4, a36_3, a36_2, a36_1, a32, a25, a19, a12, a5, x].getD i 0) = Z
  have hZ : ∀ i j, i < 44 → j < 44 → Z i = Z j → i = j := by rw [← hZd]; exact hZ
  have e0 : Z 0 = a111 := by rw [← hZd]; rfl
  have e1 : Z 1 = a104_1 := by rw [← hZd]; rfl
  have e2 : Z 2 = a92 := by rw [← hZd]; rfl
  have e3 : Z 3 = a73 := by rw [← hZd]; rfl
  have e4 : Z 4 = N66 0 := by rw [← hZd]; rfl
  have e5 : Z 5 = N66 1 := by rw [← hZd]; rfl
  have e6 : Z 6 = N66 2 := by rw [← hZd]; rfl
  have e7 : Z 7 = N66 3 := by rw [← hZd]; rfl
  have e8 : Z 8 = N66 4 := by rw [← hZd]; rfl
  have e9 : Z 9 = N66 5 := by rw [← hZd]; rfl
  have e10 : Z 10 = N66 6 := by rw [← hZd]; rfl
  have e11 : Z 11 = N66 7 := by rw [← hZd]; rfl
  have e12 : Z 12 = N66 8 := by rw [← hZd]; rfl
  have e13 : Z 13 = N66 9 := by rw [← hZd]; rfl
  have e14 : Z 14 = N66 10 := by rw [← hZd]; rfl
  have e15 : Z 15 = N66 11 := by rw [← hZd]; rfl
  have e16 : Z 16 = a66_6 := by rw [← hZd]; rfl
  have e17 : Z 17 = a66_5 := by rw [← hZd]; rfl
  have e18 : Z 18 = a66_4 := by rw [← hZd]; rfl
  have e19 : Z 19 = a66_3 := by rw [← hZd]; rfl
  have e20 : Z 20 = a66_2 := by rw [← hZd]; rfl
  have e21 : Z 21 = a66_1 := by rw [← hZd]; rfl
  have e22 : Z 22 = a54 := by rw [← hZd]; rfl
  have e23 : Z 23 = a47_7 := by rw [← hZd]; rfl
  have e24 : Z 24 = a47_6 := by rw [← hZd]; rfl
  have e25 : Z 25 = a47_5 := by rw [← hZd]; rfl
  have e26 : Z 26 = a47_4 := by rw [← hZd]; rfl
  have e27 : Z 27 = a47_3 := by rw [← hZd]; rfl
  have e28 : Z 28 = a47_2 := by rw [← hZd]; rfl
  have e29 : Z 29 = a47_1 := by rw [← hZd]; rfl
  have e30 : Z 30 = a43 := by rw [← hZd]; rfl
  have e31 : Z 31 = a36_7 := by rw [← hZd]; rfl
  have e32 : Z 32 = a36_6 := by rw [← hZd]; rfl
  have e33 : Z 33 = a36_5 := by rw [← hZd]; rfl
  have e34 : Z 34 = a36_4 := by rw [← hZd]; rfl
  have e35 : Z 35 = a36_3 := by rw [← hZd]; rfl
  have e36 : Z 36 = a36_2 := by rw [← hZd]; rfl
  have e37 : Z 37 = a36_1 := by rw [← hZd]; rfl
  have e38 : Z 38 = a32 := by rw [← hZd]; rfl
  have e39 : Z 39 = a25 := by rw [← hZd]; rfl
  have e40 : Z 40 = a19 := by rw [← hZd]; rfl
  have e41 : Z 41 = a12 := by rw [← hZd]; rfl
  have e42 : Z 42 = a5 := by rw [← hZd]; rfl
  have e43 : Z 43 = x := by rw [← hZd]; rfl
  have hN : ∀ k, k < 12 → Z (4 + k) = N66 k := fun k hk => by
    have q : k = 0 ∨ k = 1 ∨ k = 2 ∨ k = 3 ∨ k = 4 ∨ k = 5 ∨ k = 6 ∨ k = 7 ∨ k = 8 ∨ k = 9 ∨ k = 10 ∨ k = 11 := by omega
    rcases q with q | q | q | q | q | q | q | q | q | q | q | q <;> subst q
    · exact e4
    · exact e5
    · exact e6
    · exact e7
    · exact e8
    · exact e9
    · exact e10
    · exact e11
    · exact e12
    · exact e13
    · exact e14
    · exact e15
  have G43 : xV h25 (Z 43) (bp_u1 (bp_u1 (bp_u1 (bp_u1 (bp_u1 (bp_u1 (bp_u1 (bp_u1 (fun _ => none) 0 (some (Z 42))) 1 (some (Z 40))) 2 (some (Z 38))) 3 (some (Z 30))) 4 (some (Z 22))) 5 (some (Z 3))) 6 (some (Z 2))) 7 (some (Z 0))) := by rw [e0, e2, e3, e22, e30, e38, e40, e42, e43]; exact F25_0
  have G42 : oF h25 (Z 42) 7 (bp_u1 (fun _ => none) 0 (some (Z 41))) := by rw [e41, e42]; exact F25_1
  have G41 : aF h25 (Z 41) 1 400 := by rw [e41]; exact F25_2
  have G40 : oF h25 (Z 40) 7 (bp_u1 (fun _ => none) 0 (some (Z 39))) := by rw [e39, e40]; exact F25_3
  have G39 : aF h25 (Z 39) 1 64 := by rw [e39]; exact F25_4
  have G38 : oF h25 (Z 38) 8 (bp_u1 (bp_u1 (bp_u1 (bp_u1 (bp_u1 (fun _ => none) 0 (some (Z 37))) 1 (some (Z 36))) 2 (some (Z 35))) 3 (some (Z 34))) 4 (some (Z 32))) := by rw [e32, e34, e35, e36, e37, e38]; exact F25_5
  have G37 : aF h25 (Z 37) 1 16 := by rw [e37]; exact F25_6
  have G36 : aF h25 (Z 36) 1 16 := by rw [e36]; exact F25_7
  have G35 : aF h25 (Z 35) 1 16 := by rw [e35]; exact F25_8
  have G34 : oF h25 (Z 34) 7 (bp_u1 (fun _ => none) 0 (some (Z 33))) := by rw [e33, e34]; exact F25_9
  have G33 : aF h25 (Z 33) 1 400 := by rw [e33]; exact F25_10
  have G32 : oF h25 (Z 32) 7 (bp_u1 (fun _ => none) 0 (some (Z 31))) := by rw [e31, e32]; exact F25_11
  have G31 : aF h25 (Z 31) 1 400 := by rw [e31]; exact F25_12
  have G30 : oF h25 (Z 30) 8 (bp_u1 (bp_u1 (bp_u1 (bp_u1 (bp_u1 (fun _ => none) 0 (some (Z 29))) 1 (some (Z 28))) 2 (some (Z 27))) 3 (some (Z 26))) 4 (some (Z 24))) := by rw [e24, e26, e27, e28, e29, e30]; exact F25_13
  have G29 : aF h25 (Z 29) 1 16 := by rw [e29]; exact F25_14
  have G28 : aF h25 (Z 28) 1 16 := by rw [e28]; exact F25_15
  have G27 : aF h25 (Z 27) 1 16 := by rw [e27]; exact F25_16
  have G26 : oF h25 (Z 26) 7 (bp_u1 (fun _ => none) 0 (some (Z 25))) := by rw [e25, e26]; exact F25_17
  have G25 : aF h25 (Z 25) 1 400 := by rw [e25]; exact F25_18
  have G24 : oF h25 (Z 24) 7 (bp_u1 (fun _ => none) 0 (some (Z 23))) := by rw [e23, e24]; exact F25_19
  have G23 : aF h25 (Z 23) 1 400 := by rw [e23]; exact F25_20
  have G22 : oF h25 (Z 22) 9 (bp_u1 (bp_u1 (bp_u1 (bp_u1 (bp_u1 (fun _ => none) 11 (some (Z 42))) 12 (some (Z 30))) 0 (some (Z 21))) 1 (some (Z 20))) 2 (some (Z 19))) := by rw [e19, e20, e21, e22, e30, e42]; exact F25_21
  have G21 : oF h25 (Z 21) 10 (fun _ => none) := by rw [e21]; exact F25_22
  have G20 : qF h25 (Z 20) 12 N66 := by rw [e20]; exact F25_23
  have G19 : oF h25 (Z 19) 11 (bp_u1 (bp_u1 (fun _ => none) 0 (some (Z 18))) 1 (some (Z 17))) := by rw [e17, e18, e19]; exact F25_24
  have G18 : aF h25 (Z 18) 1 8 := by rw [e18]; exact F25_25
  have G17 : oF h25 (Z 17) 7 (bp_u1 (fun _ => none) 0 (some (Z 16))) := by rw [e16, e17]; exact F25_26
  have G16 : aF h25 (Z 16) 1 16 := by rw [e16]; exact F25_27
  have G3 : oF h25 (Z 3) 12 (bp_u1 (bp_u1 (fun _ => none) 10 (some (Z 42))) 11 (some (Z 30))) := by rw [e3, e30, e42]; exact F25_29
  have G2 : oF h25 (Z 2) 13 (bp_u1 (bp_u1 (bp_u1 (fun _ => none) 1 (some (Z 38))) 2 (some (Z 40))) 0 (some (Z 1))) := by rw [e1, e2, e38, e40]; exact F25_30
  have G1 : aF h25 (Z 1) 1 8 := by rw [e1]; exact F25_31
  have G0 : oF h25 (Z 0) 14 (bp_u1 (bp_u1 (fun _ => none) 0 (some (Z 38))) 1 (some (Z 40))) := by rw [e0, e38, e40]; exact F25_32
  have PG : Pg h25 (zP Z) [] [] := pg_0 G38 G37 G36 G35 G34 G33 G32 G31 (fun i j hi hj e => by have := hZ (38 - i) (38 - j) (by omega) (by omega) e; omega)
  have DG : Pg h25 (zD Z) [] [] := pg_0 G30 G29 G28 G27 G26 G25 G24 G23 (fun i j hi hj e => by have := hZ (30 - i) (30 - j) (by omega) (by omega) e; omega)
  have BRg : xBR Z h25 (Z 16) [] := by
    refine ⟨⟨G22.1, (G22.2.2 0).trans rfl, (G22.2.2 1).trans rfl, (G22.2.2 2).trans rfl, (G22.2.2 11).trans rfl, (G22.2.2 12).trans rfl⟩, ⟨0, 0, 0, 0, false, false, false, fun _ => 0, [], [], 0, 0, 0, 0, ⟨(G22.2.1 3).trans rfl, (G22.2.1 4).trans rfl, (G22.2.1 5).trans rfl, (G22.2.1 6).trans rfl, (G22.2.1 7).trans rfl, (G22.2.1 8).trans rfl, (G22.2.1 9).trans rfl, (G22.2.1 10).trans rfl, (G22.2.1 13).trans rfl, (G22.2.1 14).trans rfl, (G22.2.1 15).trans rfl, (G22.2.1 16).trans rfl⟩, ⟨G21.1, fun j hj => (G21.2.1 j).trans rfl⟩, ⟨G20.1, G20.2.1, fun k hk => ?_, by decide, fun k hk => absurd hk (Nat.not_lt_zero k)⟩, ⟨G19.1, (G19.2.2 0).trans rfl, (G19.2.2 1).trans rfl, (G19.2.1 2).trans rfl, G18.1, G18.2.1, by decide, fun j hj => absurd hj (Nat.not_lt_zero j)⟩⟩, rw_0 G17 G16 (by decide), by decide, fun x hx => absurd hx List.not_mem_nil⟩
    show bp_R h25 (Z 20) k = some (Z (aIx (8 + k))) ∧ bp_K h25 (Z (aIx (8 + k))) = 10
    rw [aIx8, hN k hk]
    exact ⟨G20.2.2 k hk, (F25_28 k hk).1⟩
  have TRg : xTR Z h25 := ⟨⟨G3.1, (G3.2.2 10).trans rfl, (G3.2.2 11).trans rfl⟩, 0, 0, 0, false, 0, 0, false, false, 0, 0, 0, 0, 0, 0, ⟨(G3.2.1 0).trans rfl, (G3.2.1 1).trans rfl, (G3.2.1 2).trans rfl, (G3.2.1 3).trans rfl, (G3.2.1 4).trans rfl, (G3.2.1 5).trans rfl, (G3.2.1 6).trans rfl, (G3.2.1 7).trans rfl, (G3.2.1 8).trans rfl, (G3.2.1 9).trans rfl, (G3.2.1 12).trans rfl, (G3.2.1 13).trans rfl, (G3.2.1 14).trans rfl, (G3.2.1 15).trans rfl⟩, by decide⟩
  have BWg : xBW Z h25 (fun _ => 0) := ⟨G2.1, (G2.2.2 0).trans rfl, (G2.2.2 1).trans rfl, (G2.2.2 2).trans rfl, G1.1, G1.2.1, fun j hj => (G1.2.2.1 j).trans rfl⟩
  have TWg : xTW Z h25 := ⟨G0.1, (G0.2.2 0).trans rfl, (G0.2.2 1).trans rfl⟩
  have XOg : xO Z h25 (-1) := ⟨G43.1, (G43.2.2 0).trans rfl, (G43.2.2 1).trans rfl, (G43.2.2 2).trans rfl, (G43.2.2 3).trans rfl, (G43.2.2 4).trans rfl, (G43.2.2 5).trans rfl, (G43.2.2 6).trans rfl, (G43.2.2 7).trans rfl, G43.2.1⟩
  refine hQ _ Z e43 ⟨⟨hZ, fun i hi hn _ e => hn (hZ 39 i (by decide) hi e).symm, fun i hi _ hn e => hn (hZ 16 i (by decide) hi e).symm, fun e => absurd (hZ 39 16 (by decide) (by decide) e) (by decide)⟩, XOg, rw_0 G42 G41 (by decide), G41.2.1, rw_0 G40 G39 (by decide), PG, ⟨[], [], DG⟩, ⟨[], BRg⟩, TRg, ⟨_, BWg⟩, TWg, ?_, fun b hb => hb.elim⟩ g25
  have q1 := G39.2.1
  have q2 := G16.2.1
  unfold xRm
  rw [q1, q2]
  omega
end XINIT
