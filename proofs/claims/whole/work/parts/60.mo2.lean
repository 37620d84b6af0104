/-! the reference: heads and letters of what it writes -/
theorem cm_20 : ∀ a, a < 91 → ∀ b, b < 91 → (nI (91 * a + b) &&& 1 = 0 ↔ (91 * a + b) % 2 = 0) ∧ (nI (91 * a + b) &&& 2 = 0 ↔ (91 * a + b) / 2 % 2 = 0) ∧ (nI (91 * a + b) &&& 4 = 0 ↔ (91 * a + b) / 4 % 2 = 0) ∧ nI (91 * a + b) / 8 - nI (91 * a + b) / 8 / 128 * 128 = nI ((91 * a + b) / 8 % 128) := by decide +kernel
theorem cm_2 (n : Nat) (h : n < 8192) : (nI n &&& 1 = 0 ↔ n % 2 = 0) ∧ (nI n &&& 2 = 0 ↔ n / 2 % 2 = 0) ∧ (nI n &&& 4 = 0 ↔ n / 4 % 2 = 0) ∧ nI n / 8 - nI n / 8 / 128 * 128 = nI (n / 8 % 128) := by
  have e : 91 * (n / 91) + n % 91 = n := Nat.div_add_mod n 91
  have := cm_20 (n / 91) (by omega) (n % 91) (by omega)
  rw [e] at this
  exact this
theorem cm_sb {k : Nat} (h : k < 6400) : (nI (cmL k) &&& 1 = 0 ↔ sb (k % 8) 1 = false) ∧ (nI (cmL k) &&& 2 = 0 ↔ sb (k % 8) 2 = false) ∧ (nI (cmL k) &&& 4 = 0 ↔ sb (k % 8) 4 = false) ∧ nI (cmL k) / 8 - nI (cmL k) / 8 / 128 * 128 = nI (k / 64) ∧ nI (cmL k) / 1024 = nI (k / 8 % 8) ∧ (nI (cmL k) < 1024 ↔ k / 8 % 8 = 0) ∧ (nI (cmL k) = 96 ↔ (k % 8 = 0 ∧ k / 64 = 12 ∧ k / 8 % 8 = 0)) := by
  have d := cm_d k h
  have q := cm_2 (cmL k) d.1
  unfold sb
  refine ⟨q.1.trans ?_, q.2.1.trans ?_, q.2.2.1.trans ?_, by rw [q.2.2.2, d.2.2.2], by rw [cm_1 _ d.1, d.2.1], (nI_lt_iff (b := 1024) (by omega) (by decide)).trans ?_, (nI_eq_iff (b := 96) (by omega) (by decide)).trans ?_⟩
  · rw [decide_eq_false_iff_not]; omega
  · rw [decide_eq_false_iff_not]; omega
  · rw [decide_eq_false_iff_not]; omega
  · omega
  · omega
theorem sb_t {m b : Nat} (h : ¬ sb m b = false) : sb m b = true := by simpa using h
section MO2
variable {l : Launch} {G : bp_G} {H0 : Heap} {M : Nat → Nat} {h0 h : bp_H} {tw : Int32} {i : Nat} {fa : Int32} {fm : Int32} {tl : Int32} {lk : Nat} {al : Nat} {ind : Nat} {sk : Nat} {dp : Nat} {lv : Nat} {fr : Bool} {en : Nat} {nf : Nat} {nn : Nat} {dg : Nat} {nu : Int32} {kd : Nat} {pn : Int32} {pe : Nat} {T : List Nat} {xs : List Nat} {L : List (Nat × Nat)} {ps : List (Nat × Nat × Nat)} {L1 : List (Nat × Nat)} {p1 : List (Nat × Nat × Nat)} {nt : List (Nat → Nat)} {tb : List Nat} {fd : List Nat} {c s : Nat} {Q : Option Value → bp_H → Nat → Nat → Prop}
variable {k : Nat}
set_option maxRecDepth 100000 in
set_option maxHeartbeats 4000000 in
theorem tl_putTags_4 {ys : List Nat} {v2 : Option Value} (hk : k < 6400) (hB0 : MoX M h0 h tw i fa fm tl lk al ind sk dp lv fr en nf nn dg nu kd pn pe T ys L ps L1 p1 nt tb fd) (hl : ys.length + 12 ≤ 18200) (hQ : ∀ h', MoX M h0 h' tw i fa fm tl lk al ind sk dp lv fr en nf nn dg nu kd pn pe T ((ys ++ (if k / 8 % 8 = 0 then [] else [60, 99, 32] ++ (nd (k / 8 % 8) ++ [62])))) L ps L1 p1 nt tb fd → Q none h' c s) : bp_A l G H0 (2, 45, false, false) M_Mo_putTags h c s 84 [some (.ref (M 0)), some (.int (nI (cmL k))), v2] [] (fun o h' c' s' => ∃ v, o = .returned v ∧ Q v h' c' s') := by
  have n1 := nd_len (k / 64)
  have n2 := nd_len (k / 8 % 8)
  refine bp_iload_n (q := 85) 45 rfl rfl rfl rfl ?_
  refine bp_sipush (v := 1024) (q := 88) 46 rfl rfl (by decide) ?_
  refine bp_icmp_lt (q := 91) (tgt := 113) 47 rfl rfl (by decide) (fun z88 => ?_) (fun z88 => ?_)
  · refine bp_vret 59 rfl rfl  ⟨_, rfl, ?_⟩
    have y88 : k / 8 % 8 = 0 := (cm_sb hk).2.2.2.2.2.1.mp z88
    have e_ : ys = ys ++ (if k / 8 % 8 = 0 then [] else [60, 99, 32] ++ (nd (k / 8 % 8) ++ [62])) := by simp [y88]
    rw [e_] at hB0
    exact hQ _ hB0
  · refine bp_aload_n (q := 92) 48 rfl rfl rfl rfl ?_
    refine bp_ldc2 (q := 95) 49 rfl rfl wd1600 ?_
    refine bp_callV (q := 98) (ci := 9) 50 rfl rfl cw_Mo_putText lk_Mo_345 rfl hB0.kb wd1647 wd76 rfl rfl (Nat.le_of_ble_eq_true rfl) ⟨Nat.le_of_ble_eq_true rfl, Nat.le_of_ble_eq_true rfl⟩ (s_Mo_putText hB0 lt_312 (by (try simp only [List.length_append, List.length_cons, List.length_nil]); omega) (fun h1 hB1 => ?_))
    refine bp_aload_n (q := 99) 51 rfl rfl rfl rfl ?_
    refine bp_iload_n (q := 100) 52 rfl rfl rfl rfl ?_
    refine bp_sipush (v := 1024) (q := 103) 53 rfl rfl (by decide) ?_
    refine bp_idiv (q := 104) 54 rfl rfl (by decide) ?_
    rw [(cm_sb hk).2.2.2.2.1]
    refine bp_callV (q := 107) (ci := 9) 55 rfl rfl cw_Mo_putNumber lk_Mo_355 rfl hB1.kb wd1659 wd77 rfl rfl (Nat.le_of_ble_eq_true rfl) ⟨Nat.le_of_ble_eq_true rfl, Nat.le_of_ble_eq_true rfl⟩ (s_Mo_putNumber (n := k / 8 % 8) hB1 (by omega) (by (try simp only [List.length_append, List.length_cons, List.length_nil]); omega) (fun h2 hB2 => ?_))
    refine bp_aload_n (q := 108) 56 rfl rfl rfl rfl ?_
    refine bp_bipush (v := 62) (q := 110) 57 rfl rfl (by decide) ?_
    refine bp_callV (q := 113) (ci := 9) 58 rfl rfl cw_Mo_put lk_Mo_332 rfl hB2.kb wd1635 wd73 rfl rfl (Nat.le_of_ble_eq_true rfl) ⟨Nat.le_of_ble_eq_true rfl, Nat.le_of_ble_eq_true rfl⟩ (s_Mo_put (v := 62) hB2 (by omega) (by (try simp only [List.length_append, List.length_cons, List.length_nil]); omega) (fun h3 hB3 => ?_))
    refine bp_vret 59 rfl rfl  ⟨_, rfl, ?_⟩
    have y88 : ¬ k / 8 % 8 = 0 := mt (cm_sb hk).2.2.2.2.2.1.mpr z88
    have e_ : ys ++ [60, 99, 32] ++ nd (k / 8 % 8) ++ [62] = ys ++ (if k / 8 % 8 = 0 then [] else [60, 99, 32] ++ (nd (k / 8 % 8) ++ [62])) := by simp [y88]
    rw [e_] at hB3
    exact hQ _ hB3
set_option maxRecDepth 100000 in
set_option maxHeartbeats 4000000 in
theorem tl_putTags_3 {ys : List Nat} {v2 : Option Value} (hk : k < 6400) (hB0 : MoX M h0 h tw i fa fm tl lk al ind sk dp lv fr en nf nn dg nu kd pn pe T ys L ps L1 p1 nt tb fd) (hl : ys.length + 25 ≤ 18200) (hQ : ∀ h', MoX M h0 h' tw i fa fm tl lk al ind sk dp lv fr en nf nn dg nu kd pn pe T ((ys ++ ((if k / 64 = 12 then [] else [60, 115, 32] ++ (nd (k / 64) ++ [62])) ++ ((if k / 8 % 8 = 0 then [] else [60, 99, 32] ++ (nd (k / 8 % 8) ++ [62])))))) L ps L1 p1 nt tb fd → Q none h' c s) : bp_A l G H0 (2, 45, false, false) M_Mo_putTags h c s 51 [some (.ref (M 0)), some (.int (nI (cmL k))), v2] [] (fun o h' c' s' => ∃ v, o = .returned v ∧ Q v h' c' s') := by
  have n1 := nd_len (k / 64)
  have n2 := nd_len (k / 8 % 8)
  refine bp_iload_n (q := 52) 27 rfl rfl rfl rfl ?_
  refine bp_bipush (v := 8) (q := 54) 28 rfl rfl (by decide) ?_
  refine bp_idiv (q := 55) 29 rfl rfl (by decide) ?_
  refine bp_sipush (v := 128) (q := 58) 30 rfl rfl (by decide) ?_
  refine bp_irem (q := 59) 31 rfl rfl (by decide) ?_
  rw [(cm_sb hk).2.2.2.1]
  refine bp_istore_n (q := 60) 32 rfl rfl rfl (by decide) (bp_up2 rfl) ?_
  refine bp_iload_n (q := 61) 33 rfl rfl rfl rfl ?_
  refine bp_bipush (v := 12) (q := 63) 34 rfl rfl (by decide) ?_
  refine bp_icmp_eq (q := 66) (tgt := 84) 35 rfl rfl (by decide) (fun z63 => ?_) (fun z63 => ?_)
  · have y63 : k / 64 = 12 := (nI_eq_iff (b := 12) (by omega) (by decide)).mp z63
    have e_ : ys = ys ++ (if k / 64 = 12 then [] else [60, 115, 32] ++ (nd (k / 64) ++ [62])) := by simp [y63]
    rw [e_] at hB0
    refine tl_putTags_4 hk hB0  (by have h1 := nd_len (k / 64); have h2 := nd_len (k / 8 % 8); rw [List.length_append]; split <;> (try simp) <;> omega) ?_
    rw [List.append_assoc]
    exact hQ
  · refine bp_aload_n (q := 67) 36 rfl rfl rfl rfl ?_
    refine bp_ldc2 (q := 70) 37 rfl rfl wd1595 ?_
    refine bp_callV (q := 73) (ci := 9) 38 rfl rfl cw_Mo_putText lk_Mo_345 rfl hB0.kb wd1647 wd76 rfl rfl (Nat.le_of_ble_eq_true rfl) ⟨Nat.le_of_ble_eq_true rfl, Nat.le_of_ble_eq_true rfl⟩ (s_Mo_putText hB0 lt_310 (by (try simp only [List.length_append, List.length_cons, List.length_nil]); omega) (fun h1 hB1 => ?_))
    refine bp_aload_n (q := 74) 39 rfl rfl rfl rfl ?_
    refine bp_iload_n (q := 75) 40 rfl rfl rfl rfl ?_
    refine bp_callV (q := 78) (ci := 9) 41 rfl rfl cw_Mo_putNumber lk_Mo_355 rfl hB1.kb wd1659 wd77 rfl rfl (Nat.le_of_ble_eq_true rfl) ⟨Nat.le_of_ble_eq_true rfl, Nat.le_of_ble_eq_true rfl⟩ (s_Mo_putNumber (n := k / 64) hB1 (by omega) (by (try simp only [List.length_append, List.length_cons, List.length_nil]); omega) (fun h2 hB2 => ?_))
    refine bp_aload_n (q := 79) 42 rfl rfl rfl rfl ?_
    refine bp_bipush (v := 62) (q := 81) 43 rfl rfl (by decide) ?_
    refine bp_callV (q := 84) (ci := 9) 44 rfl rfl cw_Mo_put lk_Mo_332 rfl hB2.kb wd1635 wd73 rfl rfl (Nat.le_of_ble_eq_true rfl) ⟨Nat.le_of_ble_eq_true rfl, Nat.le_of_ble_eq_true rfl⟩ (s_Mo_put (v := 62) hB2 (by omega) (by (try simp only [List.length_append, List.length_cons, List.length_nil]); omega) (fun h3 hB3 => ?_))
    have y63 : ¬ k / 64 = 12 := fun q => z63 (by rw [q]; rfl)
    have e_ : ys ++ [60, 115, 32] ++ nd (k / 64) ++ [62] = ys ++ (if k / 64 = 12 then [] else [60, 115, 32] ++ (nd (k / 64) ++ [62])) := by simp [y63]
    rw [e_] at hB3
    refine tl_putTags_4 hk hB3  (by have h1 := nd_len (k / 64); have h2 := nd_len (k / 8 % 8); rw [List.length_append]; split <;> (try simp) <;> omega) ?_
    rw [List.append_assoc]
    exact hQ
set_option maxRecDepth 100000 in
set_option maxHeartbeats 4000000 in
theorem tl_putTags_2 {ys : List Nat} {v2 : Option Value} (hk : k < 6400) (hB0 : MoX M h0 h tw i fa fm tl lk al ind sk dp lv fr en nf nn dg nu kd pn pe T ys L ps L1 p1 nt tb fd) (hl : ys.length + 30 ≤ 18200) (hQ : ∀ h', MoX M h0 h' tw i fa fm tl lk al ind sk dp lv fr en nf nn dg nu kd pn pe T ((ys ++ ((if sb (k % 8) 4 then [60, 117, 62] else []) ++ ((if k / 64 = 12 then [] else [60, 115, 32] ++ (nd (k / 64) ++ [62])) ++ ((if k / 8 % 8 = 0 then [] else [60, 99, 32] ++ (nd (k / 8 % 8) ++ [62]))))))) L ps L1 p1 nt tb fd → Q none h' c s) : bp_A l G H0 (2, 45, false, false) M_Mo_putTags h c s 34 [some (.ref (M 0)), some (.int (nI (cmL k))), v2] [] (fun o h' c' s' => ∃ v, o = .returned v ∧ Q v h' c' s') := by
  have n1 := nd_len (k / 64)
  have n2 := nd_len (k / 8 % 8)
  refine bp_aload_n (q := 35) 18 rfl rfl rfl rfl ?_
  refine bp_iload_n (q := 36) 19 rfl rfl rfl rfl ?_
  refine bp_iconst (v := 4) (q := 37) 20 rfl rfl (by decide) ?_
  refine bp_iand (q := 38) 21 rfl rfl ?_
  refine bp_if_eq (q := 41) (tgt := 47) 22 rfl rfl (by decide) (fun z38 => ?_) (fun z38 => ?_)
  · refine bp_lconst (v := 0) (q := 48) 25 rfl rfl (by decide) ?_
    refine bp_callV (q := 51) (ci := 9) 26 rfl rfl cw_Mo_putText lk_Mo_345 rfl hB0.kb wd1647 wd76 rfl rfl (Nat.le_of_ble_eq_true rfl) ⟨Nat.le_of_ble_eq_true rfl, Nat.le_of_ble_eq_true rfl⟩ (s_Mo_putText hB0 ltx_0 (by (try simp only [List.length_append, List.length_cons, List.length_nil]); omega) (fun h1 hB1 => ?_))
    have y38 : sb (k % 8) 4 = false := (cm_sb hk).2.2.1.mp z38
    have e_ : ys ++ [] = ys ++ (if sb (k % 8) 4 then [60, 117, 62] else []) := by simp [y38]
    rw [e_] at hB1
    refine tl_putTags_3 hk hB1  (by have h1 := nd_len (k / 64); have h2 := nd_len (k / 8 % 8); rw [List.length_append]; split <;> (try simp) <;> omega) ?_
    rw [List.append_assoc]
    exact hQ
  · refine bp_ldc2 (q := 44) 23 rfl rfl wd1588 ?_
    refine bp_goto (tgt := 48) 24 rfl (by decide) ?_
    refine bp_callV (q := 51) (ci := 9) 26 rfl rfl cw_Mo_putText lk_Mo_345 rfl hB0.kb wd1647 wd76 rfl rfl (Nat.le_of_ble_eq_true rfl) ⟨Nat.le_of_ble_eq_true rfl, Nat.le_of_ble_eq_true rfl⟩ (s_Mo_putText hB0 lt_296 (by (try simp only [List.length_append, List.length_cons, List.length_nil]); omega) (fun h1 hB1 => ?_))
    have y38 : sb (k % 8) 4 = true := sb_t (mt (cm_sb hk).2.2.1.mpr z38)
    have e_ : ys ++ [60, 117, 62] = ys ++ (if sb (k % 8) 4 then [60, 117, 62] else []) := by simp [y38]
    rw [e_] at hB1
    refine tl_putTags_3 hk hB1  (by have h1 := nd_len (k / 64); have h2 := nd_len (k / 8 % 8); rw [List.length_append]; split <;> (try simp) <;> omega) ?_
    rw [List.append_assoc]
    exact hQ
set_option maxRecDepth 100000 in
set_option maxHeartbeats 4000000 in
theorem tl_putTags_1 {ys : List Nat} {v2 : Option Value} (hk : k < 6400) (hB0 : MoX M h0 h tw i fa fm tl lk al ind sk dp lv fr en nf nn dg nu kd pn pe T ys L ps L1 p1 nt tb fd) (hl : ys.length + 35 ≤ 18200) (hQ : ∀ h', MoX M h0 h' tw i fa fm tl lk al ind sk dp lv fr en nf nn dg nu kd pn pe T ((ys ++ ((if sb (k % 8) 2 then [60, 105, 62] else []) ++ ((if sb (k % 8) 4 then [60, 117, 62] else []) ++ ((if k / 64 = 12 then [] else [60, 115, 32] ++ (nd (k / 64) ++ [62])) ++ ((if k / 8 % 8 = 0 then [] else [60, 99, 32] ++ (nd (k / 8 % 8) ++ [62])))))))) L ps L1 p1 nt tb fd → Q none h' c s) : bp_A l G H0 (2, 45, false, false) M_Mo_putTags h c s 17 [some (.ref (M 0)), some (.int (nI (cmL k))), v2] [] (fun o h' c' s' => ∃ v, o = .returned v ∧ Q v h' c' s') := by
  have n1 := nd_len (k / 64)
  have n2 := nd_len (k / 8 % 8)
  refine bp_aload_n (q := 18) 9 rfl rfl rfl rfl ?_
  refine bp_iload_n (q := 19) 10 rfl rfl rfl rfl ?_
  refine bp_iconst (v := 2) (q := 20) 11 rfl rfl (by decide) ?_
  refine bp_iand (q := 21) 12 rfl rfl ?_
  refine bp_if_eq (q := 24) (tgt := 30) 13 rfl rfl (by decide) (fun z21 => ?_) (fun z21 => ?_)
  · refine bp_lconst (v := 0) (q := 31) 16 rfl rfl (by decide) ?_
    refine bp_callV (q := 34) (ci := 9) 17 rfl rfl cw_Mo_putText lk_Mo_345 rfl hB0.kb wd1647 wd76 rfl rfl (Nat.le_of_ble_eq_true rfl) ⟨Nat.le_of_ble_eq_true rfl, Nat.le_of_ble_eq_true rfl⟩ (s_Mo_putText hB0 ltx_0 (by (try simp only [List.length_append, List.length_cons, List.length_nil]); omega) (fun h1 hB1 => ?_))
    have y21 : sb (k % 8) 2 = false := (cm_sb hk).2.1.mp z21
    have e_ : ys ++ [] = ys ++ (if sb (k % 8) 2 then [60, 105, 62] else []) := by simp [y21]
    rw [e_] at hB1
    refine tl_putTags_2 hk hB1  (by have h1 := nd_len (k / 64); have h2 := nd_len (k / 8 % 8); rw [List.length_append]; split <;> (try simp) <;> omega) ?_
    rw [List.append_assoc]
    exact hQ
  · refine bp_ldc2 (q := 27) 14 rfl rfl wd1587 ?_
    refine bp_goto (tgt := 31) 15 rfl (by decide) ?_
    refine bp_callV (q := 34) (ci := 9) 17 rfl rfl cw_Mo_putText lk_Mo_345 rfl hB0.kb wd1647 wd76 rfl rfl (Nat.le_of_ble_eq_true rfl) ⟨Nat.le_of_ble_eq_true rfl, Nat.le_of_ble_eq_true rfl⟩ (s_Mo_putText hB0 lt_294 (by (try simp only [List.length_append, List.length_cons, List.length_nil]); omega) (fun h1 hB1 => ?_))
    have y21 : sb (k % 8) 2 = true := sb_t (mt (cm_sb hk).2.1.mpr z21)
    have e_ : ys ++ [60, 105, 62] = ys ++ (if sb (k % 8) 2 then [60, 105, 62] else []) := by simp [y21]
    rw [e_] at hB1
    refine tl_putTags_2 hk hB1  (by have h1 := nd_len (k / 64); have h2 := nd_len (k / 8 % 8); rw [List.length_append]; split <;> (try simp) <;> omega) ?_
    rw [List.append_assoc]
    exact hQ
set_option maxRecDepth 100000 in
set_option maxHeartbeats 4000000 in
theorem tl_putTags_0 {ys : List Nat} {v2 : Option Value} (hk : k < 6400) (hB0 : MoX M h0 h tw i fa fm tl lk al ind sk dp lv fr en nf nn dg nu kd pn pe T ys L ps L1 p1 nt tb fd) (hl : ys.length + 40 ≤ 18200) (hQ : ∀ h', MoX M h0 h' tw i fa fm tl lk al ind sk dp lv fr en nf nn dg nu kd pn pe T ((ys ++ ((if sb (k % 8) 1 then [60, 98, 62] else []) ++ ((if sb (k % 8) 2 then [60, 105, 62] else []) ++ ((if sb (k % 8) 4 then [60, 117, 62] else []) ++ ((if k / 64 = 12 then [] else [60, 115, 32] ++ (nd (k / 64) ++ [62])) ++ ((if k / 8 % 8 = 0 then [] else [60, 99, 32] ++ (nd (k / 8 % 8) ++ [62]))))))))) L ps L1 p1 nt tb fd → Q none h' c s) : bp_A l G H0 (2, 45, false, false) M_Mo_putTags h c s 0 [some (.ref (M 0)), some (.int (nI (cmL k))), v2] [] (fun o h' c' s' => ∃ v, o = .returned v ∧ Q v h' c' s') := by
  have n1 := nd_len (k / 64)
  have n2 := nd_len (k / 8 % 8)
  refine bp_aload_n (q := 1) 0 rfl rfl rfl rfl ?_
  refine bp_iload_n (q := 2) 1 rfl rfl rfl rfl ?_
  refine bp_iconst (v := 1) (q := 3) 2 rfl rfl (by decide) ?_
  refine bp_iand (q := 4) 3 rfl rfl ?_
  refine bp_if_eq (q := 7) (tgt := 13) 4 rfl rfl (by decide) (fun z4 => ?_) (fun z4 => ?_)
  · refine bp_lconst (v := 0) (q := 14) 7 rfl rfl (by decide) ?_
    refine bp_callV (q := 17) (ci := 9) 8 rfl rfl cw_Mo_putText lk_Mo_345 rfl hB0.kb wd1647 wd76 rfl rfl (Nat.le_of_ble_eq_true rfl) ⟨Nat.le_of_ble_eq_true rfl, Nat.le_of_ble_eq_true rfl⟩ (s_Mo_putText hB0 ltx_0 (by (try simp only [List.length_append, List.length_cons, List.length_nil]); omega) (fun h1 hB1 => ?_))
    have y4 : sb (k % 8) 1 = false := (cm_sb hk).1.mp z4
    have e_ : ys ++ [] = ys ++ (if sb (k % 8) 1 then [60, 98, 62] else []) := by simp [y4]
    rw [e_] at hB1
    refine tl_putTags_1 hk hB1  (by have h1 := nd_len (k / 64); have h2 := nd_len (k / 8 % 8); rw [List.length_append]; split <;> (try simp) <;> omega) ?_
    rw [List.append_assoc]
    exact hQ
  · refine bp_ldc2 (q := 10) 5 rfl rfl wd1578 ?_
    refine bp_goto (tgt := 14) 6 rfl (by decide) ?_
    refine bp_callV (q := 17) (ci := 9) 8 rfl rfl cw_Mo_putText lk_Mo_345 rfl hB0.kb wd1647 wd76 rfl rfl (Nat.le_of_ble_eq_true rfl) ⟨Nat.le_of_ble_eq_true rfl, Nat.le_of_ble_eq_true rfl⟩ (s_Mo_putText hB0 lt_292 (by (try simp only [List.length_append, List.length_cons, List.length_nil]); omega) (fun h1 hB1 => ?_))
    have y4 : sb (k % 8) 1 = true := sb_t (mt (cm_sb hk).1.mpr z4)
    have e_ : ys ++ [60, 98, 62] = ys ++ (if sb (k % 8) 1 then [60, 98, 62] else []) := by simp [y4]
    rw [e_] at hB1
    refine tl_putTags_1 hk hB1  (by have h1 := nd_len (k / 64); have h2 := nd_len (k / 8 % 8); rw [List.length_append]; split <;> (try simp) <;> omega) ?_
    rw [List.append_assoc]
    exact hQ
set_option maxRecDepth 100000 in
set_option maxHeartbeats 4000000 in
theorem s_Mo_putTags  (hB0 : MoX M h0 h tw i fa fm tl lk al ind sk dp lv fr en nf nn dg nu kd pn pe T xs L ps L1 p1 nt tb fd) (hk : k < 6400) (hl : xs.length + 40 ≤ 18200) (hQ : ∀ h', MoX M h0 h' tw i fa fm tl lk al ind sk dp lv fr en nf nn dg nu kd pn pe T (xs ++ twS k) L ps L1 p1 nt tb fd → Q none h' c s) : bp_AM l G H0 (2, 45, false, false) M_Mo_putTags h c s [.ref (M 0), .int (nI (cmL k))] Q := by
  refine bp_of (ls := [some (.ref (M 0)), some (.int (nI (cmL k))), none]) (by decide) dt_Mo_putTags (Nat.le_of_ble_eq_true rfl) (fun q hq => hq) false ?_
  exact tl_putTags_0 hk hB0 hl hQ
set_option maxRecDepth 100000 in
set_option maxHeartbeats 4000000 in
theorem tl_putEnds_4 {ys : List Nat} (hk : k < 6400) (hB0 : MoX M h0 h tw i fa fm tl lk al ind sk dp lv fr en nf nn dg nu kd pn pe T ys L ps L1 p1 nt tb fd) (hl : ys.length + 12 ≤ 18200) (hQ : ∀ h', MoX M h0 h' tw i fa fm tl lk al ind sk dp lv fr en nf nn dg nu kd pn pe T ((ys ++ (if sb (k % 8) 1 then [60, 47, 98, 62] else []))) L ps L1 p1 nt tb fd → Q none h' c s) : bp_A l G H0 (2, 45, false, false) M_Mo_putEnds h c s 76 [some (.ref (M 0)), some (.int (nI (cmL k)))] [] (fun o h' c' s' => ∃ v, o = .returned v ∧ Q v h' c' s') := by
  have n1 := nd_len (k / 64)
  have n2 := nd_len (k / 8 % 8)
  refine bp_aload_n (q := 77) 38 rfl rfl rfl rfl ?_
  refine bp_iload_n (q := 78) 39 rfl rfl rfl rfl ?_
  refine bp_iconst (v := 1) (q := 79) 40 rfl rfl (by decide) ?_
  refine bp_iand (q := 80) 41 rfl rfl ?_
  refine bp_if_eq (q := 83) (tgt := 89) 42 rfl rfl (by decide) (fun z80 => ?_) (fun z80 => ?_)
  · refine bp_lconst (v := 0) (q := 90) 45 rfl rfl (by decide) ?_
    refine bp_callV (q := 93) (ci := 9) 46 rfl rfl cw_Mo_putText lk_Mo_345 rfl hB0.kb wd1647 wd76 rfl rfl (Nat.le_of_ble_eq_true rfl) ⟨Nat.le_of_ble_eq_true rfl, Nat.le_of_ble_eq_true rfl⟩ (s_Mo_putText hB0 ltx_0 (by (try simp only [List.length_append, List.length_cons, List.length_nil]); omega) (fun h1 hB1 => ?_))
    refine bp_vret 47 rfl rfl  ⟨_, rfl, ?_⟩
    have y80 : sb (k % 8) 1 = false := (cm_sb hk).1.mp z80
    have e_ : ys ++ [] = ys ++ (if sb (k % 8) 1 then [60, 47, 98, 62] else []) := by simp [y80]
    rw [e_] at hB1
    exact hQ _ hB1
  · refine bp_ldc2 (q := 86) 43 rfl rfl wd1589 ?_
    refine bp_goto (tgt := 90) 44 rfl (by decide) ?_
    refine bp_callV (q := 93) (ci := 9) 46 rfl rfl cw_Mo_putText lk_Mo_345 rfl hB0.kb wd1647 wd76 rfl rfl (Nat.le_of_ble_eq_true rfl) ⟨Nat.le_of_ble_eq_true rfl, Nat.le_of_ble_eq_true rfl⟩ (s_Mo_putText hB0 lt_298 (by (try simp only [List.length_append, List.length_cons, List.length_nil]); omega) (fun h1 hB1 => ?_))
    refine bp_vret 47 rfl rfl  ⟨_, rfl, ?_⟩
    have y80 : sb (k % 8) 1 = true := sb_t (mt (cm_sb hk).1.mpr z80)
    have e_ : ys ++ [60, 47, 98, 62] = ys ++ (if sb (k % 8) 1 then [60, 47, 98, 62] else []) := by simp [y80]
    rw [e_] at hB1
    exact hQ _ hB1
set_option maxRecDepth 100000 in
set_option maxHeartbeats 4000000 in
theorem tl_putEnds_3 {ys : List Nat} (hk : k < 6400) (hB0 : MoX M h0 h tw i fa fm tl lk al ind sk dp lv fr en nf nn dg nu kd pn pe T ys L ps L1 p1 nt tb fd) (hl : ys.length + 25 ≤ 18200) (hQ : ∀ h', MoX M h0 h' tw i fa fm tl lk al ind sk dp lv fr en nf nn dg nu kd pn pe T ((ys ++ ((if sb (k % 8) 2 then [60, 47, 105, 62] else []) ++ ((if sb (k % 8) 1 then [60, 47, 98, 62] else []))))) L ps L1 p1 nt tb fd → Q none h' c s) : bp_A l G H0 (2, 45, false, false) M_Mo_putEnds h c s 59 [some (.ref (M 0)), some (.int (nI (cmL k)))] [] (fun o h' c' s' => ∃ v, o = .returned v ∧ Q v h' c' s') := by
  have n1 := nd_len (k / 64)
  have n2 := nd_len (k / 8 % 8)
  refine bp_aload_n (q := 60) 29 rfl rfl rfl rfl ?_
  refine bp_iload_n (q := 61) 30 rfl rfl rfl rfl ?_
  refine bp_iconst (v := 2) (q := 62) 31 rfl rfl (by decide) ?_
  refine bp_iand (q := 63) 32 rfl rfl ?_
  refine bp_if_eq (q := 66) (tgt := 72) 33 rfl rfl (by decide) (fun z63 => ?_) (fun z63 => ?_)
  · refine bp_lconst (v := 0) (q := 73) 36 rfl rfl (by decide) ?_
    refine bp_callV (q := 76) (ci := 9) 37 rfl rfl cw_Mo_putText lk_Mo_345 rfl hB0.kb wd1647 wd76 rfl rfl (Nat.le_of_ble_eq_true rfl) ⟨Nat.le_of_ble_eq_true rfl, Nat.le_of_ble_eq_true rfl⟩ (s_Mo_putText hB0 ltx_0 (by (try simp only [List.length_append, List.length_cons, List.length_nil]); omega) (fun h1 hB1 => ?_))
    have y63 : sb (k % 8) 2 = false := (cm_sb hk).2.1.mp z63
    have e_ : ys ++ [] = ys ++ (if sb (k % 8) 2 then [60, 47, 105, 62] else []) := by simp [y63]
    rw [e_] at hB1
    refine tl_putEnds_4 hk hB1  (by have h1 := nd_len (k / 64); have h2 := nd_len (k / 8 % 8); rw [List.length_append]; split <;> (try simp) <;> omega) ?_
    rw [List.append_assoc]
    exact hQ
  · refine bp_ldc2 (q := 69) 34 rfl rfl wd1590 ?_
    refine bp_goto (tgt := 73) 35 rfl (by decide) ?_
    refine bp_callV (q := 76) (ci := 9) 37 rfl rfl cw_Mo_putText lk_Mo_345 rfl hB0.kb wd1647 wd76 rfl rfl (Nat.le_of_ble_eq_true rfl) ⟨Nat.le_of_ble_eq_true rfl, Nat.le_of_ble_eq_true rfl⟩ (s_Mo_putText hB0 lt_300 (by (try simp only [List.length_append, List.length_cons, List.length_nil]); omega) (fun h1 hB1 => ?_))
    have y63 : sb (k % 8) 2 = true := sb_t (mt (cm_sb hk).2.1.mpr z63)
    have e_ : ys ++ [60, 47, 105, 62] = ys ++ (if sb (k % 8) 2 then [60, 47, 105, 62] else []) := by simp [y63]
    rw [e_] at hB1
    refine tl_putEnds_4 hk hB1  (by have h1 := nd_len (k / 64); have h2 := nd_len (k / 8 % 8); rw [List.length_append]; split <;> (try simp) <;> omega) ?_
    rw [List.append_assoc]
    exact hQ
set_option maxRecDepth 100000 in
set_option maxHeartbeats 4000000 in
theorem tl_putEnds_2 {ys : List Nat} (hk : k < 6400) (hB0 : MoX M h0 h tw i fa fm tl lk al ind sk dp lv fr en nf nn dg nu kd pn pe T ys L ps L1 p1 nt tb fd) (hl : ys.length + 30 ≤ 18200) (hQ : ∀ h', MoX M h0 h' tw i fa fm tl lk al ind sk dp lv fr en nf nn dg nu kd pn pe T ((ys ++ ((if sb (k % 8) 4 then [60, 47, 117, 62] else []) ++ ((if sb (k % 8) 2 then [60, 47, 105, 62] else []) ++ ((if sb (k % 8) 1 then [60, 47, 98, 62] else [])))))) L ps L1 p1 nt tb fd → Q none h' c s) : bp_A l G H0 (2, 45, false, false) M_Mo_putEnds h c s 42 [some (.ref (M 0)), some (.int (nI (cmL k)))] [] (fun o h' c' s' => ∃ v, o = .returned v ∧ Q v h' c' s') := by
  have n1 := nd_len (k / 64)
  have n2 := nd_len (k / 8 % 8)
  refine bp_aload_n (q := 43) 20 rfl rfl rfl rfl ?_
  refine bp_iload_n (q := 44) 21 rfl rfl rfl rfl ?_
  refine bp_iconst (v := 4) (q := 45) 22 rfl rfl (by decide) ?_
  refine bp_iand (q := 46) 23 rfl rfl ?_
  refine bp_if_eq (q := 49) (tgt := 55) 24 rfl rfl (by decide) (fun z46 => ?_) (fun z46 => ?_)
  · refine bp_lconst (v := 0) (q := 56) 27 rfl rfl (by decide) ?_
    refine bp_callV (q := 59) (ci := 9) 28 rfl rfl cw_Mo_putText lk_Mo_345 rfl hB0.kb wd1647 wd76 rfl rfl (Nat.le_of_ble_eq_true rfl) ⟨Nat.le_of_ble_eq_true rfl, Nat.le_of_ble_eq_true rfl⟩ (s_Mo_putText hB0 ltx_0 (by (try simp only [List.length_append, List.length_cons, List.length_nil]); omega) (fun h1 hB1 => ?_))
    have y46 : sb (k % 8) 4 = false := (cm_sb hk).2.2.1.mp z46
    have e_ : ys ++ [] = ys ++ (if sb (k % 8) 4 then [60, 47, 117, 62] else []) := by simp [y46]
    rw [e_] at hB1
    refine tl_putEnds_3 hk hB1  (by have h1 := nd_len (k / 64); have h2 := nd_len (k / 8 % 8); rw [List.length_append]; split <;> (try simp) <;> omega) ?_
    rw [List.append_assoc]
    exact hQ
  · refine bp_ldc2 (q := 52) 25 rfl rfl wd1591 ?_
    refine bp_goto (tgt := 56) 26 rfl (by decide) ?_
    refine bp_callV (q := 59) (ci := 9) 28 rfl rfl cw_Mo_putText lk_Mo_345 rfl hB0.kb wd1647 wd76 rfl rfl (Nat.le_of_ble_eq_true rfl) ⟨Nat.le_of_ble_eq_true rfl, Nat.le_of_ble_eq_true rfl⟩ (s_Mo_putText hB0 lt_302 (by (try simp only [List.length_append, List.length_cons, List.length_nil]); omega) (fun h1 hB1 => ?_))
    have y46 : sb (k % 8) 4 = true := sb_t (mt (cm_sb hk).2.2.1.mpr z46)
    have e_ : ys ++ [60, 47, 117, 62] = ys ++ (if sb (k % 8) 4 then [60, 47, 117, 62] else []) := by simp [y46]
    rw [e_] at hB1
    refine tl_putEnds_3 hk hB1  (by have h1 := nd_len (k / 64); have h2 := nd_len (k / 8 % 8); rw [List.length_append]; split <;> (try simp) <;> omega) ?_
    rw [List.append_assoc]
    exact hQ
set_option maxRecDepth 100000 in
set_option maxHeartbeats 4000000 in
theorem tl_putEnds_1 {ys : List Nat} (hk : k < 6400) (hB0 : MoX M h0 h tw i fa fm tl lk al ind sk dp lv fr en nf nn dg nu kd pn pe T ys L ps L1 p1 nt tb fd) (hl : ys.length + 35 ≤ 18200) (hQ : ∀ h', MoX M h0 h' tw i fa fm tl lk al ind sk dp lv fr en nf nn dg nu kd pn pe T ((ys ++ ((if k / 64 = 12 then [] else [60, 47, 115, 62]) ++ ((if sb (k % 8) 4 then [60, 47, 117, 62] else []) ++ ((if sb (k % 8) 2 then [60, 47, 105, 62] else []) ++ ((if sb (k % 8) 1 then [60, 47, 98, 62] else []))))))) L ps L1 p1 nt tb fd → Q none h' c s) : bp_A l G H0 (2, 45, false, false) M_Mo_putEnds h c s 18 [some (.ref (M 0)), some (.int (nI (cmL k)))] [] (fun o h' c' s' => ∃ v, o = .returned v ∧ Q v h' c' s') := by
  have n1 := nd_len (k / 64)
  have n2 := nd_len (k / 8 % 8)
  refine bp_aload_n (q := 19) 8 rfl rfl rfl rfl ?_
  refine bp_iload_n (q := 20) 9 rfl rfl rfl rfl ?_
  refine bp_bipush (v := 8) (q := 22) 10 rfl rfl (by decide) ?_
  refine bp_idiv (q := 23) 11 rfl rfl (by decide) ?_
  refine bp_sipush (v := 128) (q := 26) 12 rfl rfl (by decide) ?_
  refine bp_irem (q := 27) 13 rfl rfl (by decide) ?_
  rw [(cm_sb hk).2.2.2.1]
  refine bp_bipush (v := 12) (q := 29) 14 rfl rfl (by decide) ?_
  refine bp_icmp_eq (q := 32) (tgt := 38) 15 rfl rfl (by decide) (fun z29 => ?_) (fun z29 => ?_)
  · refine bp_lconst (v := 0) (q := 39) 18 rfl rfl (by decide) ?_
    refine bp_callV (q := 42) (ci := 9) 19 rfl rfl cw_Mo_putText lk_Mo_345 rfl hB0.kb wd1647 wd76 rfl rfl (Nat.le_of_ble_eq_true rfl) ⟨Nat.le_of_ble_eq_true rfl, Nat.le_of_ble_eq_true rfl⟩ (s_Mo_putText hB0 ltx_0 (by (try simp only [List.length_append, List.length_cons, List.length_nil]); omega) (fun h1 hB1 => ?_))
    have y29 : k / 64 = 12 := (nI_eq_iff (b := 12) (by omega) (by decide)).mp z29
    have e_ : ys ++ [] = ys ++ (if k / 64 = 12 then [] else [60, 47, 115, 62]) := by simp [y29]
    rw [e_] at hB1
    refine tl_putEnds_2 hk hB1  (by have h1 := nd_len (k / 64); have h2 := nd_len (k / 8 % 8); rw [List.length_append]; split <;> (try simp) <;> omega) ?_
    rw [List.append_assoc]
    exact hQ
  · refine bp_ldc2 (q := 35) 16 rfl rfl wd1592 ?_
    refine bp_goto (tgt := 39) 17 rfl (by decide) ?_
    refine bp_callV (q := 42) (ci := 9) 19 rfl rfl cw_Mo_putText lk_Mo_345 rfl hB0.kb wd1647 wd76 rfl rfl (Nat.le_of_ble_eq_true rfl) ⟨Nat.le_of_ble_eq_true rfl, Nat.le_of_ble_eq_true rfl⟩ (s_Mo_putText hB0 lt_304 (by (try simp only [List.length_append, List.length_cons, List.length_nil]); omega) (fun h1 hB1 => ?_))
    have y29 : ¬ k / 64 = 12 := fun q => z29 (by rw [q]; rfl)
    have e_ : ys ++ [60, 47, 115, 62] = ys ++ (if k / 64 = 12 then [] else [60, 47, 115, 62]) := by simp [y29]
    rw [e_] at hB1
    refine tl_putEnds_2 hk hB1  (by have h1 := nd_len (k / 64); have h2 := nd_len (k / 8 % 8); rw [List.length_append]; split <;> (try simp) <;> omega) ?_
    rw [List.append_assoc]
    exact hQ
set_option maxRecDepth 100000 in
set_option maxHeartbeats 4000000 in
theorem tl_putEnds_0 {ys : List Nat} (hk : k < 6400) (hB0 : MoX M h0 h tw i fa fm tl lk al ind sk dp lv fr en nf nn dg nu kd pn pe T ys L ps L1 p1 nt tb fd) (hl : ys.length + 40 ≤ 18200) (hQ : ∀ h', MoX M h0 h' tw i fa fm tl lk al ind sk dp lv fr en nf nn dg nu kd pn pe T ((ys ++ ((if k / 8 % 8 = 0 then [] else [60, 47, 99, 62]) ++ ((if k / 64 = 12 then [] else [60, 47, 115, 62]) ++ ((if sb (k % 8) 4 then [60, 47, 117, 62] else []) ++ ((if sb (k % 8) 2 then [60, 47, 105, 62] else []) ++ ((if sb (k % 8) 1 then [60, 47, 98, 62] else [])))))))) L ps L1 p1 nt tb fd → Q none h' c s) : bp_A l G H0 (2, 45, false, false) M_Mo_putEnds h c s 0 [some (.ref (M 0)), some (.int (nI (cmL k)))] [] (fun o h' c' s' => ∃ v, o = .returned v ∧ Q v h' c' s') := by
  have n1 := nd_len (k / 64)
  have n2 := nd_len (k / 8 % 8)
  refine bp_aload_n (q := 1) 0 rfl rfl rfl rfl ?_
  refine bp_iload_n (q := 2) 1 rfl rfl rfl rfl ?_
  refine bp_sipush (v := 1024) (q := 5) 2 rfl rfl (by decide) ?_
  refine bp_icmp_lt (q := 8) (tgt := 14) 3 rfl rfl (by decide) (fun z5 => ?_) (fun z5 => ?_)
  · refine bp_lconst (v := 0) (q := 15) 6 rfl rfl (by decide) ?_
    refine bp_callV (q := 18) (ci := 9) 7 rfl rfl cw_Mo_putText lk_Mo_345 rfl hB0.kb wd1647 wd76 rfl rfl (Nat.le_of_ble_eq_true rfl) ⟨Nat.le_of_ble_eq_true rfl, Nat.le_of_ble_eq_true rfl⟩ (s_Mo_putText hB0 ltx_0 (by (try simp only [List.length_append, List.length_cons, List.length_nil]); omega) (fun h1 hB1 => ?_))
    have y5 : k / 8 % 8 = 0 := (cm_sb hk).2.2.2.2.2.1.mp z5
    have e_ : ys ++ [] = ys ++ (if k / 8 % 8 = 0 then [] else [60, 47, 99, 62]) := by simp [y5]
    rw [e_] at hB1
    refine tl_putEnds_1 hk hB1  (by have h1 := nd_len (k / 64); have h2 := nd_len (k / 8 % 8); rw [List.length_append]; split <;> (try simp) <;> omega) ?_
    rw [List.append_assoc]
    exact hQ
  · refine bp_ldc2 (q := 11) 4 rfl rfl wd1593 ?_
    refine bp_goto (tgt := 15) 5 rfl (by decide) ?_
    refine bp_callV (q := 18) (ci := 9) 7 rfl rfl cw_Mo_putText lk_Mo_345 rfl hB0.kb wd1647 wd76 rfl rfl (Nat.le_of_ble_eq_true rfl) ⟨Nat.le_of_ble_eq_true rfl, Nat.le_of_ble_eq_true rfl⟩ (s_Mo_putText hB0 lt_306 (by (try simp only [List.length_append, List.length_cons, List.length_nil]); omega) (fun h1 hB1 => ?_))
    have y5 : ¬ k / 8 % 8 = 0 := mt (cm_sb hk).2.2.2.2.2.1.mpr z5
    have e_ : ys ++ [60, 47, 99, 62] = ys ++ (if k / 8 % 8 = 0 then [] else [60, 47, 99, 62]) := by simp [y5]
    rw [e_] at hB1
    refine tl_putEnds_1 hk hB1  (by have h1 := nd_len (k / 64); have h2 := nd_len (k / 8 % 8); rw [List.length_append]; split <;> (try simp) <;> omega) ?_
    rw [List.append_assoc]
    exact hQ
set_option maxRecDepth 100000 in
set_option maxHeartbeats 4000000 in
theorem s_Mo_putEnds  (hB0 : MoX M h0 h tw i fa fm tl lk al ind sk dp lv fr en nf nn dg nu kd pn pe T xs L ps L1 p1 nt tb fd) (hk : k < 6400) (hl : xs.length + 40 ≤ 18200) (hQ : ∀ h', MoX M h0 h' tw i fa fm tl lk al ind sk dp lv fr en nf nn dg nu kd pn pe T (xs ++ twE k) L ps L1 p1 nt tb fd → Q none h' c s) : bp_AM l G H0 (2, 45, false, false) M_Mo_putEnds h c s [.ref (M 0), .int (nI (cmL k))] Q := by
  refine bp_of (ls := [some (.ref (M 0)), some (.int (nI (cmL k)))]) (by decide) dt_Mo_putEnds (Nat.le_of_ble_eq_true rfl) (fun q hq => hq) false ?_
  exact tl_putEnds_0 hk hB0 hl hQ
end MO2
