/-! the reference: pages as it writes them -/
def mk1 (fS fL fE : Nat → List Nat) (L : List (Nat × Nat)) (ps : List (Nat × Nat × Nat)) (p k : Nat) : List Nat := if pIx ps k = p then (if fR L ps k then fS ((lkL L).getD k 0) else []) ++ (fL ((cdL L).getD k 0) ++ (if lR L ps k then fE ((lkL L).getD k 0) else [])) else []
def mrun (fS fL fE : Nat → List Nat) (L : List (Nat × Nat)) (ps : List (Nat × Nat × Nat)) (p : Nat) : Nat → Nat → List Nat
  | 0, _ => []
  | n + 1, k => mk1 fS fL fE L ps p k ++ mrun fS fL fE L ps p n (k + 1)
def mpar (fP : Nat → Nat → List Nat) (fS fL fE : Nat → List Nat) (fN : List Nat) (L : List (Nat × Nat)) (ps : List (Nat × Nat × Nat)) (p : Nat) : List Nat := fP (p_a ps p) (p_i ps p) ++ (mrun fS fL fE L ps p L.length 0 ++ fN)
def mpag (fP : Nat → Nat → List Nat) (fS fL fE : Nat → List Nat) (fN : List Nat) (L : List (Nat × Nat)) (ps : List (Nat × Nat × Nat)) : Nat → Nat → List Nat
  | 0, _ => []
  | n + 1, p => mpar fP fS fL fE fN L ps p ++ mpag fP fS fL fE fN L ps n (p + 1)
theorem bwB0 {en : Nat → Nat} {k : Nat} : (bwB en k).length = 0 ↔ (k % 8 = 0 ∧ k / 64 = 12 ∧ en (k / 8 % 8) = 0) := by
  have hs : ∀ b, (b = 1 ∨ b = 2 ∨ b = 4) → ∀ t : List Nat, t ≠ [] → (((if sb (k % 8) b then t else []).length = 0) ↔ k % 8 / b % 2 = 0) := fun b hb t ht => by
    unfold sb
    by_cases q : k % 8 / b % 2 = 1
    · rw [decide_eq_true q, if_pos rfl]
      exact ⟨fun z => absurd (List.eq_nil_of_length_eq_zero z) ht, fun z => by omega⟩
    · rw [decide_eq_false q]
      exact ⟨fun _ => by omega, fun _ => rfl⟩
  unfold bwB
  simp only [List.length_append, Nat.add_eq_zero_iff]
  rw [hs 1 (by decide) _ (by decide), hs 2 (by decide) _ (by decide), hs 4 (by decide) _ (by decide)]
  constructor
  · rintro ⟨h1, h2, h3, h4, h5⟩
    refine ⟨by omega, ?_, ?_⟩
    · by_cases q : k / 64 = 12
      · exact q
      · rw [if_neg q] at h4; simp at h4
    · by_cases q : en (k / 8 % 8) = 0
      · exact q
      · rw [if_neg q] at h5; simp at h5
  · rintro ⟨h1, h2, h3⟩
    rw [if_pos h2, if_pos h3, h1]
    exact ⟨by decide, by decide, by decide, rfl, rfl⟩
theorem enO_c {lk : List Nat} {c : Nat} (hc : c ≠ 0) (hu : usl lk c = true) : enO lk c = cu lk c ∧ cu lk c ≠ 0 := by
  obtain ⟨j, rfl⟩ := Nat.exists_eq_succ_of_ne_zero hc
  exact ⟨by unfold enO; rw [if_neg hc, if_pos hu], cu_pos hu⟩
theorem usl_mem {L : List (Nat × Nat)} {k : Nat} (hk : k < L.length) : usl (lkL L) ((lkL L).getD k 0 / 8 % 8) = true := by
  unfold usl
  rw [List.any_eq_true]
  refine ⟨(lkL L).getD k 0, ?_, decide_eq_true rfl⟩
  rw [List.getD_eq_getElem?_getD, List.getElem?_eq_getElem (by rw [lkL_len]; exact hk)]
  exact List.getElem_mem _
section MO4
variable {l : Launch} {G : bp_G} {H0 : Heap} {M : Nat → Nat} {h0 h : bp_H} {tw : Int32} {i : Nat} {fa : Int32} {fm : Int32} {tl : Int32} {lk : Nat} {al : Nat} {ind : Nat} {sk : Nat} {dp : Nat} {lv : Nat} {fr : Bool} {en : Nat} {nf : Nat} {nn : Nat} {dg : Nat} {nu : Int32} {kd : Nat} {pn : Int32} {pe : Nat} {T : List Nat} {xs : List Nat} {L : List (Nat × Nat)} {ps : List (Nat × Nat × Nat)} {L1 : List (Nat × Nat)} {p1 : List (Nat × Nat × Nat)} {nt : List (Nat → Nat)} {tb : List Nat} {fd : List Nat} {c s : Nat} {Q : Option Value → bp_H → Nat → Nat → Prop}
variable {k : Nat}
set_option maxRecDepth 100000 in
set_option maxHeartbeats 4000000 in
theorem tl_putBH_6 {ys : List Nat} {v2 : Option Value} (hk : k < 6400) (okp : okP L ps) (hu : k / 8 % 8 ≠ 0 → usl (lkL L) (k / 8 % 8) = true) (hB0 : MoX M h0 h tw i fa fm tl lk al ind sk dp lv fr en nf nn dg nu kd pn pe T ys L ps L1 p1 nt tb fd) (hl : ys.length + 4 ≤ 18200) (hQ : ∀ h', MoX M h0 h' tw i fa fm tl lk al ind sk dp lv fr en nf nn dg nu kd pn pe T ((ys ++ (if (bwB (enO (lkL L)) k).length = 0 then [] else [32]))) L ps L1 p1 nt tb fd → Q none h' c s) : bp_A l G H0 (2, 46, false, false) M_Mo_putBracedHead h c s 111 [some (.ref (M 0)), some (.int (nI (cmL k))), v2] [] (fun o h' c' s' => ∃ v, o = .returned v ∧ Q v h' c' s') := by
  have n1 := nd_len (k / 64)
  have n2 := nd_len (cu (lkL L) (k / 8 % 8))
  have n3 := cu_le (lkL L) (k / 8 % 8)
  have n4 := nd_len (enO (lkL L) (k / 8 % 8))
  refine bp_aload_n (q := 112) 58 rfl rfl rfl rfl ?_
  refine bp_iload_n (q := 113) 59 rfl rfl rfl rfl ?_
  refine bp_bipush (v := 96) (q := 115) 60 rfl rfl (by decide) ?_
  refine bp_icmp_ne (q := 118) (tgt := 122) 61 rfl rfl (by decide) (fun z115 => ?_) (fun z115 => ?_)
  · refine bp_ldc2 (q := 125) 64 rfl rfl wd1425 ?_
    refine bp_callV (q := 128) (ci := 9) 65 rfl rfl cw_Mo_putText lk_Mo_345 rfl hB0.kb wd1647 wd76 rfl rfl (Nat.le_of_ble_eq_true rfl) ⟨Nat.le_of_ble_eq_true rfl, Nat.le_of_ble_eq_true rfl⟩ (s_Mo_putText hB0 lt_59 (by (try simp only [List.length_append, List.length_cons, List.length_nil]); omega) (fun h1 hB1 => ?_))
    refine bp_vret 66 rfl rfl  ⟨_, rfl, ?_⟩
    have y := mt (cm_sb hk).2.2.2.2.2.2.mpr z115
    have yb : ¬ (bwB (enO (lkL L)) k).length = 0 := fun q => by
      have q := bwB0.mp q
      refine y ⟨q.1, q.2.1, ?_⟩
      by_cases z : k / 8 % 8 = 0
      · exact z
      · exact absurd q.2.2 (by rw [(enO_c z (hu z)).1]; exact (enO_c z (hu z)).2)
    have e_ : ys ++ [32] = ys ++ (if (bwB (enO (lkL L)) k).length = 0 then [] else [32]) := by simp [yb]
    rw [e_] at hB1
    exact hQ _ hB1
  · refine bp_lconst (v := 0) (q := 119) 62 rfl rfl (by decide) ?_
    refine bp_goto (tgt := 125) 63 rfl (by decide) ?_
    refine bp_callV (q := 128) (ci := 9) 65 rfl rfl cw_Mo_putText lk_Mo_345 rfl hB0.kb wd1647 wd76 rfl rfl (Nat.le_of_ble_eq_true rfl) ⟨Nat.le_of_ble_eq_true rfl, Nat.le_of_ble_eq_true rfl⟩ (s_Mo_putText hB0 ltx_0 (by (try simp only [List.length_append, List.length_cons, List.length_nil]); omega) (fun h1 hB1 => ?_))
    refine bp_vret 66 rfl rfl  ⟨_, rfl, ?_⟩
    have y := (cm_sb hk).2.2.2.2.2.2.mp z115
    have yb : (bwB (enO (lkL L)) k).length = 0 := bwB0.mpr ⟨y.1, y.2.1, by rw [y.2.2]; rfl⟩
    have e_ : ys ++ [] = ys ++ (if (bwB (enO (lkL L)) k).length = 0 then [] else [32]) := by simp [yb]
    rw [e_] at hB1
    exact hQ _ hB1
set_option maxRecDepth 100000 in
set_option maxHeartbeats 4000000 in
theorem tl_putBH_5 {ys : List Nat} {v2 : Option Value} (hk : k < 6400) (okp : okP L ps) (hu : k / 8 % 8 ≠ 0 → usl (lkL L) (k / 8 % 8) = true) (hB0 : MoX M h0 h tw i fa fm tl lk al ind sk dp lv fr en nf nn dg nu kd pn pe T ys L ps L1 p1 nt tb fd) (hl : ys.length + 18 ≤ 18200) (hQ : ∀ h', MoX M h0 h' tw i fa fm tl lk al ind sk dp lv fr en nf nn dg nu kd pn pe T ((ys ++ ((if enO (lkL L) (k / 8 % 8) = 0 then [] else [92, 99, 102] ++ nd (enO (lkL L) (k / 8 % 8))) ++ ((if (bwB (enO (lkL L)) k).length = 0 then [] else [32]))))) L ps L1 p1 nt tb fd → Q none h' c s) : bp_A l G H0 (2, 46, false, false) M_Mo_putBracedHead h c s 84 [some (.ref (M 0)), some (.int (nI (cmL k))), v2] [] (fun o h' c' s' => ∃ v, o = .returned v ∧ Q v h' c' s') := by
  have n1 := nd_len (k / 64)
  have n2 := nd_len (cu (lkL L) (k / 8 % 8))
  have n3 := cu_le (lkL L) (k / 8 % 8)
  have n4 := nd_len (enO (lkL L) (k / 8 % 8))
  refine bp_iload_n (q := 85) 45 rfl rfl rfl rfl ?_
  refine bp_sipush (v := 1024) (q := 88) 46 rfl rfl (by decide) ?_
  refine bp_icmp_lt (q := 91) (tgt := 111) 47 rfl rfl (by decide) (fun z88 => ?_) (fun z88 => ?_)
  · have y88 : k / 8 % 8 = 0 := (cm_sb hk).2.2.2.2.2.1.mp z88
    have ye : enO (lkL L) (k / 8 % 8) = 0 := by rw [y88]; rfl
    have e_ : ys = ys ++ (if enO (lkL L) (k / 8 % 8) = 0 then [] else [92, 99, 102] ++ nd (enO (lkL L) (k / 8 % 8))) := by simp [ye]
    rw [e_] at hB0
    refine tl_putBH_6 hk okp hu hB0  (by have h1 := nd_len (k / 64); have h2 := nd_len (k / 8 % 8); rw [List.length_append]; first | (split <;> (try simp) <;> omega) | (simp; omega)) ?_
    rw [List.append_assoc]
    exact hQ
  · refine bp_aload_n (q := 92) 48 rfl rfl rfl rfl ?_
    refine bp_ldc2 (q := 95) 49 rfl rfl wd1673 ?_
    refine bp_callV (q := 98) (ci := 9) 50 rfl rfl cw_Mo_putText lk_Mo_345 rfl hB0.kb wd1647 wd76 rfl rfl (Nat.le_of_ble_eq_true rfl) ⟨Nat.le_of_ble_eq_true rfl, Nat.le_of_ble_eq_true rfl⟩ (s_Mo_putText hB0 lt_358 (by (try simp only [List.length_append, List.length_cons, List.length_nil]); omega) (fun h1 hB1 => ?_))
    refine bp_aload_n (q := 99) 51 rfl rfl rfl rfl ?_
    refine bp_aload_n (q := 100) 52 rfl rfl rfl rfl ?_
    refine bp_iload_n (q := 101) 53 rfl rfl rfl rfl ?_
    refine bp_sipush (v := 1024) (q := 104) 54 rfl rfl (by decide) ?_
    refine bp_idiv (q := 105) 55 rfl rfl (by decide) ?_
    rw [(cm_sb hk).2.2.2.2.1]
    refine bp_callV (q := 108) (ci := 9) 56 rfl rfl cw_Mo_entryOf lk_Mo_360 rfl hB1.kb wd1639 wd74 rfl rfl (Nat.le_of_ble_eq_true rfl) ⟨Nat.le_of_ble_eq_true rfl, Nat.le_of_ble_eq_true rfl⟩ (s_Mo_entryOf (ro := false) hB1 okp (by omega) ?_)
    refine bp_callV (q := 111) (ci := 9) 57 rfl rfl cw_Mo_putNumber lk_Mo_355 rfl hB1.kb wd1659 wd77 rfl rfl (Nat.le_of_ble_eq_true rfl) ⟨Nat.le_of_ble_eq_true rfl, Nat.le_of_ble_eq_true rfl⟩ (s_Mo_putNumber (n := cu (lkL L) (k / 8 % 8)) hB1 (by omega) (by (try simp only [List.length_append, List.length_cons, List.length_nil]); omega) (fun h2 hB2 => ?_))
    have y88 : ¬ k / 8 % 8 = 0 := mt (cm_sb hk).2.2.2.2.2.1.mpr z88
    have ye := (enO_c y88 (hu y88)).1
    have ye2 := (enO_c y88 (hu y88)).2
    have e_ : ys ++ [92, 99, 102] ++ nd (cu (lkL L) (k / 8 % 8)) = ys ++ (if enO (lkL L) (k / 8 % 8) = 0 then [] else [92, 99, 102] ++ nd (enO (lkL L) (k / 8 % 8))) := by simp [ye, ye2]
    rw [e_] at hB2
    refine tl_putBH_6 hk okp hu hB2  (by have h1 := nd_len (k / 64); have h2 := nd_len (k / 8 % 8); rw [List.length_append]; first | (split <;> (try simp) <;> omega) | (simp; omega)) ?_
    rw [List.append_assoc]
    exact hQ
set_option maxRecDepth 100000 in
set_option maxHeartbeats 4000000 in
theorem tl_putBH_4 {ys : List Nat} {v2 : Option Value} (hk : k < 6400) (okp : okP L ps) (hu : k / 8 % 8 ≠ 0 → usl (lkL L) (k / 8 % 8) = true) (hB0 : MoX M h0 h tw i fa fm tl lk al ind sk dp lv fr en nf nn dg nu kd pn pe T ys L ps L1 p1 nt tb fd) (hl : ys.length + 28 ≤ 18200) (hQ : ∀ h', MoX M h0 h' tw i fa fm tl lk al ind sk dp lv fr en nf nn dg nu kd pn pe T ((ys ++ ((if k / 64 = 12 then [] else [92, 102, 115] ++ nd (k / 64)) ++ ((if enO (lkL L) (k / 8 % 8) = 0 then [] else [92, 99, 102] ++ nd (enO (lkL L) (k / 8 % 8))) ++ ((if (bwB (enO (lkL L)) k).length = 0 then [] else [32])))))) L ps L1 p1 nt tb fd → Q none h' c s) : bp_A l G H0 (2, 46, false, false) M_Mo_putBracedHead h c s 57 [some (.ref (M 0)), some (.int (nI (cmL k))), v2] [] (fun o h' c' s' => ∃ v, o = .returned v ∧ Q v h' c' s') := by
  have n1 := nd_len (k / 64)
  have n2 := nd_len (cu (lkL L) (k / 8 % 8))
  have n3 := cu_le (lkL L) (k / 8 % 8)
  have n4 := nd_len (enO (lkL L) (k / 8 % 8))
  refine bp_iload_n (q := 58) 30 rfl rfl rfl rfl ?_
  refine bp_bipush (v := 8) (q := 60) 31 rfl rfl (by decide) ?_
  refine bp_idiv (q := 61) 32 rfl rfl (by decide) ?_
  refine bp_sipush (v := 128) (q := 64) 33 rfl rfl (by decide) ?_
  refine bp_irem (q := 65) 34 rfl rfl (by decide) ?_
  rw [(cm_sb hk).2.2.2.1]
  refine bp_istore_n (q := 66) 35 rfl rfl rfl (by decide) (bp_up2 rfl) ?_
  refine bp_iload_n (q := 67) 36 rfl rfl rfl rfl ?_
  refine bp_bipush (v := 12) (q := 69) 37 rfl rfl (by decide) ?_
  refine bp_icmp_eq (q := 72) (tgt := 84) 38 rfl rfl (by decide) (fun z69 => ?_) (fun z69 => ?_)
  · have y69 : k / 64 = 12 := (nI_eq_iff (b := 12) (by omega) (by decide)).mp z69
    have e_ : ys = ys ++ (if k / 64 = 12 then [] else [92, 102, 115] ++ nd (k / 64)) := by simp [y69]
    rw [e_] at hB0
    refine tl_putBH_5 hk okp hu hB0  (by have h1 := nd_len (k / 64); have h2 := nd_len (k / 8 % 8); rw [List.length_append]; first | (split <;> (try simp) <;> omega) | (simp; omega)) ?_
    rw [List.append_assoc]
    exact hQ
  · refine bp_aload_n (q := 73) 39 rfl rfl rfl rfl ?_
    refine bp_ldc2 (q := 76) 40 rfl rfl wd1672 ?_
    refine bp_callV (q := 79) (ci := 9) 41 rfl rfl cw_Mo_putText lk_Mo_345 rfl hB0.kb wd1647 wd76 rfl rfl (Nat.le_of_ble_eq_true rfl) ⟨Nat.le_of_ble_eq_true rfl, Nat.le_of_ble_eq_true rfl⟩ (s_Mo_putText hB0 lt_353 (by (try simp only [List.length_append, List.length_cons, List.length_nil]); omega) (fun h1 hB1 => ?_))
    refine bp_aload_n (q := 80) 42 rfl rfl rfl rfl ?_
    refine bp_iload_n (q := 81) 43 rfl rfl rfl rfl ?_
    refine bp_callV (q := 84) (ci := 9) 44 rfl rfl cw_Mo_putNumber lk_Mo_355 rfl hB1.kb wd1659 wd77 rfl rfl (Nat.le_of_ble_eq_true rfl) ⟨Nat.le_of_ble_eq_true rfl, Nat.le_of_ble_eq_true rfl⟩ (s_Mo_putNumber (n := k / 64) hB1 (by omega) (by (try simp only [List.length_append, List.length_cons, List.length_nil]); omega) (fun h2 hB2 => ?_))
    have y69 : ¬ k / 64 = 12 := fun q => z69 (by rw [q]; rfl)
    have e_ : ys ++ [92, 102, 115] ++ nd (k / 64) = ys ++ (if k / 64 = 12 then [] else [92, 102, 115] ++ nd (k / 64)) := by simp [y69]
    rw [e_] at hB2
    refine tl_putBH_5 hk okp hu hB2  (by have h1 := nd_len (k / 64); have h2 := nd_len (k / 8 % 8); rw [List.length_append]; first | (split <;> (try simp) <;> omega) | (simp; omega)) ?_
    rw [List.append_assoc]
    exact hQ
set_option maxRecDepth 100000 in
set_option maxHeartbeats 4000000 in
theorem tl_putBH_3 {ys : List Nat} {v2 : Option Value} (hk : k < 6400) (okp : okP L ps) (hu : k / 8 % 8 ≠ 0 → usl (lkL L) (k / 8 % 8) = true) (hB0 : MoX M h0 h tw i fa fm tl lk al ind sk dp lv fr en nf nn dg nu kd pn pe T ys L ps L1 p1 nt tb fd) (hl : ys.length + 32 ≤ 18200) (hQ : ∀ h', MoX M h0 h' tw i fa fm tl lk al ind sk dp lv fr en nf nn dg nu kd pn pe T ((ys ++ ((if sb (k % 8) 4 then [92, 117, 108] else []) ++ ((if k / 64 = 12 then [] else [92, 102, 115] ++ nd (k / 64)) ++ ((if enO (lkL L) (k / 8 % 8) = 0 then [] else [92, 99, 102] ++ nd (enO (lkL L) (k / 8 % 8))) ++ ((if (bwB (enO (lkL L)) k).length = 0 then [] else [32]))))))) L ps L1 p1 nt tb fd → Q none h' c s) : bp_A l G H0 (2, 46, false, false) M_Mo_putBracedHead h c s 40 [some (.ref (M 0)), some (.int (nI (cmL k))), v2] [] (fun o h' c' s' => ∃ v, o = .returned v ∧ Q v h' c' s') := by
  have n1 := nd_len (k / 64)
  have n2 := nd_len (cu (lkL L) (k / 8 % 8))
  have n3 := cu_le (lkL L) (k / 8 % 8)
  have n4 := nd_len (enO (lkL L) (k / 8 % 8))
  refine bp_aload_n (q := 41) 21 rfl rfl rfl rfl ?_
  refine bp_iload_n (q := 42) 22 rfl rfl rfl rfl ?_
  refine bp_iconst (v := 4) (q := 43) 23 rfl rfl (by decide) ?_
  refine bp_iand (q := 44) 24 rfl rfl ?_
  refine bp_if_eq (q := 47) (tgt := 53) 25 rfl rfl (by decide) (fun z44 => ?_) (fun z44 => ?_)
  · refine bp_lconst (v := 0) (q := 54) 28 rfl rfl (by decide) ?_
    refine bp_callV (q := 57) (ci := 9) 29 rfl rfl cw_Mo_putText lk_Mo_345 rfl hB0.kb wd1647 wd76 rfl rfl (Nat.le_of_ble_eq_true rfl) ⟨Nat.le_of_ble_eq_true rfl, Nat.le_of_ble_eq_true rfl⟩ (s_Mo_putText hB0 ltx_0 (by (try simp only [List.length_append, List.length_cons, List.length_nil]); omega) (fun h1 hB1 => ?_))
    have y44 : sb (k % 8) 4 = false := (cm_sb hk).2.2.1.mp z44
    have e_ : ys ++ [] = ys ++ (if sb (k % 8) 4 then [92, 117, 108] else []) := by simp [y44]
    rw [e_] at hB1
    refine tl_putBH_4 hk okp hu hB1  (by have h1 := nd_len (k / 64); have h2 := nd_len (k / 8 % 8); rw [List.length_append]; first | (split <;> (try simp) <;> omega) | (simp; omega)) ?_
    rw [List.append_assoc]
    exact hQ
  · refine bp_ldc2 (q := 50) 26 rfl rfl wd1671 ?_
    refine bp_goto (tgt := 54) 27 rfl (by decide) ?_
    refine bp_callV (q := 57) (ci := 9) 29 rfl rfl cw_Mo_putText lk_Mo_345 rfl hB0.kb wd1647 wd76 rfl rfl (Nat.le_of_ble_eq_true rfl) ⟨Nat.le_of_ble_eq_true rfl, Nat.le_of_ble_eq_true rfl⟩ (s_Mo_putText hB0 lt_351 (by (try simp only [List.length_append, List.length_cons, List.length_nil]); omega) (fun h1 hB1 => ?_))
    have y44 : sb (k % 8) 4 = true := sb_t (mt (cm_sb hk).2.2.1.mpr z44)
    have e_ : ys ++ [92, 117, 108] = ys ++ (if sb (k % 8) 4 then [92, 117, 108] else []) := by simp [y44]
    rw [e_] at hB1
    refine tl_putBH_4 hk okp hu hB1  (by have h1 := nd_len (k / 64); have h2 := nd_len (k / 8 % 8); rw [List.length_append]; first | (split <;> (try simp) <;> omega) | (simp; omega)) ?_
    rw [List.append_assoc]
    exact hQ
set_option maxRecDepth 100000 in
set_option maxHeartbeats 4000000 in
theorem tl_putBH_2 {ys : List Nat} {v2 : Option Value} (hk : k < 6400) (okp : okP L ps) (hu : k / 8 % 8 ≠ 0 → usl (lkL L) (k / 8 % 8) = true) (hB0 : MoX M h0 h tw i fa fm tl lk al ind sk dp lv fr en nf nn dg nu kd pn pe T ys L ps L1 p1 nt tb fd) (hl : ys.length + 35 ≤ 18200) (hQ : ∀ h', MoX M h0 h' tw i fa fm tl lk al ind sk dp lv fr en nf nn dg nu kd pn pe T ((ys ++ ((if sb (k % 8) 2 then [92, 105] else []) ++ ((if sb (k % 8) 4 then [92, 117, 108] else []) ++ ((if k / 64 = 12 then [] else [92, 102, 115] ++ nd (k / 64)) ++ ((if enO (lkL L) (k / 8 % 8) = 0 then [] else [92, 99, 102] ++ nd (enO (lkL L) (k / 8 % 8))) ++ ((if (bwB (enO (lkL L)) k).length = 0 then [] else [32])))))))) L ps L1 p1 nt tb fd → Q none h' c s) : bp_A l G H0 (2, 46, false, false) M_Mo_putBracedHead h c s 23 [some (.ref (M 0)), some (.int (nI (cmL k))), v2] [] (fun o h' c' s' => ∃ v, o = .returned v ∧ Q v h' c' s') := by
  have n1 := nd_len (k / 64)
  have n2 := nd_len (cu (lkL L) (k / 8 % 8))
  have n3 := cu_le (lkL L) (k / 8 % 8)
  have n4 := nd_len (enO (lkL L) (k / 8 % 8))
  refine bp_aload_n (q := 24) 12 rfl rfl rfl rfl ?_
  refine bp_iload_n (q := 25) 13 rfl rfl rfl rfl ?_
  refine bp_iconst (v := 2) (q := 26) 14 rfl rfl (by decide) ?_
  refine bp_iand (q := 27) 15 rfl rfl ?_
  refine bp_if_eq (q := 30) (tgt := 36) 16 rfl rfl (by decide) (fun z27 => ?_) (fun z27 => ?_)
  · refine bp_lconst (v := 0) (q := 37) 19 rfl rfl (by decide) ?_
    refine bp_callV (q := 40) (ci := 9) 20 rfl rfl cw_Mo_putText lk_Mo_345 rfl hB0.kb wd1647 wd76 rfl rfl (Nat.le_of_ble_eq_true rfl) ⟨Nat.le_of_ble_eq_true rfl, Nat.le_of_ble_eq_true rfl⟩ (s_Mo_putText hB0 ltx_0 (by (try simp only [List.length_append, List.length_cons, List.length_nil]); omega) (fun h1 hB1 => ?_))
    have y27 : sb (k % 8) 2 = false := (cm_sb hk).2.1.mp z27
    have e_ : ys ++ [] = ys ++ (if sb (k % 8) 2 then [92, 105] else []) := by simp [y27]
    rw [e_] at hB1
    refine tl_putBH_3 hk okp hu hB1  (by have h1 := nd_len (k / 64); have h2 := nd_len (k / 8 % 8); rw [List.length_append]; first | (split <;> (try simp) <;> omega) | (simp; omega)) ?_
    rw [List.append_assoc]
    exact hQ
  · refine bp_ldc2 (q := 33) 17 rfl rfl wd1670 ?_
    refine bp_goto (tgt := 37) 18 rfl (by decide) ?_
    refine bp_callV (q := 40) (ci := 9) 20 rfl rfl cw_Mo_putText lk_Mo_345 rfl hB0.kb wd1647 wd76 rfl rfl (Nat.le_of_ble_eq_true rfl) ⟨Nat.le_of_ble_eq_true rfl, Nat.le_of_ble_eq_true rfl⟩ (s_Mo_putText hB0 lt_349 (by (try simp only [List.length_append, List.length_cons, List.length_nil]); omega) (fun h1 hB1 => ?_))
    have y27 : sb (k % 8) 2 = true := sb_t (mt (cm_sb hk).2.1.mpr z27)
    have e_ : ys ++ [92, 105] = ys ++ (if sb (k % 8) 2 then [92, 105] else []) := by simp [y27]
    rw [e_] at hB1
    refine tl_putBH_3 hk okp hu hB1  (by have h1 := nd_len (k / 64); have h2 := nd_len (k / 8 % 8); rw [List.length_append]; first | (split <;> (try simp) <;> omega) | (simp; omega)) ?_
    rw [List.append_assoc]
    exact hQ
set_option maxRecDepth 100000 in
set_option maxHeartbeats 4000000 in
theorem tl_putBH_1 {ys : List Nat} {v2 : Option Value} (hk : k < 6400) (okp : okP L ps) (hu : k / 8 % 8 ≠ 0 → usl (lkL L) (k / 8 % 8) = true) (hB0 : MoX M h0 h tw i fa fm tl lk al ind sk dp lv fr en nf nn dg nu kd pn pe T ys L ps L1 p1 nt tb fd) (hl : ys.length + 38 ≤ 18200) (hQ : ∀ h', MoX M h0 h' tw i fa fm tl lk al ind sk dp lv fr en nf nn dg nu kd pn pe T ((ys ++ ((if sb (k % 8) 1 then [92, 98] else []) ++ ((if sb (k % 8) 2 then [92, 105] else []) ++ ((if sb (k % 8) 4 then [92, 117, 108] else []) ++ ((if k / 64 = 12 then [] else [92, 102, 115] ++ nd (k / 64)) ++ ((if enO (lkL L) (k / 8 % 8) = 0 then [] else [92, 99, 102] ++ nd (enO (lkL L) (k / 8 % 8))) ++ ((if (bwB (enO (lkL L)) k).length = 0 then [] else [32]))))))))) L ps L1 p1 nt tb fd → Q none h' c s) : bp_A l G H0 (2, 46, false, false) M_Mo_putBracedHead h c s 6 [some (.ref (M 0)), some (.int (nI (cmL k))), v2] [] (fun o h' c' s' => ∃ v, o = .returned v ∧ Q v h' c' s') := by
  have n1 := nd_len (k / 64)
  have n2 := nd_len (cu (lkL L) (k / 8 % 8))
  have n3 := cu_le (lkL L) (k / 8 % 8)
  have n4 := nd_len (enO (lkL L) (k / 8 % 8))
  refine bp_aload_n (q := 7) 3 rfl rfl rfl rfl ?_
  refine bp_iload_n (q := 8) 4 rfl rfl rfl rfl ?_
  refine bp_iconst (v := 1) (q := 9) 5 rfl rfl (by decide) ?_
  refine bp_iand (q := 10) 6 rfl rfl ?_
  refine bp_if_eq (q := 13) (tgt := 19) 7 rfl rfl (by decide) (fun z10 => ?_) (fun z10 => ?_)
  · refine bp_lconst (v := 0) (q := 20) 10 rfl rfl (by decide) ?_
    refine bp_callV (q := 23) (ci := 9) 11 rfl rfl cw_Mo_putText lk_Mo_345 rfl hB0.kb wd1647 wd76 rfl rfl (Nat.le_of_ble_eq_true rfl) ⟨Nat.le_of_ble_eq_true rfl, Nat.le_of_ble_eq_true rfl⟩ (s_Mo_putText hB0 ltx_0 (by (try simp only [List.length_append, List.length_cons, List.length_nil]); omega) (fun h1 hB1 => ?_))
    have y10 : sb (k % 8) 1 = false := (cm_sb hk).1.mp z10
    have e_ : ys ++ [] = ys ++ (if sb (k % 8) 1 then [92, 98] else []) := by simp [y10]
    rw [e_] at hB1
    refine tl_putBH_2 hk okp hu hB1  (by have h1 := nd_len (k / 64); have h2 := nd_len (k / 8 % 8); rw [List.length_append]; first | (split <;> (try simp) <;> omega) | (simp; omega)) ?_
    rw [List.append_assoc]
    exact hQ
  · refine bp_ldc2 (q := 16) 8 rfl rfl wd1669 ?_
    refine bp_goto (tgt := 20) 9 rfl (by decide) ?_
    refine bp_callV (q := 23) (ci := 9) 11 rfl rfl cw_Mo_putText lk_Mo_345 rfl hB0.kb wd1647 wd76 rfl rfl (Nat.le_of_ble_eq_true rfl) ⟨Nat.le_of_ble_eq_true rfl, Nat.le_of_ble_eq_true rfl⟩ (s_Mo_putText hB0 lt_343 (by (try simp only [List.length_append, List.length_cons, List.length_nil]); omega) (fun h1 hB1 => ?_))
    have y10 : sb (k % 8) 1 = true := sb_t (mt (cm_sb hk).1.mpr z10)
    have e_ : ys ++ [92, 98] = ys ++ (if sb (k % 8) 1 then [92, 98] else []) := by simp [y10]
    rw [e_] at hB1
    refine tl_putBH_2 hk okp hu hB1  (by have h1 := nd_len (k / 64); have h2 := nd_len (k / 8 % 8); rw [List.length_append]; first | (split <;> (try simp) <;> omega) | (simp; omega)) ?_
    rw [List.append_assoc]
    exact hQ
set_option maxRecDepth 100000 in
set_option maxHeartbeats 4000000 in
theorem tl_putBH_0 {ys : List Nat} {v2 : Option Value} (hk : k < 6400) (okp : okP L ps) (hu : k / 8 % 8 ≠ 0 → usl (lkL L) (k / 8 % 8) = true) (hB0 : MoX M h0 h tw i fa fm tl lk al ind sk dp lv fr en nf nn dg nu kd pn pe T ys L ps L1 p1 nt tb fd) (hl : ys.length + 40 ≤ 18200) (hQ : ∀ h', MoX M h0 h' tw i fa fm tl lk al ind sk dp lv fr en nf nn dg nu kd pn pe T ((ys ++ ([123] ++ ((if sb (k % 8) 1 then [92, 98] else []) ++ ((if sb (k % 8) 2 then [92, 105] else []) ++ ((if sb (k % 8) 4 then [92, 117, 108] else []) ++ ((if k / 64 = 12 then [] else [92, 102, 115] ++ nd (k / 64)) ++ ((if enO (lkL L) (k / 8 % 8) = 0 then [] else [92, 99, 102] ++ nd (enO (lkL L) (k / 8 % 8))) ++ ((if (bwB (enO (lkL L)) k).length = 0 then [] else [32])))))))))) L ps L1 p1 nt tb fd → Q none h' c s) : bp_A l G H0 (2, 46, false, false) M_Mo_putBracedHead h c s 0 [some (.ref (M 0)), some (.int (nI (cmL k))), v2] [] (fun o h' c' s' => ∃ v, o = .returned v ∧ Q v h' c' s') := by
  have n1 := nd_len (k / 64)
  have n2 := nd_len (cu (lkL L) (k / 8 % 8))
  have n3 := cu_le (lkL L) (k / 8 % 8)
  have n4 := nd_len (enO (lkL L) (k / 8 % 8))
  refine bp_aload_n (q := 1) 0 rfl rfl rfl rfl ?_
  refine bp_bipush (v := 123) (q := 3) 1 rfl rfl (by decide) ?_
  refine bp_callV (q := 6) (ci := 9) 2 rfl rfl cw_Mo_put lk_Mo_332 rfl hB0.kb wd1635 wd73 rfl rfl (Nat.le_of_ble_eq_true rfl) ⟨Nat.le_of_ble_eq_true rfl, Nat.le_of_ble_eq_true rfl⟩ (s_Mo_put (v := 123) hB0 (by omega) (by (try simp only [List.length_append, List.length_cons, List.length_nil]); omega) (fun h1 hB1 => ?_))
  have e_ : ys ++ [123] = ys ++ [123] := by simp []
  rw [e_] at hB1
  refine tl_putBH_1 hk okp hu hB1  (by have h1 := nd_len (k / 64); have h2 := nd_len (k / 8 % 8); rw [List.length_append]; first | (split <;> (try simp) <;> omega) | (simp; omega)) ?_
  rw [List.append_assoc]
  exact hQ
set_option maxRecDepth 100000 in
set_option maxHeartbeats 4000000 in
theorem s_Mo_putBracedHead  (hB0 : MoX M h0 h tw i fa fm tl lk al ind sk dp lv fr en nf nn dg nu kd pn pe T xs L ps L1 p1 nt tb fd) (hk : k < 6400) (okp : okP L ps) (hu : k / 8 % 8 ≠ 0 → usl (lkL L) (k / 8 % 8) = true) (hl : xs.length + 40 ≤ 18200) (hQ : ∀ h', MoX M h0 h' tw i fa fm tl lk al ind sk dp lv fr en nf nn dg nu kd pn pe T ((xs ++ bwS (enO (lkL L)) k)) L ps L1 p1 nt tb fd → Q none h' c s) : bp_AM l G H0 (2, 46, false, false) M_Mo_putBracedHead h c s [.ref (M 0), .int (nI (cmL k))] Q := by
  refine bp_of (ls := [some (.ref (M 0)), some (.int (nI (cmL k))), none]) (by decide) dt_Mo_putBracedHead (Nat.le_of_ble_eq_true rfl) (fun q hq => hq) false ?_
  refine tl_putBH_0 hk okp hu hB0 hl (fun h9 hB9 => hQ h9 ?_)
  have e_ : xs ++ bwS (enO (lkL L)) k = xs ++ ([123] ++ ((if sb (k % 8) 1 then [92, 98] else []) ++ ((if sb (k % 8) 2 then [92, 105] else []) ++ ((if sb (k % 8) 4 then [92, 117, 108] else []) ++ ((if k / 64 = 12 then [] else [92, 102, 115] ++ nd (k / 64)) ++ ((if enO (lkL L) (k / 8 % 8) = 0 then [] else [92, 99, 102] ++ nd (enO (lkL L) (k / 8 % 8))) ++ ((if (bwB (enO (lkL L)) k).length = 0 then [] else [32])))))))) := by
    simp only [bwS, bwB, List.append_assoc]
  rw [e_]
  exact hB9
end MO4
