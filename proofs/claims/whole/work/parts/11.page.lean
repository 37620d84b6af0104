/-! pages: P 0 the object, P 1, 2, 3 its arrays (alignments, indents, ends), P 4, 5 the row of codes, P 6, 7 the row of looks; L the letters (code, look), ps the paragraphs (alignment, indent, end) -/
def p_a (ps : List (Nat × Nat × Nat)) (j : Nat) : Nat := (ps.getD j (0, 0, 0)).1
def p_i (ps : List (Nat × Nat × Nat)) (j : Nat) : Nat := (ps.getD j (0, 0, 0)).2.1
def p_e (ps : List (Nat × Nat × Nat)) (j : Nat) : Nat := (ps.getD j (0, 0, 0)).2.2
def Pg (h : bp_H) (P : Nat → Nat) (L : List (Nat × Nat)) (ps : List (Nat × Nat × Nat)) : Prop :=
  bp_K h (P 0) = 8 ∧ bp_R h (P 0) 0 = some (P 1) ∧ bp_R h (P 0) 1 = some (P 2) ∧ bp_R h (P 0) 2 = some (P 3) ∧ bp_R h (P 0) 3 = some (P 4) ∧ bp_R h (P 0) 4 = some (P 6) ∧ bp_I h (P 0) 5 = nI ps.length ∧
  (bp_K h (P 1) = 1 ∧ bp_L h (P 1) = 16) ∧ (bp_K h (P 2) = 1 ∧ bp_L h (P 2) = 16) ∧ (bp_K h (P 3) = 1 ∧ bp_L h (P 3) = 16) ∧ ps.length ≤ 16 ∧
  (∀ j, j < ps.length → bp_I h (P 1) j = nI (p_a ps j) ∧ bp_I h (P 2) j = nI (p_i ps j) ∧ bp_I h (P 3) j = nI (p_e ps j)) ∧
  Rw h (P 4) (P 5) (L.map (fun q => q.1)) ∧ Rw h (P 6) (P 7) (L.map (fun q => q.2)) ∧ bp_L h (P 5) = 400 ∧ bp_L h (P 7) = 400 ∧ (∀ i j, i < 8 → j < 8 → P i = P j → i = j)
def p_out (ps : List (Nat × Nat × Nat)) (p : Int32) : Prop := p < 0 ∨ nI ps.length ≤ p
def p_st (ps : List (Nat × Nat × Nat)) (p : Int32) : Int32 := if p - 1 < 0 ∨ nI ps.length ≤ p - 1 then 0 else nI (p_e ps (p - 1).toNatClampNeg)
def p_en (ps : List (Nat × Nat × Nat)) (p : Int32) : Int32 := if p < 0 ∨ nI ps.length ≤ p then 0 else nI (p_e ps p.toNatClampNeg)
theorem if01 {b : Prop} [Decidable b] : ((if b then (0 : Int32) else 1) = 0) ↔ b := by
  by_cases hb : b <;> simp [hb]
theorem if10 {b : Prop} [Decidable b] : ((if b then (1 : Int32) else 0) = 0) ↔ ¬ b := by
  by_cases hb : b <;> simp [hb]
theorem p_ix {n : Nat} {i : Int32} (hn : n ≤ 16) (hb : ¬ (i < 0 ∨ nI n ≤ i)) : ∃ j, j < n ∧ i = nI j ∧ i.toNatClampNeg = j ∧ vp_in i 16 := by
  obtain ⟨j, h1, h2, -, h4, -⟩ := pk_mu (fun z => hb (Or.inl z)) (fun z => hb (Or.inr z)) (show n < 2 ^ 31 by omega)
  refine ⟨j, h1, h2, h4, fun q => ?_⟩
  rcases q with q | q
  · exact hb (Or.inl q)
  · rw [h4] at q; omega
section PAGE
variable {l : Launch} {G : bp_G} {H0 : Heap} {h : bp_H} {c s : Nat} {P : Nat → Nat} {L : List (Nat × Nat)} {ps : List (Nat × Nat × Nat)} {Q : Option Value → bp_H → Nat → Nat → Prop}
set_option maxRecDepth 100000 in
set_option maxHeartbeats 4000000 in
theorem s_Page_size {ro : Bool}  (hP : Pg h P L ps) (hQ : Q (some (.int (nI ps.length))) h c s) : bp_AM l G H0 (0, 0, ro, ro) M_Page_size h c s [.ref (P 0)] Q := by
  refine bp_of (ls := [some (.ref (P 0))]) (by decide) dt_Page_size (Nat.le_of_ble_eq_true rfl) (fun q hq => hq) ro ?_
  obtain ⟨k0, r0, r1, r2, r3, r4, sz, ⟨k1, l1⟩, ⟨k2, l2⟩, ⟨k3, l3⟩, hn, hj, hc, hl, lc, ll, hinj⟩ := id hP
  refine bp_aload_n (q := 1) 0 rfl rfl rfl rfl ?_
  refine bp_getI (q := 4) (ci := 2) (j := 5) 1 rfl rfl fl_Page_33_2 k0 rfl ?_
  exact bp_iret 2 rfl rfl rfl ⟨_, rfl, by rw [sz]; exact hQ⟩
set_option maxRecDepth 100000 in
set_option maxHeartbeats 4000000 in
theorem s_Page_letters {ro : Bool}  (hP : Pg h P L ps) (hQ : Q (some (.int (nI L.length))) h c s) : bp_AM l G H0 (1, 20, ro, ro) M_Page_letters h c s [.ref (P 0)] Q := by
  refine bp_of (ls := [some (.ref (P 0))]) (by decide) dt_Page_letters (Nat.le_of_ble_eq_true rfl) (fun q hq => hq) ro ?_
  obtain ⟨k0, r0, r1, r2, r3, r4, sz, ⟨k1, l1⟩, ⟨k2, l2⟩, ⟨k3, l3⟩, hn, hj, hc, hl, lc, ll, hinj⟩ := id hP
  refine bp_aload_n (q := 1) 0 rfl rfl rfl rfl ?_
  refine bp_getR (x := (P 4)) (q := 4) (ci := 2) (j := 3) 1 rfl rfl fl_Page_26_2 k0 rfl r3 ?_
  refine bp_callV (q := 7) (ci := 1) 2 rfl rfl cw_Row_size lk_Page_37 rfl hc.1 wd455 wd456 rfl rfl (Nat.le_of_ble_eq_true rfl) ⟨Nat.le_of_ble_eq_true rfl, Nat.le_of_ble_eq_true rfl⟩ (s_Row_size (ro := ro) hc ?_)
  exact bp_iret 3 rfl rfl rfl ⟨_, rfl, by rw [List.length_map]; exact hQ⟩
set_option maxRecDepth 100000 in
set_option maxHeartbeats 4000000 in
theorem s_Page_isFull {ro : Bool}  (hP : Pg h P L ps) (hQ : Q (some (.int (if 16 ≤ ps.length then 1 else 0))) h c s) : bp_AM l G H0 (0, 0, ro, ro) M_Page_isFull h c s [.ref (P 0)] Q := by
  refine bp_of (ls := [some (.ref (P 0))]) (by decide) dt_Page_isFull (Nat.le_of_ble_eq_true rfl) (fun q hq => hq) ro ?_
  obtain ⟨k0, r0, r1, r2, r3, r4, sz, ⟨k1, l1⟩, ⟨k2, l2⟩, ⟨k3, l3⟩, hn, hj, hc, hl, lc, ll, hinj⟩ := id hP
  refine bp_aload_n (q := 1) 0 rfl rfl rfl rfl ?_
  refine bp_getI (q := 4) (ci := 2) (j := 5) 1 rfl rfl fl_Page_33_2 k0 rfl ?_
  refine bp_bipush (v := 16) (q := 6) 2 rfl rfl (by decide) ?_
  refine bp_icmp_lt (q := 9) (tgt := 13) 3 rfl rfl (by decide) (fun z6 => ?_) (fun z6 => ?_)
  · refine bp_iconst (v := 0) (q := 14) 6 rfl rfl (by decide) ?_
    refine bp_iret 7 rfl rfl (by first | rfl | assumption) ⟨_, rfl, ?_⟩
    rw [sz] at z6
    have z : ps.length < 16 := (nI_lt_iff (b := 16) (by omega) (by decide)).mp z6
    rw [if_neg (by omega)] at hQ
    exact hQ
  · refine bp_iconst (v := 1) (q := 10) 4 rfl rfl (by decide) ?_
    refine bp_goto (tgt := 14) 5 rfl (by decide) ?_
    refine bp_iret 7 rfl rfl (by first | rfl | assumption) ⟨_, rfl, ?_⟩
    rw [sz] at z6
    have z : ¬ ps.length < 16 := fun q => z6 ((nI_lt_iff (b := 16) (by omega) (by decide)).mpr q)
    rw [if_pos (by omega)] at hQ
    exact hQ
set_option maxRecDepth 100000 in
set_option maxHeartbeats 4000000 in
theorem s_Page_has {ro : Bool} {i : Int32} (hP : Pg h P L ps) (hQ : Q (some (.int (if i < 0 ∨ nI ps.length ≤ i then 0 else 1))) h c s) : bp_AM l G H0 (0, 0, ro, ro) M_Page_has h c s [.ref (P 0), .int i] Q := by
  refine bp_of (ls := [some (.ref (P 0)), some (.int i)]) (by decide) dt_Page_has (Nat.le_of_ble_eq_true rfl) (fun q hq => hq) ro ?_
  obtain ⟨k0, r0, r1, r2, r3, r4, sz, ⟨k1, l1⟩, ⟨k2, l2⟩, ⟨k3, l3⟩, hn, hj, hc, hl, lc, ll, hinj⟩ := id hP
  refine bp_iload_n (q := 1) 0 rfl rfl rfl rfl ?_
  refine bp_if_lt (q := 4) (tgt := 16) 1 rfl rfl (by decide) (fun z1 => ?_) (fun z1 => ?_)
  · refine bp_iconst (v := 0) (q := 17) 8 rfl rfl (by decide) ?_
    refine bp_iret 9 rfl rfl (by first | rfl | assumption) ⟨_, rfl, ?_⟩
    rw [if_pos (Or.inl z1)] at hQ
    exact hQ
  · refine bp_iload_n (q := 5) 2 rfl rfl rfl rfl ?_
    refine bp_aload_n (q := 6) 3 rfl rfl rfl rfl ?_
    refine bp_getI (q := 9) (ci := 2) (j := 5) 4 rfl rfl fl_Page_33_2 k0 rfl ?_
    refine bp_icmp_ge (q := 12) (tgt := 16) 5 rfl rfl (by decide) (fun z9 => ?_) (fun z9 => ?_)
    · refine bp_iconst (v := 0) (q := 17) 8 rfl rfl (by decide) ?_
      refine bp_iret 9 rfl rfl (by first | rfl | assumption) ⟨_, rfl, ?_⟩
      rw [if_pos (Or.inr (sz ▸ z9))] at hQ
      exact hQ
    · refine bp_iconst (v := 1) (q := 13) 6 rfl rfl (by decide) ?_
      refine bp_goto (tgt := 17) 7 rfl (by decide) ?_
      refine bp_iret 9 rfl rfl (by first | rfl | assumption) ⟨_, rfl, ?_⟩
      rw [if_neg (fun z => z.elim z1 (fun y => z9 (sz.symm ▸ y)))] at hQ
      exact hQ
set_option maxRecDepth 100000 in
set_option maxHeartbeats 4000000 in
theorem s_Page_alignmentOf {ro : Bool} {i : Int32} (hP : Pg h P L ps) (hQ : Q (some (.int (if i < 0 ∨ nI ps.length ≤ i then 0 else nI (p_a ps i.toNatClampNeg)))) h c s) : bp_AM l G H0 (1, 21, ro, ro) M_Page_alignmentOf h c s [.ref (P 0), .int i] Q := by
  refine bp_of (ls := [some (.ref (P 0)), some (.int i)]) (by decide) dt_Page_alignmentOf (Nat.le_of_ble_eq_true rfl) (fun q hq => hq) ro ?_
  obtain ⟨k0, r0, r1, r2, r3, r4, sz, ⟨k1, l1⟩, ⟨k2, l2⟩, ⟨k3, l3⟩, hn, hj, hc, hl, lc, ll, hinj⟩ := id hP
  refine bp_aload_n (q := 1) 0 rfl rfl rfl rfl ?_
  refine bp_iload_n (q := 2) 1 rfl rfl rfl rfl ?_
  refine bp_callV (q := 5) (ci := 2) 2 rfl rfl cw_Page_has lk_Page_40 rfl k0 wd808 wd809 rfl rfl (Nat.le_of_ble_eq_true rfl) ⟨Nat.le_of_ble_eq_true rfl, Nat.le_of_ble_eq_true rfl⟩ (s_Page_has (ro := ro) hP ?_)
  refine bp_if_eq (q := 8) (tgt := 17) 3 rfl rfl (by decide) (fun z5 => ?_) (fun z5 => ?_)
  · refine bp_iconst (v := 0) (q := 18) 9 rfl rfl (by decide) ?_
    refine bp_iret 10 rfl rfl rfl ⟨_, rfl, ?_⟩
    rw [if_pos (if01.mp z5)] at hQ
    exact hQ
  · obtain ⟨j, g1, g2, g3, g4⟩ := p_ix hn (fun z => z5 (if01.mpr z))
    refine bp_aload_n (q := 9) 4 rfl rfl rfl rfl ?_
    refine bp_getR (x := (P 1)) (q := 12) (ci := 2) (j := 0) 5 rfl rfl fl_Page_9_2 k0 rfl r0 ?_
    refine bp_iload_n (q := 13) 6 rfl rfl rfl rfl ?_
    refine bp_iald (q := 14) 7 rfl rfl k1 (l1 ▸ g4) ?_
    refine bp_goto (tgt := 18) 8 rfl (by decide) ?_
    refine bp_iret 10 rfl rfl rfl ⟨_, rfl, ?_⟩
    rw [if_neg (fun z => z5 (if01.mpr z)), g3, ← (hj j g1).1] at hQ
    rw [g3]
    exact hQ
set_option maxRecDepth 100000 in
set_option maxHeartbeats 4000000 in
theorem s_Page_indentOf {ro : Bool} {i : Int32} (hP : Pg h P L ps) (hQ : Q (some (.int (if i < 0 ∨ nI ps.length ≤ i then 0 else nI (p_i ps i.toNatClampNeg)))) h c s) : bp_AM l G H0 (1, 21, ro, ro) M_Page_indentOf h c s [.ref (P 0), .int i] Q := by
  refine bp_of (ls := [some (.ref (P 0)), some (.int i)]) (by decide) dt_Page_indentOf (Nat.le_of_ble_eq_true rfl) (fun q hq => hq) ro ?_
  obtain ⟨k0, r0, r1, r2, r3, r4, sz, ⟨k1, l1⟩, ⟨k2, l2⟩, ⟨k3, l3⟩, hn, hj, hc, hl, lc, ll, hinj⟩ := id hP
  refine bp_aload_n (q := 1) 0 rfl rfl rfl rfl ?_
  refine bp_iload_n (q := 2) 1 rfl rfl rfl rfl ?_
  refine bp_callV (q := 5) (ci := 2) 2 rfl rfl cw_Page_has lk_Page_40 rfl k0 wd808 wd809 rfl rfl (Nat.le_of_ble_eq_true rfl) ⟨Nat.le_of_ble_eq_true rfl, Nat.le_of_ble_eq_true rfl⟩ (s_Page_has (ro := ro) hP ?_)
  refine bp_if_eq (q := 8) (tgt := 17) 3 rfl rfl (by decide) (fun z5 => ?_) (fun z5 => ?_)
  · refine bp_iconst (v := 0) (q := 18) 9 rfl rfl (by decide) ?_
    refine bp_iret 10 rfl rfl rfl ⟨_, rfl, ?_⟩
    rw [if_pos (if01.mp z5)] at hQ
    exact hQ
  · obtain ⟨j, g1, g2, g3, g4⟩ := p_ix hn (fun z => z5 (if01.mpr z))
    refine bp_aload_n (q := 9) 4 rfl rfl rfl rfl ?_
    refine bp_getR (x := (P 2)) (q := 12) (ci := 2) (j := 1) 5 rfl rfl fl_Page_15_2 k0 rfl r1 ?_
    refine bp_iload_n (q := 13) 6 rfl rfl rfl rfl ?_
    refine bp_iald (q := 14) 7 rfl rfl k2 (l2 ▸ g4) ?_
    refine bp_goto (tgt := 18) 8 rfl (by decide) ?_
    refine bp_iret 10 rfl rfl rfl ⟨_, rfl, ?_⟩
    rw [if_neg (fun z => z5 (if01.mpr z)), g3, ← (hj j g1).2.1] at hQ
    rw [g3]
    exact hQ
set_option maxRecDepth 100000 in
set_option maxHeartbeats 4000000 in
theorem s_Page_endOf {ro : Bool} {i : Int32} (hP : Pg h P L ps) (hQ : Q (some (.int (if i < 0 ∨ nI ps.length ≤ i then 0 else nI (p_e ps i.toNatClampNeg)))) h c s) : bp_AM l G H0 (1, 21, ro, ro) M_Page_endOf h c s [.ref (P 0), .int i] Q := by
  refine bp_of (ls := [some (.ref (P 0)), some (.int i)]) (by decide) dt_Page_endOf (Nat.le_of_ble_eq_true rfl) (fun q hq => hq) ro ?_
  obtain ⟨k0, r0, r1, r2, r3, r4, sz, ⟨k1, l1⟩, ⟨k2, l2⟩, ⟨k3, l3⟩, hn, hj, hc, hl, lc, ll, hinj⟩ := id hP
  refine bp_aload_n (q := 1) 0 rfl rfl rfl rfl ?_
  refine bp_iload_n (q := 2) 1 rfl rfl rfl rfl ?_
  refine bp_callV (q := 5) (ci := 2) 2 rfl rfl cw_Page_has lk_Page_40 rfl k0 wd808 wd809 rfl rfl (Nat.le_of_ble_eq_true rfl) ⟨Nat.le_of_ble_eq_true rfl, Nat.le_of_ble_eq_true rfl⟩ (s_Page_has (ro := ro) hP ?_)
  refine bp_if_eq (q := 8) (tgt := 17) 3 rfl rfl (by decide) (fun z5 => ?_) (fun z5 => ?_)
  · refine bp_iconst (v := 0) (q := 18) 9 rfl rfl (by decide) ?_
    refine bp_iret 10 rfl rfl rfl ⟨_, rfl, ?_⟩
    rw [if_pos (if01.mp z5)] at hQ
    exact hQ
  · obtain ⟨j, g1, g2, g3, g4⟩ := p_ix hn (fun z => z5 (if01.mpr z))
    refine bp_aload_n (q := 9) 4 rfl rfl rfl rfl ?_
    refine bp_getR (x := (P 3)) (q := 12) (ci := 2) (j := 2) 5 rfl rfl fl_Page_18_2 k0 rfl r2 ?_
    refine bp_iload_n (q := 13) 6 rfl rfl rfl rfl ?_
    refine bp_iald (q := 14) 7 rfl rfl k3 (l3 ▸ g4) ?_
    refine bp_goto (tgt := 18) 8 rfl (by decide) ?_
    refine bp_iret 10 rfl rfl rfl ⟨_, rfl, ?_⟩
    rw [if_neg (fun z => z5 (if01.mpr z)), g3, ← (hj j g1).2.2] at hQ
    rw [g3]
    exact hQ
set_option maxRecDepth 100000 in
set_option maxHeartbeats 4000000 in
theorem s_Page_startOf {ro : Bool} {i : Int32} (hP : Pg h P L ps) (hQ : Q (some (.int (p_st ps i))) h c s) : bp_AM l G H0 (1, 21, ro, ro) M_Page_startOf h c s [.ref (P 0), .int i] Q := by
  refine bp_of (ls := [some (.ref (P 0)), some (.int i)]) (by decide) dt_Page_startOf (Nat.le_of_ble_eq_true rfl) (fun q hq => hq) ro ?_
  obtain ⟨k0, r0, r1, r2, r3, r4, sz, ⟨k1, l1⟩, ⟨k2, l2⟩, ⟨k3, l3⟩, hn, hj, hc, hl, lc, ll, hinj⟩ := id hP
  refine bp_aload_n (q := 1) 0 rfl rfl rfl rfl ?_
  refine bp_iload_n (q := 2) 1 rfl rfl rfl rfl ?_
  refine bp_iconst (v := 1) (q := 3) 2 rfl rfl (by decide) ?_
  refine bp_isub (q := 4) 3 rfl rfl ?_
  refine bp_callV (q := 7) (ci := 2) 4 rfl rfl cw_Page_has lk_Page_40 rfl k0 wd808 wd809 rfl rfl (Nat.le_of_ble_eq_true rfl) ⟨Nat.le_of_ble_eq_true rfl, Nat.le_of_ble_eq_true rfl⟩ (s_Page_has (ro := ro) hP ?_)
  refine bp_if_eq (q := 10) (tgt := 21) 5 rfl rfl (by decide) (fun z7 => ?_) (fun z7 => ?_)
  · refine bp_iconst (v := 0) (q := 22) 13 rfl rfl (by decide) ?_
    refine bp_iret 14 rfl rfl rfl ⟨_, rfl, ?_⟩
    rw [p_st, if_pos (if01.mp z7)] at hQ
    exact hQ
  · obtain ⟨j, g1, g2, g3, g4⟩ := p_ix hn (fun z => z7 (if01.mpr z))
    refine bp_aload_n (q := 11) 6 rfl rfl rfl rfl ?_
    refine bp_getR (x := (P 3)) (q := 14) (ci := 2) (j := 2) 7 rfl rfl fl_Page_18_2 k0 rfl r2 ?_
    refine bp_iload_n (q := 15) 8 rfl rfl rfl rfl ?_
    refine bp_iconst (v := 1) (q := 16) 9 rfl rfl (by decide) ?_
    refine bp_isub (q := 17) 10 rfl rfl ?_
    refine bp_iald (q := 18) 11 rfl rfl k3 (l3 ▸ g4) ?_
    refine bp_goto (tgt := 22) 12 rfl (by decide) ?_
    refine bp_iret 14 rfl rfl rfl ⟨_, rfl, ?_⟩
    rw [p_st, if_neg (fun z => z7 (if01.mpr z)), g3, ← (hj j g1).2.2] at hQ
    rw [g3]
    exact hQ
set_option maxRecDepth 100000 in
set_option maxHeartbeats 4000000 in
theorem s_Page_codeAt {ro : Bool} {i : Int32} (hP : Pg h P L ps) (hQ : Q (some (.int (rg (L.map (fun q => q.1)) i))) h c s) : bp_AM l G H0 (1, 21, ro, ro) M_Page_codeAt h c s [.ref (P 0), .int i] Q := by
  refine bp_of (ls := [some (.ref (P 0)), some (.int i)]) (by decide) dt_Page_codeAt (Nat.le_of_ble_eq_true rfl) (fun q hq => hq) ro ?_
  obtain ⟨k0, r0, r1, r2, r3, r4, sz, ⟨k1, l1⟩, ⟨k2, l2⟩, ⟨k3, l3⟩, hn, hj, hc, hl, lc, ll, hinj⟩ := id hP
  refine bp_aload_n (q := 1) 0 rfl rfl rfl rfl ?_
  refine bp_getR (x := (P 4)) (q := 4) (ci := 2) (j := 3) 1 rfl rfl fl_Page_26_2 k0 rfl r3 ?_
  refine bp_iload_n (q := 5) 2 rfl rfl rfl rfl ?_
  refine bp_callV (q := 8) (ci := 1) 3 rfl rfl cw_Row_get lk_Page_44 rfl hc.1 wd438 wd439 rfl rfl (Nat.le_of_ble_eq_true rfl) ⟨Nat.le_of_ble_eq_true rfl, Nat.le_of_ble_eq_true rfl⟩ (s_Row_get (ro := ro) hc ?_)
  exact bp_iret 4 rfl rfl rfl ⟨_, rfl, hQ⟩
set_option maxRecDepth 100000 in
set_option maxHeartbeats 4000000 in
theorem s_Page_lookAt {ro : Bool} {i : Int32} (hP : Pg h P L ps) (hQ : Q (some (.int (rg (L.map (fun q => q.2)) i))) h c s) : bp_AM l G H0 (1, 21, ro, ro) M_Page_lookAt h c s [.ref (P 0), .int i] Q := by
  refine bp_of (ls := [some (.ref (P 0)), some (.int i)]) (by decide) dt_Page_lookAt (Nat.le_of_ble_eq_true rfl) (fun q hq => hq) ro ?_
  obtain ⟨k0, r0, r1, r2, r3, r4, sz, ⟨k1, l1⟩, ⟨k2, l2⟩, ⟨k3, l3⟩, hn, hj, hc, hl, lc, ll, hinj⟩ := id hP
  refine bp_aload_n (q := 1) 0 rfl rfl rfl rfl ?_
  refine bp_getR (x := (P 6)) (q := 4) (ci := 2) (j := 4) 1 rfl rfl fl_Page_30_2 k0 rfl r4 ?_
  refine bp_iload_n (q := 5) 2 rfl rfl rfl rfl ?_
  refine bp_callV (q := 8) (ci := 1) 3 rfl rfl cw_Row_get lk_Page_44 rfl hl.1 wd438 wd439 rfl rfl (Nat.le_of_ble_eq_true rfl) ⟨Nat.le_of_ble_eq_true rfl, Nat.le_of_ble_eq_true rfl⟩ (s_Row_get (ro := ro) hl ?_)
  exact bp_iret 4 rfl rfl rfl ⟨_, rfl, hQ⟩
end PAGE
