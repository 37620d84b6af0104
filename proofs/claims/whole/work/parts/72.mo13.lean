/-! the reference's readings: small methods -/
theorem sm_c : ∀ n, n < 256 → ((nI n < 97 ↔ n < 97) ∧ (122 < nI n ↔ 122 < n)) ∧ ((nI n < 48 ↔ n < 48) ∧ (57 < nI n ↔ 57 < n)) ∧ (102 < nI n ↔ 102 < n) := by decide +kernel
theorem l64_inj : ∀ a, a < 128 → ∀ b, b < 128 → ((nI a).toInt64 = (nI b).toInt64 ↔ a = b) := by decide +kernel
/-- the text at u reads ys, from its k-th on -/
def rdB (T : List Nat) (u : Nat) (ys : List Nat) : Nat → Nat → Bool
  | 0, _ => true
  | n + 1, k => decide (tc T (u + k) = ys.getD k 0) && rdB T u ys n (k + 1)
theorem rdB_iff (T : List Nat) (u : Nat) (ys : List Nat) : ∀ n k, rdB T u ys n k = true ↔ ∀ j, k ≤ j → j < k + n → tc T (u + j) = ys.getD j 0
  | 0, k => ⟨fun _ j h1 h2 => by omega, fun _ => rfl⟩
  | n + 1, k => by
    rw [rdB, Bool.and_eq_true, decide_eq_true_eq, rdB_iff T u ys n (k + 1)]
    constructor
    · intro ⟨h1, h2⟩ j h3 h4
      by_cases e : j = k
      · rw [e]; exact h1
      · exact h2 j (by omega) (by omega)
    · intro h
      exact ⟨h k (Nat.le_refl _) (by omega), fun j h1 h2 => h j (by omega) (by omega)⟩
def nz (ys : List Nat) : Bool := ys.all (fun x => decide (x ≠ 0)) && decide (ys ≠ [])
theorem spl_rd {T ys : List Nat} {u v : Nat} (hz : nz ys = true) : spl T u v ys = (decide (v = u + ys.length) && rdB T u ys ys.length 0) := by
  have hz2 := hz
  unfold nz at hz2
  rw [Bool.and_eq_true, List.all_eq_true, decide_eq_true_eq] at hz2
  have hy : ∀ k, k < ys.length → ys.getD k 0 ≠ 0 := fun k hk => by
    have := hz2.1 (ys.getD k 0) (by rw [List.getD_eq_getElem?_getD, List.getElem?_eq_getElem hk]; exact List.getElem_mem hk)
    exact of_decide_eq_true this
  have hp : 0 < ys.length := List.length_pos_iff.mpr hz2.2
  rw [Bool.eq_iff_iff]
  unfold spl
  rw [Bool.and_eq_true, Bool.and_eq_true, Bool.and_eq_true, decide_eq_true_eq, decide_eq_true_eq, decide_eq_true_eq, rdB_iff]
  constructor
  · intro ⟨h1, h2, h3⟩
    refine ⟨h2, fun j _ hj => ?_⟩
    have e : ((T.drop u).take ys.length)[j]? = ys[j]? := by rw [h3]
    rw [List.getElem?_take, if_pos (by omega), List.getElem?_drop] at e
    unfold tc
    rw [List.getD_eq_getElem?_getD, List.getD_eq_getElem?_getD, e]
  · intro ⟨h2, h3⟩
    have hl : v ≤ T.length := by
      have a := h3 (ys.length - 1) (by omega) (by omega)
      have b := hy (ys.length - 1) (by omega)
      rw [← a] at b
      have := tc_in b
      omega
    refine ⟨hl, h2, List.ext_getElem? (fun j => ?_)⟩
    rw [List.getElem?_take, List.getElem?_drop]
    by_cases e : j < ys.length
    · rw [if_pos e]
      have a := h3 j (Nat.zero_le _) (by omega)
      unfold tc at a
      rw [List.getD_eq_getElem?_getD, List.getD_eq_getElem?_getD] at a
      rw [List.getElem?_eq_getElem (show u + j < T.length by omega), List.getElem?_eq_getElem e] at a ⊢
      rw [show T[u + j] = ys[j] from a]
    · rw [if_neg e, List.getElem?_eq_none (by omega)]
theorem mlV_cm {v : Nat → Nat} (h : okV v) : mlV v = cmL (lkV v) := by
  obtain ⟨h0, h1, h2, h3, -⟩ := h
  unfold mlV cmL lkV
  omega
section MO13
variable {l : Launch} {G : bp_G} {H0 : Heap} {M : Nat → Nat} {h0 h : bp_H} {tw : Int32} {i : Nat} {fa : Int32} {fm : Int32} {tl : Int32} {lk : Nat} {al : Nat} {ind : Nat} {sk : Nat} {dp : Nat} {lv : Nat} {fr : Bool} {en : Nat} {nf : Nat} {nn : Nat} {dg : Nat} {nu : Int32} {kd : Nat} {pn : Int32} {pe : Nat} {T : List Nat} {xs : List Nat} {L : List (Nat × Nat)} {ps : List (Nat × Nat × Nat)} {L1 : List (Nat × Nat)} {p1 : List (Nat × Nat × Nat)} {nt : List (Nat → Nat)} {tb : List Nat} {fd : List Nat} {c s : Nat} {Q : Option Value → bp_H → Nat → Nat → Prop}
set_option maxRecDepth 100000 in
set_option maxHeartbeats 4000000 in
theorem s_Mo_fail0 {x y : Int32} (hB0 : MoX M h0 h tw i fa fm tl lk al ind sk dp lv fr en nf nn dg nu kd pn pe T xs L ps L1 p1 nt tb fd) (hf : fa = 0) (hQ : ∀ h', MoX M h0 h' tw i x y tl lk al ind sk dp lv fr en nf nn dg nu kd pn pe T xs L ps L1 p1 nt tb fd → Q none h' c s) : bp_AM l G H0 (0, 0, false, false) M_Mo_fail h c s [.ref (M 0), .int x, .int y] Q := by
  refine bp_of (ls := [some (.ref (M 0)), some (.int x), some (.int y)]) (by decide) dt_Mo_fail (Nat.le_of_ble_eq_true rfl) (fun q hq => hq) false ?_
  refine bp_aload_n (q := 1) 0 rfl rfl rfl rfl ?_
  refine bp_getI (q := 4) (ci := 9) (j := 13) 1 rfl rfl fl_Mo_69_9 hB0.kb rfl ?_
  rw [hB0.i13]
  refine bp_if_ne (q := 7) (tgt := 17) 2 rfl rfl (by decide) (fun z4 => ?_) (fun z4 => ?_)
  · exact absurd hf z4
  · refine bp_aload_n (q := 8) 3 rfl rfl rfl rfl ?_
    refine bp_iload_n (q := 9) 4 rfl rfl rfl rfl ?_
    refine bp_putI (q := 12) (ci := 9) (j := 13) 5 rfl rfl fl_Mo_69_9 cl9 hB0.kb (fun r hr => by cases hr; rfl) (by decide) rfl rfl ?_
    refine bp_nx (X := fun h1 => MoX M h0 h1 tw i x fm tl lk al ind sk dp lv fr en nf nn dg nu kd pn pe T xs L ps L1 p1 nt tb fd) (hB0.s13 rfl) (fun h1 hB1 => ?_)
    refine bp_aload_n (q := 13) 6 rfl rfl rfl rfl ?_
    refine bp_iload_n (q := 14) 7 rfl rfl rfl rfl ?_
    refine bp_putI (q := 17) (ci := 9) (j := 14) 8 rfl rfl fl_Mo_72_9 cl9 hB1.kb (fun r hr => by cases hr; rfl) (by decide) rfl rfl ?_
    refine bp_nx (X := fun h2 => MoX M h0 h2 tw i x y tl lk al ind sk dp lv fr en nf nn dg nu kd pn pe T xs L ps L1 p1 nt tb fd) (hB1.s14 rfl) (fun h2 hB2 => ?_)
    exact bp_vret 9 rfl rfl  ⟨_, rfl, hQ _ hB2⟩
set_option maxRecDepth 100000 in
set_option maxHeartbeats 4000000 in
theorem s_Mo_fail1 {x y : Int32} (hB0 : MoX M h0 h tw i fa fm tl lk al ind sk dp lv fr en nf nn dg nu kd pn pe T xs L ps L1 p1 nt tb fd) (hf : ¬ fa = 0) (hQ : Q none h c s) : bp_AM l G H0 (0, 0, false, false) M_Mo_fail h c s [.ref (M 0), .int x, .int y] Q := by
  refine bp_of (ls := [some (.ref (M 0)), some (.int x), some (.int y)]) (by decide) dt_Mo_fail (Nat.le_of_ble_eq_true rfl) (fun q hq => hq) false ?_
  refine bp_aload_n (q := 1) 0 rfl rfl rfl rfl ?_
  refine bp_getI (q := 4) (ci := 9) (j := 13) 1 rfl rfl fl_Mo_69_9 hB0.kb rfl ?_
  rw [hB0.i13]
  refine bp_if_ne (q := 7) (tgt := 17) 2 rfl rfl (by decide) (fun z4 => ?_) (fun z4 => ?_)
  · exact bp_vret 9 rfl rfl  ⟨_, rfl, hQ⟩
  · exact absurd z4 hf
set_option maxRecDepth 100000 in
set_option maxHeartbeats 4000000 in
theorem s_Mo_failIfN {b x y : Int32} (hB0 : MoX M h0 h tw i fa fm tl lk al ind sk dp lv fr en nf nn dg nu kd pn pe T xs L ps L1 p1 nt tb fd) (hb : b = 0) (hQ : Q none h c s) : bp_AM l G H0 (1, 22, false, false) M_Mo_failIf h c s [.ref (M 0), .int b, .int x, .int y] Q := by
  refine bp_of (ls := [some (.ref (M 0)), some (.int b), some (.int x), some (.int y)]) (by decide) dt_Mo_failIf (Nat.le_of_ble_eq_true rfl) (fun q hq => hq) false ?_
  refine bp_iload_n (q := 1) 0 rfl rfl rfl rfl ?_
  refine bp_if_eq (q := 4) (tgt := 10) 1 rfl rfl (by decide) (fun z1 => ?_) (fun z1 => ?_)
  · exact bp_vret 6 rfl rfl  ⟨_, rfl, hQ⟩
  · exact absurd hb z1
set_option maxRecDepth 100000 in
set_option maxHeartbeats 4000000 in
theorem s_Mo_failIf0 {b x y : Int32} (hB0 : MoX M h0 h tw i fa fm tl lk al ind sk dp lv fr en nf nn dg nu kd pn pe T xs L ps L1 p1 nt tb fd) (hb : ¬ b = 0) (hf : fa = 0) (hQ : ∀ h', MoX M h0 h' tw i x y tl lk al ind sk dp lv fr en nf nn dg nu kd pn pe T xs L ps L1 p1 nt tb fd → Q none h' c s) : bp_AM l G H0 (1, 22, false, false) M_Mo_failIf h c s [.ref (M 0), .int b, .int x, .int y] Q := by
  refine bp_of (ls := [some (.ref (M 0)), some (.int b), some (.int x), some (.int y)]) (by decide) dt_Mo_failIf (Nat.le_of_ble_eq_true rfl) (fun q hq => hq) false ?_
  refine bp_iload_n (q := 1) 0 rfl rfl rfl rfl ?_
  refine bp_if_eq (q := 4) (tgt := 10) 1 rfl rfl (by decide) (fun z1 => ?_) (fun z1 => ?_)
  · exact absurd z1 hb
  · refine bp_aload_n (q := 5) 2 rfl rfl rfl rfl ?_
    refine bp_iload_n (q := 6) 3 rfl rfl rfl rfl ?_
    refine bp_iload_n (q := 7) 4 rfl rfl rfl rfl ?_
    refine bp_callV (q := 10) (ci := 9) 5 rfl rfl cw_Mo_fail lk_Mo_75 rfl hB0.kb wd1453 wd45 rfl rfl (Nat.le_of_ble_eq_true rfl) ⟨Nat.le_of_ble_eq_true rfl, Nat.le_of_ble_eq_true rfl⟩ (s_Mo_fail0 hB0 hf (fun h1 hB1 => ?_))
    exact bp_vret 6 rfl rfl  ⟨_, rfl, hQ _ hB1⟩
set_option maxRecDepth 100000 in
set_option maxHeartbeats 4000000 in
theorem s_Mo_failIf1 {b x y : Int32} (hB0 : MoX M h0 h tw i fa fm tl lk al ind sk dp lv fr en nf nn dg nu kd pn pe T xs L ps L1 p1 nt tb fd) (hf : ¬ fa = 0) (hQ : Q none h c s) : bp_AM l G H0 (1, 22, false, false) M_Mo_failIf h c s [.ref (M 0), .int b, .int x, .int y] Q := by
  refine bp_of (ls := [some (.ref (M 0)), some (.int b), some (.int x), some (.int y)]) (by decide) dt_Mo_failIf (Nat.le_of_ble_eq_true rfl) (fun q hq => hq) false ?_
  refine bp_iload_n (q := 1) 0 rfl rfl rfl rfl ?_
  refine bp_if_eq (q := 4) (tgt := 10) 1 rfl rfl (by decide) (fun z1 => ?_) (fun z1 => ?_)
  · exact bp_vret 6 rfl rfl  ⟨_, rfl, hQ⟩
  · refine bp_aload_n (q := 5) 2 rfl rfl rfl rfl ?_
    refine bp_iload_n (q := 6) 3 rfl rfl rfl rfl ?_
    refine bp_iload_n (q := 7) 4 rfl rfl rfl rfl ?_
    refine bp_callV (q := 10) (ci := 9) 5 rfl rfl cw_Mo_fail lk_Mo_75 rfl hB0.kb wd1453 wd45 rfl rfl (Nat.le_of_ble_eq_true rfl) ⟨Nat.le_of_ble_eq_true rfl, Nat.le_of_ble_eq_true rfl⟩ (s_Mo_fail1 hB0 hf ?_)
    exact bp_vret 6 rfl rfl  ⟨_, rfl, hQ⟩
set_option maxRecDepth 100000 in
set_option maxHeartbeats 4000000 in
theorem s_Mo_charAt {ro : Bool} {k : Nat} (hB0 : MoX M h0 h tw i fa fm tl lk al ind sk dp lv fr en nf nn dg nu kd pn pe T xs L ps L1 p1 nt tb fd) (hT : okT T) (hk : k < 1000000) (hQ : Q (some (.int (nI (tc T k)))) h c s) : bp_AM l G H0 (0, 0, ro, ro) M_Mo_charAt h c s [.ref (M 0), .int (nI k)] Q := by
  refine bp_of (ls := [some (.ref (M 0)), some (.int (nI k))]) (by decide) dt_Mo_charAt (Nat.le_of_ble_eq_true rfl) (fun q hq => hq) ro ?_
  refine bp_iload_n (q := 1) 0 rfl rfl rfl rfl ?_
  refine bp_aload_n (q := 2) 1 rfl rfl rfl rfl ?_
  refine bp_getI (q := 5) (ci := 9) (j := 1) 2 rfl rfl fl_Mo_63_9 hB0.kb rfl ?_
  rw [hB0.i1]
  refine bp_icmp_ge (q := 8) (tgt := 17) 3 rfl rfl (by decide) (fun z5 => ?_) (fun z5 => ?_)
  · refine bp_iconst (v := 0) (q := 18) 9 rfl rfl (by decide) ?_
    refine bp_iret 10 rfl rfl (by first | rfl | exact ch_nar (by have := tc_lt hT k; unfold tc at this; omega)) ⟨_, rfl, ?_⟩
    rw [tc_out ((nI_le_iff (by have := hT.1; omega) hk).mp z5)] at hQ
    exact hQ
  · refine bp_aload_n (q := 9) 4 rfl rfl rfl rfl ?_
    refine bp_getR (x := M 2) (q := 12) (ci := 9) (j := 2) 5 rfl rfl fl_Mo_7_9 hB0.kb rfl hB0.r2 ?_
    refine bp_iload_n (q := 13) 6 rfl rfl rfl rfl ?_
    refine bp_cald (q := 14) 7 rfl rfl hB0.k2 (vp_inL hB0.l2 (by have := hB0.2.2.2.1.1; have := (nI_lt_iff hk (by omega)).mp (Int32.not_le.mp z5); omega) (by decide)) ?_
    have y5 := (nI_lt_iff hk (by have := hT.1; omega)).mp (Int32.not_le.mp z5)
    rw [nI_clamp (by omega), hB0.2.2.2.1.2 k y5]
    refine bp_goto (tgt := 18) 8 rfl (by decide) ?_
    exact bp_iret 10 rfl rfl (by first | rfl | exact ch_nar (by have := tc_lt hT k; unfold tc at this; omega)) ⟨_, rfl, hQ⟩
set_option maxRecDepth 100000 in
set_option maxHeartbeats 4000000 in
theorem s_Mo_small {ro : Bool} {n : Nat} (hn : n < 256) (hQ : Q (some (.int (bI (smL n)))) h c s) : bp_AM l G H0 (0, 0, ro, ro) M_Mo_small h c s [.int (nI n)] Q := by
  refine bp_of (ls := [some (.int (nI n))]) (by decide) dt_Mo_small (Nat.le_of_ble_eq_true rfl) (fun q hq => hq) ro ?_
  refine bp_iload_n (q := 1) 0 rfl rfl rfl rfl ?_
  refine bp_bipush (v := 97) (q := 3) 1 rfl rfl (by decide) ?_
  refine bp_icmp_lt (q := 6) (tgt := 16) 2 rfl rfl (by decide) (fun z3 => ?_) (fun z3 => ?_)
  · refine bp_iconst (v := 0) (q := 17) 8 rfl rfl (by decide) ?_
    refine bp_iret 9 rfl rfl (by first | rfl | exact bI_nar _) ⟨_, rfl, ?_⟩
    unfold smL at hQ
    rw [decide_eq_false (show ¬ 97 ≤ n by have := (sm_c n hn).1.1.mp z3; omega), Bool.false_and] at hQ
    exact hQ
  · refine bp_iload_n (q := 7) 3 rfl rfl rfl rfl ?_
    refine bp_bipush (v := 122) (q := 9) 4 rfl rfl (by decide) ?_
    refine bp_icmp_gt (q := 12) (tgt := 16) 5 rfl rfl (by decide) (fun z9 => ?_) (fun z9 => ?_)
    · refine bp_iconst (v := 0) (q := 17) 8 rfl rfl (by decide) ?_
      refine bp_iret 9 rfl rfl (by first | rfl | exact bI_nar _) ⟨_, rfl, ?_⟩
      unfold smL at hQ
      rw [decide_eq_true (show 97 ≤ n by have := mt (sm_c n hn).1.1.mpr z3; omega), decide_eq_false (show ¬ n ≤ 122 by have := (sm_c n hn).1.2.mp z9; omega), Bool.and_false] at hQ
      exact hQ
    · refine bp_iconst (v := 1) (q := 13) 6 rfl rfl (by decide) ?_
      refine bp_goto (tgt := 17) 7 rfl (by decide) ?_
      refine bp_iret 9 rfl rfl (by first | rfl | exact bI_nar _) ⟨_, rfl, ?_⟩
      unfold smL at hQ
      rw [decide_eq_true (show 97 ≤ n by have := mt (sm_c n hn).1.1.mpr z3; omega), decide_eq_true (show n ≤ 122 by have := mt (sm_c n hn).1.2.mpr z9; omega), Bool.and_true] at hQ
      exact hQ
set_option maxRecDepth 100000 in
set_option maxHeartbeats 4000000 in
theorem s_Mo_digit {ro : Bool} {n : Nat} (hn : n < 256) (hQ : Q (some (.int (bI (dgL n)))) h c s) : bp_AM l G H0 (0, 0, ro, ro) M_Mo_digit h c s [.int (nI n)] Q := by
  refine bp_of (ls := [some (.int (nI n))]) (by decide) dt_Mo_digit (Nat.le_of_ble_eq_true rfl) (fun q hq => hq) ro ?_
  refine bp_iload_n (q := 1) 0 rfl rfl rfl rfl ?_
  refine bp_bipush (v := 48) (q := 3) 1 rfl rfl (by decide) ?_
  refine bp_icmp_lt (q := 6) (tgt := 16) 2 rfl rfl (by decide) (fun z3 => ?_) (fun z3 => ?_)
  · refine bp_iconst (v := 0) (q := 17) 8 rfl rfl (by decide) ?_
    refine bp_iret 9 rfl rfl (by first | rfl | exact bI_nar _) ⟨_, rfl, ?_⟩
    unfold dgL at hQ
    rw [decide_eq_false (show ¬ 48 ≤ n by have := (sm_c n hn).2.1.1.mp z3; omega), Bool.false_and] at hQ
    exact hQ
  · refine bp_iload_n (q := 7) 3 rfl rfl rfl rfl ?_
    refine bp_bipush (v := 57) (q := 9) 4 rfl rfl (by decide) ?_
    refine bp_icmp_gt (q := 12) (tgt := 16) 5 rfl rfl (by decide) (fun z9 => ?_) (fun z9 => ?_)
    · refine bp_iconst (v := 0) (q := 17) 8 rfl rfl (by decide) ?_
      refine bp_iret 9 rfl rfl (by first | rfl | exact bI_nar _) ⟨_, rfl, ?_⟩
      unfold dgL at hQ
      rw [decide_eq_true (show 48 ≤ n by have := mt (sm_c n hn).2.1.1.mpr z3; omega), decide_eq_false (show ¬ n ≤ 57 by have := (sm_c n hn).2.1.2.mp z9; omega), Bool.and_false] at hQ
      exact hQ
    · refine bp_iconst (v := 1) (q := 13) 6 rfl rfl (by decide) ?_
      refine bp_goto (tgt := 17) 7 rfl (by decide) ?_
      refine bp_iret 9 rfl rfl (by first | rfl | exact bI_nar _) ⟨_, rfl, ?_⟩
      unfold dgL at hQ
      rw [decide_eq_true (show 48 ≤ n by have := mt (sm_c n hn).2.1.1.mpr z3; omega), decide_eq_true (show n ≤ 57 by have := mt (sm_c n hn).2.1.2.mpr z9; omega), Bool.and_true] at hQ
      exact hQ
theorem hx_c : ∀ n, n < 256 → (dgL n = true → nI n - 48 = nI (n - 48) ∧ hxV n = some (n - 48)) ∧ (97 ≤ n ∧ n ≤ 102 → nI n - 97 + 10 = nI (n - 87) ∧ hxV n = some (n - 87)) ∧ (dgL n = false ∧ ¬ (97 ≤ n ∧ n ≤ 102) → hxV n = none) := by decide +kernel
def hxI (n : Nat) : Int32 := match hxV n with
  | some k => nI k
  | none => -1
set_option maxRecDepth 100000 in
set_option maxHeartbeats 4000000 in
theorem s_Mo_hex {ro : Bool} {n : Nat} (hn : n < 256) (hQ : Q (some (.int (match hxV n with | some k => nI k | none => -1))) h c s) : bp_AM l G H0 (1, 20, ro, ro) M_Mo_hex h c s [.int (nI n)] Q := by
  refine bp_of (ls := [some (.int (nI n))]) (by decide) dt_Mo_hex (Nat.le_of_ble_eq_true rfl) (fun q hq => hq) ro ?_
  refine bp_iload_n (q := 1) 0 rfl rfl rfl rfl ?_
  refine bp_callS (q := 4) 1 rfl rfl cw_Mo_digit lk_Mo_158 wd1479 rfl rfl (Nat.le_of_ble_eq_true rfl) ⟨Nat.le_of_ble_eq_true rfl, Nat.le_of_ble_eq_true rfl⟩ (s_Mo_digit (ro := ro) hn ?_)
  refine bp_if_eq (q := 7) (tgt := 14) 2 rfl rfl (by decide) (fun z4 => ?_) (fun z4 => ?_)
  · refine bp_iload_n (q := 15) 7 rfl rfl rfl rfl ?_
    refine bp_bipush (v := 97) (q := 17) 8 rfl rfl (by decide) ?_
    refine bp_icmp_lt (q := 20) (tgt := 36) 9 rfl rfl (by decide) (fun z17 => ?_) (fun z17 => ?_)
    · refine bp_iconst (v := -1) (q := 37) 19 rfl rfl (by decide) ?_
      refine bp_iret 20 rfl rfl rfl ⟨_, rfl, ?_⟩
      rw [(hx_c n hn).2.2 ⟨bI0.mp z4, by have := (sm_c n hn).1.1.mp z17; omega⟩] at hQ
      exact hQ
    · refine bp_iload_n (q := 21) 10 rfl rfl rfl rfl ?_
      refine bp_bipush (v := 102) (q := 23) 11 rfl rfl (by decide) ?_
      refine bp_icmp_gt (q := 26) (tgt := 36) 12 rfl rfl (by decide) (fun z23 => ?_) (fun z23 => ?_)
      · refine bp_iconst (v := -1) (q := 37) 19 rfl rfl (by decide) ?_
        refine bp_iret 20 rfl rfl rfl ⟨_, rfl, ?_⟩
        rw [(hx_c n hn).2.2 ⟨bI0.mp z4, by have := (sm_c n hn).2.2.mp z23; omega⟩] at hQ
        exact hQ
      · refine bp_iload_n (q := 27) 13 rfl rfl rfl rfl ?_
        refine bp_bipush (v := 97) (q := 29) 14 rfl rfl (by decide) ?_
        refine bp_isub (q := 30) 15 rfl rfl ?_
        refine bp_bipush (v := 10) (q := 32) 16 rfl rfl (by decide) ?_
        refine bp_iadd (q := 33) 17 rfl rfl ?_
        refine bp_goto (tgt := 37) 18 rfl (by decide) ?_
        refine bp_iret 20 rfl rfl rfl ⟨_, rfl, ?_⟩
        have a := (hx_c n hn).2.1 ⟨by have := mt (sm_c n hn).1.1.mpr z17; omega, by have := mt (sm_c n hn).2.2.mpr z23; omega⟩
        rw [a.2] at hQ
        rw [a.1]
        exact hQ
  · refine bp_iload_n (q := 8) 3 rfl rfl rfl rfl ?_
    refine bp_bipush (v := 48) (q := 10) 4 rfl rfl (by decide) ?_
    refine bp_isub (q := 11) 5 rfl rfl ?_
    refine bp_goto (tgt := 37) 6 rfl (by decide) ?_
    refine bp_iret 20 rfl rfl rfl ⟨_, rfl, ?_⟩
    have a := (hx_c n hn).1 (bI1 z4)
    rw [a.2] at hQ
    rw [a.1]
    exact hQ
set_option maxRecDepth 100000 in
set_option maxHeartbeats 4000000 in
theorem lp_Mo_reads {ro : Bool} {x : Int64} {ys : List Nat} {u : Nat} {v2 : Int32} (hB0 : MoX M h0 h tw i fa fm tl lk al ind sk dp lv fr en nf nn dg nu kd pn pe T xs L ps L1 p1 nt tb fd) (hT : okT T) (hx : ltx x ys) (hu : u < 100000) (hyl : ys.length ≤ 8) : ∀ (m k : Nat) (g : Bool), m + k = ys.length → Q (some (.int (bI (g && rdB T u ys m k)))) h c s → bp_A l G H0 (1, 22, ro, ro) M_Mo_reads h c s 20 [some (.ref (M 0)), some (.int (nI u)), some (.int v2), some (.long x), none, some (.int (bI g)), some (.int (nI k))] [] (fun o h' c' s' => ∃ v, o = .returned v ∧ Q v h' c' s') := by
  intro m
  induction m with
  | zero =>
    intro k g hm hQ
    refine bp_iload (q := 22) 12 rfl rfl rfl ?_
    refine bp_lload_n (q := 23) 13 rfl rfl rfl rfl ?_
    refine bp_callS (q := 26) 14 rfl rfl cw_Mo_sizeOf lk_Mo_79 wd1499 rfl rfl (Nat.le_of_ble_eq_true rfl) ⟨Nat.le_of_ble_eq_true rfl, Nat.le_of_ble_eq_true rfl⟩ (s_Mo_sizeOf (ro := ro) ?_)
    rw [hx.1]
    refine bp_icmp_ge (q := 29) (tgt := 71) 15 rfl rfl (by decide) (fun z26 => ?_) (fun z26 => ?_)
    · refine bp_iload (q := 73) 39 rfl rfl rfl ?_
      refine bp_iret 40 rfl rfl (by exact bI_nar _) ⟨_, rfl, ?_⟩
      rw [rdB, Bool.and_true] at hQ
      exact hQ
    · exact absurd (nI_le (b := k) (a := ys.length) (by omega) (by omega)) z26
  | succ m ih =>
    intro k g hm hQ
    refine bp_iload (q := 22) 12 rfl rfl rfl ?_
    refine bp_lload_n (q := 23) 13 rfl rfl rfl rfl ?_
    refine bp_callS (q := 26) 14 rfl rfl cw_Mo_sizeOf lk_Mo_79 wd1499 rfl rfl (Nat.le_of_ble_eq_true rfl) ⟨Nat.le_of_ble_eq_true rfl, Nat.le_of_ble_eq_true rfl⟩ (s_Mo_sizeOf (ro := ro) ?_)
    rw [hx.1]
    refine bp_icmp_ge (q := 29) (tgt := 71) 15 rfl rfl (by decide) (fun z26 => ?_) (fun z26 => ?_)
    · exact absurd z26 (nI_ge (a := k) (b := ys.length) (by omega) (by have := hyl; omega))
    · refine bp_iload (q := 31) 16 rfl rfl rfl ?_
      refine bp_if_eq (q := 34) (tgt := 71) 17 rfl rfl (by decide) (fun z31 => ?_) (fun z31 => ?_)
      · refine bp_iload (q := 73) 39 rfl rfl rfl ?_
        refine bp_iret 40 rfl rfl (by exact bI_nar _) ⟨_, rfl, ?_⟩
        have yg : g = false := bI0.mp z31
        subst yg
        exact hQ
      · refine bp_aload_n (q := 35) 18 rfl rfl rfl rfl ?_
        refine bp_iload_n (q := 36) 19 rfl rfl rfl rfl ?_
        refine bp_iload (q := 38) 20 rfl rfl rfl ?_
        refine bp_iadd (q := 39) 21 rfl rfl ?_
        rw [nI_add]
        refine bp_callV (q := 42) (ci := 9) 22 rfl rfl cw_Mo_charAt lk_Mo_83 rfl hB0.kb wd1445 wd43 rfl rfl (Nat.le_of_ble_eq_true rfl) ⟨Nat.le_of_ble_eq_true rfl, Nat.le_of_ble_eq_true rfl⟩ (s_Mo_charAt (ro := ro) hB0 hT (by omega) ?_)
        refine bp_i2l (q := 43) 23 rfl rfl ?_
        refine bp_lload_n (q := 44) 24 rfl rfl rfl rfl ?_
        refine bp_bipush (v := 8) (q := 46) 25 rfl rfl (by decide) ?_
        refine bp_iload (q := 48) 26 rfl rfl rfl ?_
        refine bp_imul (q := 49) 27 rfl rfl ?_
        refine bp_lushr (q := 50) 28 rfl rfl ?_
        refine bp_ldc2 (q := 53) 29 rfl rfl wd1423 ?_
        refine bp_land (q := 54) 30 rfl rfl ?_
        rw [show (x.toUInt64 >>> ((8 * nI k).toInt64.toUInt64 &&& Int64.toUInt64 63)).toInt64 &&& 255 = (nI (ys.getD k 0)).toInt64 from (hx.2 k (by omega)).2.1]
        refine bp_lcmp (q := 55) 31 rfl rfl ?_
        refine bp_if_ne (q := 58) (tgt := 62) 32 rfl rfl (by decide) (fun z55 => ?_) (fun z55 => ?_)
        · refine bp_iconst (v := 0) (q := 63) 35 rfl rfl (by decide) ?_
          have yc : ¬ tc T (u + k) = ys.getD k 0 := fun e => z55 ((lg_cmp_eq _ _).mpr ((l64_inj _ (tc_lt hT _) _ (hx.2 k (by omega)).2.2).mpr e))
          have yg : g = true := bI1 z31
          subst yg
          refine bp_istore (q := 65) 36 rfl rfl (by decide) (bp_up5 rfl) ?_
          refine bp_iinc (v := nI (k + 1)) (q := 68) 37 rfl rfl rfl (nI_1 k) (by decide) (bp_up6 rfl) ?_
          refine bp_goto (tgt := 20) 38 rfl (by decide) ?_
          rw [rdB, decide_eq_false yc] at hQ
          exact ih (k + 1) false (by omega) hQ
        · refine bp_iconst (v := 1) (q := 59) 33 rfl rfl (by decide) ?_
          have yc : tc T (u + k) = ys.getD k 0 := (l64_inj _ (tc_lt hT _) _ (hx.2 k (by omega)).2.2).mp ((lg_cmp_eq _ _).mp z55)
          have yg : g = true := bI1 z31
          subst yg
          refine bp_goto (tgt := 63) 34 rfl (by decide) ?_
          refine bp_istore (q := 65) 36 rfl rfl (by decide) (bp_up5 rfl) ?_
          refine bp_iinc (v := nI (k + 1)) (q := 68) 37 rfl rfl rfl (nI_1 k) (by decide) (bp_up6 rfl) ?_
          refine bp_goto (tgt := 20) 38 rfl (by decide) ?_
          rw [rdB, decide_eq_true yc] at hQ
          exact ih (k + 1) true (by omega) hQ
set_option maxRecDepth 100000 in
set_option maxHeartbeats 4000000 in
theorem s_Mo_reads {ro : Bool} {u v : Nat} {x : Int64} {ys : List Nat} (hB0 : MoX M h0 h tw i fa fm tl lk al ind sk dp lv fr en nf nn dg nu kd pn pe T xs L ps L1 p1 nt tb fd) (hT : okT T) (hx : ltx x ys) (hz : nz ys = true) (hu : u < 100000) (hv : v < 100000) (huv : u ≤ v) (hQ : Q (some (.int (bI (spl T u v ys)))) h c s) : bp_AM l G H0 (1, 22, ro, ro) M_Mo_reads h c s [.ref (M 0), .int (nI u), .int (nI v), .long x] Q := by
  refine bp_of (ls := [some (.ref (M 0)), some (.int (nI u)), some (.int (nI v)), some (.long x), none, none, none]) (by decide) dt_Mo_reads (Nat.le_of_ble_eq_true rfl) (fun q hq => hq) ro ?_
  have hyl : ys.length ≤ 8 := by have := lsz_le x 8 0; rw [hx.1] at this; omega
  refine bp_iload_n (q := 1) 0 rfl rfl rfl rfl ?_
  refine bp_iload_n (q := 2) 1 rfl rfl rfl rfl ?_
  refine bp_isub (q := 3) 2 rfl rfl ?_
  rw [nI_sub huv]
  refine bp_lload_n (q := 4) 3 rfl rfl rfl rfl ?_
  refine bp_callS (q := 7) 4 rfl rfl cw_Mo_sizeOf lk_Mo_79 wd1499 rfl rfl (Nat.le_of_ble_eq_true rfl) ⟨Nat.le_of_ble_eq_true rfl, Nat.le_of_ble_eq_true rfl⟩ (s_Mo_sizeOf (ro := ro) ?_)
  rw [hx.1]
  refine bp_icmp_ne (q := 10) (tgt := 14) 5 rfl rfl (by decide) (fun z7 => ?_) (fun z7 => ?_)
  · refine bp_iconst (v := 0) (q := 15) 8 rfl rfl (by decide) ?_
    refine bp_istore (q := 17) 9 rfl rfl (by decide) (bp_up5 rfl) ?_
    refine bp_iconst (v := 0) (q := 18) 10 rfl rfl (by decide) ?_
    refine bp_istore (q := 20) 11 rfl rfl (by decide) (bp_up6 rfl) ?_
    have y7 : ¬ v = u + ys.length := fun e => z7 (by rw [e, Nat.add_sub_cancel_left])
    refine lp_Mo_reads hB0 hT hx hu hyl ys.length 0 false (Nat.add_zero _) ?_
    rw [spl_rd hz, decide_eq_false y7] at hQ
    exact hQ
  · refine bp_iconst (v := 1) (q := 11) 6 rfl rfl (by decide) ?_
    refine bp_goto (tgt := 15) 7 rfl (by decide) ?_
    refine bp_istore (q := 17) 9 rfl rfl (by decide) (bp_up5 rfl) ?_
    refine bp_iconst (v := 0) (q := 18) 10 rfl rfl (by decide) ?_
    refine bp_istore (q := 20) 11 rfl rfl (by decide) (bp_up6 rfl) ?_
    have y7 : v = u + ys.length := by have := (nI_eq_iff (by omega) (by omega)).mp z7; omega
    refine lp_Mo_reads hB0 hT hx hu hyl ys.length 0 true (Nat.add_zero _) ?_
    rw [spl_rd hz, decide_eq_true y7] at hQ
    exact hQ
theorem lv_c : ∀ n, n < 1000 → (nI n ≤ 0 ↔ n = 0) := by decide +kernel
set_option maxRecDepth 100000 in
set_option maxHeartbeats 4000000 in
theorem s_Mo_leftOut  (hB0 : MoX M h0 h tw i fa fm tl lk al ind sk dp lv fr en nf nn dg nu kd pn pe T xs L ps L1 p1 nt tb fd) (hlv : lv < 1000) (hQ : ∀ h', MoX M h0 h' tw i fa fm tl lk al ind sk dp (lv - 1) fr en nf nn dg nu kd pn pe T xs L ps L1 p1 nt tb fd → Q (some (.int (bI (decide (lv ≠ 0))))) h' c s) : bp_AM l G H0 (0, 0, false, false) M_Mo_leftOut h c s [.ref (M 0)] Q := by
  refine bp_of (ls := [some (.ref (M 0)), none]) (by decide) dt_Mo_leftOut (Nat.le_of_ble_eq_true rfl) (fun q hq => hq) false ?_
  refine bp_aload_n (q := 1) 0 rfl rfl rfl rfl ?_
  refine bp_getI (q := 4) (ci := 9) (j := 22) 1 rfl rfl fl_Mo_108_9 hB0.kb rfl ?_
  rw [hB0.i22]
  refine bp_if_le (q := 7) (tgt := 11) 2 rfl rfl (by decide) (fun z4 => ?_) (fun z4 => ?_)
  · refine bp_iconst (v := 0) (q := 12) 5 rfl rfl (by decide) ?_
    refine bp_istore_n (q := 13) 6 rfl rfl rfl (by decide) (bp_up1 rfl) ?_
    refine bp_aload_n (q := 14) 7 rfl rfl rfl rfl ?_
    refine bp_iload_n (q := 15) 8 rfl rfl rfl rfl ?_
    refine bp_if_eq (q := 18) (tgt := 27) 9 rfl rfl (by decide) (fun z15 => ?_) (fun z => absurd z (by decide))
    refine bp_iconst (v := 0) (q := 28) 15 rfl rfl (by decide) ?_
    refine bp_putI (q := 31) (ci := 9) (j := 22) 16 rfl rfl fl_Mo_108_9 cl9 hB0.kb (fun r hr => by cases hr; rfl) (by decide) rfl rfl ?_
    refine bp_nx (X := fun h1 => MoX M h0 h1 tw i fa fm tl lk al ind sk dp (lv - 1) fr en nf nn dg nu kd pn pe T xs L ps L1 p1 nt tb fd) (hB0.s22 (by rw [(lv_c lv hlv).mp z4]; rfl)) (fun h1 hB1 => ?_)
    refine bp_iload_n (q := 32) 17 rfl rfl rfl rfl ?_
    refine bp_iret 18 rfl rfl (by first | rfl | exact bI_nar _) ⟨_, rfl, ?_⟩
    have q := hQ _ hB1
    rw [decide_eq_false (show ¬ lv ≠ 0 by have := (lv_c lv hlv).mp z4; omega)] at q
    exact q
  · refine bp_iconst (v := 1) (q := 8) 3 rfl rfl (by decide) ?_
    refine bp_goto (tgt := 12) 4 rfl (by decide) ?_
    refine bp_istore_n (q := 13) 6 rfl rfl rfl (by decide) (bp_up1 rfl) ?_
    refine bp_aload_n (q := 14) 7 rfl rfl rfl rfl ?_
    refine bp_iload_n (q := 15) 8 rfl rfl rfl rfl ?_
    refine bp_if_eq (q := 18) (tgt := 27) 9 rfl rfl (by decide) (fun z => absurd z (by decide)) (fun z15 => ?_)
    refine bp_aload_n (q := 19) 10 rfl rfl rfl rfl ?_
    refine bp_getI (q := 22) (ci := 9) (j := 22) 11 rfl rfl fl_Mo_108_9 hB0.kb rfl ?_
    rw [hB0.i22]
    refine bp_iconst (v := 1) (q := 23) 12 rfl rfl (by decide) ?_
    refine bp_isub (q := 24) 13 rfl rfl ?_
    refine bp_goto (tgt := 28) 14 rfl (by decide) ?_
    refine bp_putI (q := 31) (ci := 9) (j := 22) 16 rfl rfl fl_Mo_108_9 cl9 hB0.kb (fun r hr => by cases hr; rfl) (by decide) rfl rfl ?_
    refine bp_nx (X := fun h1 => MoX M h0 h1 tw i fa fm tl lk al ind sk dp (lv - 1) fr en nf nn dg nu kd pn pe T xs L ps L1 p1 nt tb fd) (hB0.s22 (nI_sub (b := 1) (by have := mt (lv_c lv hlv).mpr z4; omega))) (fun h1 hB1 => ?_)
    refine bp_iload_n (q := 32) 17 rfl rfl rfl rfl ?_
    refine bp_iret 18 rfl rfl (by first | rfl | exact bI_nar _) ⟨_, rfl, ?_⟩
    have q := hQ _ hB1
    rw [decide_eq_true (show lv ≠ 0 from fun e => z4 ((lv_c lv hlv).mpr e))] at q
    exact q
set_option maxRecDepth 100000 in
set_option maxHeartbeats 4000000 in
theorem s_Mo_braceLetter {u y : Nat} (hB0 : MoX M h0 h tw i fa fm tl lk al ind sk dp lv fr en nf nn dg nu kd pn pe T xs L ps L1 p1 nt tb fd) (hlk : lk = cmL y) (hl : L1.length < 400) (he : ∀ q ∈ p1, q.2.2 ≤ L1.length) (hQ : ∀ h', MoX M h0 h' tw i fa fm tl lk al ind sk dp lv fr en nf nn dg nu kd pn pe T xs L ps ((L1 ++ [(u, y)])) p1 nt tb fd → Q none h' c s) : bp_AM l G H0 (1, 25, false, false) M_Mo_braceLetter h c s [.ref (M 0), .int (nI u)] Q := by
  refine bp_of (ls := [some (.ref (M 0)), some (.int (nI u))]) (by decide) dt_Mo_braceLetter (Nat.le_of_ble_eq_true rfl) (fun q hq => hq) false ?_
  refine bp_aload_n (q := 1) 0 rfl rfl rfl rfl ?_
  refine bp_iconst (v := 1) (q := 2) 1 rfl rfl (by decide) ?_
  refine bp_iload_n (q := 3) 2 rfl rfl rfl rfl ?_
  refine bp_aload_n (q := 4) 3 rfl rfl rfl rfl ?_
  refine bp_getI (q := 7) (ci := 9) (j := 16) 4 rfl rfl fl_Mo_96_9 hB0.kb rfl ?_
  rw [hB0.i16]
  rw [hlk]
  refine bp_aload_n (q := 8) 5 rfl rfl rfl rfl ?_
  refine bp_getR (x := M 6) (q := 11) (ci := 9) (j := 6) 6 rfl rfl fl_Mo_21_9 hB0.kb rfl hB0.r6 ?_
  refine bp_iconst (v := 1) (q := 12) 7 rfl rfl (by decide) ?_
  refine bp_iald (q := 13) 8 rfl rfl hB0.k6 (vp_inL (n := 1) hB0.l6 (by decide) (by decide)) ?_
  rw [show bp_I _ (M 6) ((1 : Int32).toNatClampNeg) = nI p1.length from hB0.2.2.2.2.2.2.1.2.2.2.1]
  refine bp_callV (q := 16) (ci := 9) 9 rfl rfl cw_Mo_addLetter lk_Mo_111 rfl hB0.kb wd1523 wd57 rfl rfl (Nat.le_of_ble_eq_true rfl) ⟨Nat.le_of_ble_eq_true rfl, Nat.le_of_ble_eq_true rfl⟩ (s_Mo_addLetter1 (u := u) (y := y) (q := p1.length) (ps' := p1) hB0 hl rfl (fun j hj => ⟨rfl, rfl⟩) (fun k hk => rfl) (pIx_all he).symm (fun h1 hB1 => ?_))
  exact bp_vret 10 rfl rfl  ⟨_, rfl, hQ _ hB1⟩
set_option maxRecDepth 100000 in
set_option maxHeartbeats 4000000 in
theorem s_Mo_beginReading  (hB0 : MoX M h0 h tw i fa fm tl lk al ind sk dp lv fr en nf nn dg nu kd pn pe T xs L ps L1 p1 nt tb fd) (hQ : ∀ h', MoX M h0 h' 0 0 0 fm tl lk al ind sk dp lv fr en nf nn dg nu kd pn pe T xs L ps [] [] nt tb fd → Q none h' c s) : bp_AM l G H0 (0, 0, false, false) M_Mo_beginReading h c s [.ref (M 0)] Q := by
  refine bp_of (ls := [some (.ref (M 0))]) (by decide) dt_Mo_beginReading (Nat.le_of_ble_eq_true rfl) (fun q hq => hq) false ?_
  refine bp_aload_n (q := 1) 0 rfl rfl rfl rfl ?_
  refine bp_iconst (v := 0) (q := 2) 1 rfl rfl (by decide) ?_
  refine bp_putI (q := 5) (ci := 9) (j := 0) 2 rfl rfl fl_Mo_52_9 cl9 hB0.kb (fun r hr => by cases hr; rfl) (by decide) rfl rfl ?_
  refine bp_nx (X := fun h1 => MoX M h0 h1 0 i fa fm tl lk al ind sk dp lv fr en nf nn dg nu kd pn pe T xs L ps L1 p1 nt tb fd) (hB0.s0 rfl) (fun h1 hB1 => ?_)
  refine bp_aload_n (q := 6) 3 rfl rfl rfl rfl ?_
  refine bp_iconst (v := 0) (q := 7) 4 rfl rfl (by decide) ?_
  refine bp_putI (q := 10) (ci := 9) (j := 12) 5 rfl rfl fl_Mo_90_9 cl9 hB1.kb (fun r hr => by cases hr; rfl) (by decide) rfl rfl ?_
  refine bp_nx (X := fun h2 => MoX M h0 h2 0 0 fa fm tl lk al ind sk dp lv fr en nf nn dg nu kd pn pe T xs L ps L1 p1 nt tb fd) (hB1.s12 rfl) (fun h2 hB2 => ?_)
  refine bp_aload_n (q := 11) 6 rfl rfl rfl rfl ?_
  refine bp_iconst (v := 0) (q := 12) 7 rfl rfl (by decide) ?_
  refine bp_putI (q := 15) (ci := 9) (j := 13) 8 rfl rfl fl_Mo_69_9 cl9 hB2.kb (fun r hr => by cases hr; rfl) (by decide) rfl rfl ?_
  refine bp_nx (X := fun h3 => MoX M h0 h3 0 0 0 fm tl lk al ind sk dp lv fr en nf nn dg nu kd pn pe T xs L ps L1 p1 nt tb fd) (hB2.s13 rfl) (fun h3 hB3 => ?_)
  refine bp_aload_n (q := 16) 9 rfl rfl rfl rfl ?_
  refine bp_getR (x := M 5) (q := 19) (ci := 9) (j := 5) 10 rfl rfl fl_Mo_17_9 hB3.kb rfl hB3.r5 ?_
  refine bp_iconst (v := 1) (q := 20) 11 rfl rfl (by decide) ?_
  refine bp_iconst (v := 0) (q := 21) 12 rfl rfl (by decide) ?_
  refine bp_iast (q := 22) 13 rfl rfl hB3.k5 (vp_inL (n := 1) hB3.l5 (by decide) (by decide))  ?_
  rw [show ((1 : Int32).toNatClampNeg) = 1 from rfl]
  refine bp_aload_n (q := 23) 14 rfl rfl rfl rfl ?_
  refine bp_getR (x := M 6) (q := 26) (ci := 9) (j := 6) 15 rfl rfl fl_Mo_21_9 hB3.kb rfl hB3.r6 ?_
  refine bp_iconst (v := 1) (q := 27) 16 rfl rfl (by decide) ?_
  refine bp_iconst (v := 0) (q := 28) 17 rfl rfl (by decide) ?_
  refine bp_iast (q := 29) 18 rfl rfl hB3.k6 (vp_inL (n := 1) hB3.l6 (by decide) (by decide))  ?_
  rw [show ((1 : Int32).toNatClampNeg) = 1 from rfl]
  have f9 : bp_Fi (fun x => ∃ i, 5 ≤ i ∧ i ≤ 11 ∧ x = M i) h3 (bp_sI (bp_sI h3 (M 5) 1 0) (M 6) 1 0) := (bp_Fi.sI (F := fun x => ∃ i, 5 ≤ i ∧ i ≤ 11 ∧ x = M i) ⟨5, by decide, by decide, rfl⟩).tr (bp_Fi.sI ⟨6, by decide, by decide, rfl⟩)
  have n65 := hB3.2.1.ne 6 5
  have n56 := hB3.2.1.ne 5 6
  have p0_ := hB3.2.2.2.2.2.1
  have e9 : ∀ i, 7 ≤ i → i ≤ 11 → ∀ j, bp_I (bp_sI (bp_sI h3 (M 5) 1 0) (M 6) 1 0) (M i) j = bp_I h3 (M i) j := fun i h1_ h2_ j => by rw [bp_I_sI, if_neg (fun z => absurd z.1 (hB3.2.1.ne i 6 (mC_p i (by omega) h2_) rfl (by omega))), bp_I_sI, if_neg (fun z => absurd z.1 (hB3.2.1.ne i 5 (mC_p i (by omega) h2_) rfl (by omega)))]
  refine bp_nx (X := fun h4 => MoX M h0 h4 0 0 0 fm tl lk al ind sk dp lv fr en nf nn dg nu kd pn pe T xs L ps [] [] nt tb fd) (hB3.pages f9 ⟨p0_.1, p0_.2.1, by rw [bp_I_sI, if_neg (fun z => absurd z.1 n56), bp_I_sI, if_neg (fun z => absurd z.2 (by decide))]; exact p0_.2.2.1, by rw [bp_I_sI, if_neg (fun z => absurd z.2 (by decide)), bp_I_sI, if_neg (fun z => absurd z.1 n65)]; exact p0_.2.2.2.1, fun k hk => by rw [e9 7 (by decide) (by decide), e9 8 (by decide) (by decide), e9 9 (by decide) (by decide)]; exact p0_.2.2.2.2.1 k hk, fun k hk => by rw [e9 10 (by decide) (by decide), e9 11 (by decide) (by decide)]; exact p0_.2.2.2.2.2 k hk⟩ ⟨by decide, by decide, by rw [bp_I_sI, if_neg (fun z => absurd z.1 n56), bp_I_sI, if_pos ⟨rfl, rfl⟩]; rfl, by rw [bp_I_sI, if_pos ⟨rfl, rfl⟩]; rfl, fun k hk => absurd hk (Nat.not_lt_zero k), fun k hk => absurd hk (Nat.not_lt_zero k)⟩) (fun h4 hB4 => ?_)
  exact bp_vret 19 rfl rfl  ⟨_, rfl, hQ _ hB4⟩
end MO13
