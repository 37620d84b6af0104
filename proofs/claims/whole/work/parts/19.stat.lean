/-! the static helpers of the class -/
def wi (n a b : Int32) : Bool := decide (a ≤ n) && decide (n ≤ b)
theorem bI1 {b : Bool} (z : ¬ bI b = 0) : b = true := by cases b with | true => rfl | false => exact absurd rfl z
theorem bI_nar (b : Bool) : narrow .boolean (.int (bI b)) = .int (bI b) := by cases b <;> rfl
theorem wi_nI {n a b : Nat} (h1 : n < 1000000) (h2 : a < 1000000) (h3 : b < 1000000) : wi (nI n) (nI a) (nI b) = (decide (a ≤ n) && decide (n ≤ b)) := by
  unfold wi
  rw [decide_eq_decide.mpr (nI_le_iff h2 h1), decide_eq_decide.mpr (nI_le_iff h1 h3)]
/-- the character at a place; 0 behind the end -/
def tc (T : List Nat) (k : Nat) : Nat := T.getD k 0
def okT (T : List Nat) : Prop := T.length ≤ 400 ∧ ∀ j, j < T.length → 1 ≤ T.getD j 0 ∧ T.getD j 0 < 128
theorem rg_out {T : List Nat} {k : Nat} (h : T.length ≤ k) (hk : k < 1000000) : rg T (nI k) = -1 := by
  rw [rg, if_neg (nI_pos (by omega)), if_pos (nI_le h (by omega))]
theorem tc_out {T : List Nat} {k : Nat} (h : T.length ≤ k) : tc T k = 0 := by
  rw [tc, List.getD_eq_getElem?_getD, List.getElem?_eq_none h]; rfl
theorem tc_lt {T : List Nat} (hT : okT T) (k : Nat) : tc T k < 128 := by
  by_cases h : k < T.length
  · exact (hT.2 k h).2
  · rw [tc_out (by omega)]; decide
theorem rg_tc {T : List Nat} (hT : okT T) {k : Nat} (hk : k < 1000000) : rg T (nI k) = if k < T.length then nI (tc T k) else -1 := by
  by_cases h : k < T.length
  · rw [if_pos h]; exact rg_nI h (by have := hT.1; omega)
  · rw [if_neg h]; exact rg_out (by omega) hk
theorem rg_is {T : List Nat} (hT : okT T) {k v : Nat} (hk : k < 1000000) (h1 : 1 ≤ v) (h2 : v < 1000) : rg T (nI k) = nI v ↔ tc T k = v := by
  rw [rg_tc hT hk]
  by_cases h : k < T.length
  · rw [if_pos h]
    exact nI_eq_iff (by have := tc_lt hT k; omega) (by omega)
  · rw [if_neg h, tc_out (by omega)]
    refine ⟨fun z => ?_, fun z => by omega⟩
    have : (nI v).toInt = -1 := by rw [← z]; rfl
    rw [nI_toInt (by omega)] at this
    omega
theorem wi_rg {T : List Nat} (hT : okT T) {k a b : Nat} (hk : k < 1000000) (h1 : 1 ≤ a) (h2 : a < 1000) (h3 : b < 1000) : wi (rg T (nI k)) (nI a) (nI b) = (decide (a ≤ tc T k) && decide (tc T k ≤ b)) := by
  rw [rg_tc hT hk]
  by_cases h : k < T.length
  · rw [if_pos h]
    exact wi_nI (by have := tc_lt hT k; omega) (by omega) (by omega)
  · rw [if_neg h, tc_out (by omega)]
    have e : ¬ nI a ≤ (-1 : Int32) := fun z => by
      have := Int32.le_iff_toInt_le.mp z
      rw [nI_toInt (by omega)] at this
      have e1 : (-1 : Int32).toInt = -1 := rfl
      omega
    rw [wi, decide_eq_false e, decide_eq_false (show ¬ a ≤ 0 by omega), Bool.false_and, Bool.false_and]
theorem lk_of : ∀ s, s < 8 → ∀ z, z < 100 → ∀ c, c < 8 → nI s ||| (nI c <<< ((3 : Int32) &&& 31)) ||| (nI z <<< ((6 : Int32) &&& 31)) = nI (s + 8 * c + 64 * z) := by decide +kernel
theorem lk_un0 : ∀ a, a < 80 → ∀ b, b < 80 → nI (80 * a + b) &&& 7 = nI ((80 * a + b) % 8) ∧ (nI (80 * a + b) >>> ((3 : Int32) &&& 31)) &&& 7 = nI ((80 * a + b) / 8 % 8) ∧ nI (80 * a + b) >>> ((6 : Int32) &&& 31) = nI ((80 * a + b) / 64) := by decide +kernel
theorem lk_un (k : Nat) (hk : k < 6400) : nI k &&& 7 = nI (k % 8) ∧ (nI k >>> ((3 : Int32) &&& 31)) &&& 7 = nI (k / 8 % 8) ∧ nI k >>> ((6 : Int32) &&& 31) = nI (k / 64) := by
  have e : 80 * (k / 80) + k % 80 = k := Nat.div_add_mod k 80
  have := lk_un0 (k / 80) (by omega) (k % 80) (by omega)
  rw [e] at this
  exact this
section STAT
variable {l : Launch} {G : bp_G} {H0 : Heap} {h : bp_H} {c s : Nat} {Q : Option Value → bp_H → Nat → Nat → Prop}
set_option maxRecDepth 100000 in
set_option maxHeartbeats 4000000 in
theorem s_X_isWithin {ro : Bool} {n a b : Int32} (hQ : Q (some (.int (bI (wi n a b)))) h c s) : bp_AM l G H0 (0, 0, ro, ro) M_X_isWithin h c s [.int n, .int a, .int b] Q := by
  refine bp_of (ls := [some (.int n), some (.int a), some (.int b)]) (by decide) dt_X_isWithin (Nat.le_of_ble_eq_true rfl) (fun q hq => hq) ro ?_
  refine bp_iload_n (q := 1) 0 rfl rfl rfl rfl ?_
  refine bp_iload_n (q := 2) 1 rfl rfl rfl rfl ?_
  refine bp_icmp_lt (q := 5) (tgt := 14) 2 rfl rfl (by decide) (fun z2 => ?_) (fun z2 => ?_)
  · refine bp_iconst (v := 0) (q := 15) 8 rfl rfl (by decide) ?_
    refine bp_iret 9 rfl rfl (by first | rfl | assumption) ⟨_, rfl, ?_⟩
    rw [show wi n a b = false from by rw [wi, decide_eq_false (Int32.not_le.mpr z2), Bool.false_and]] at hQ
    exact hQ
  · refine bp_iload_n (q := 6) 3 rfl rfl rfl rfl ?_
    refine bp_iload_n (q := 7) 4 rfl rfl rfl rfl ?_
    refine bp_icmp_gt (q := 10) (tgt := 14) 5 rfl rfl (by decide) (fun z7 => ?_) (fun z7 => ?_)
    · refine bp_iconst (v := 0) (q := 15) 8 rfl rfl (by decide) ?_
      refine bp_iret 9 rfl rfl (by first | rfl | assumption) ⟨_, rfl, ?_⟩
      rw [show wi n a b = false from by rw [wi, decide_eq_false (Int32.not_le.mpr z7), Bool.and_false]] at hQ
      exact hQ
    · refine bp_iconst (v := 1) (q := 11) 6 rfl rfl (by decide) ?_
      refine bp_goto (tgt := 15) 7 rfl (by decide) ?_
      refine bp_iret 9 rfl rfl (by first | rfl | assumption) ⟨_, rfl, ?_⟩
      rw [show wi n a b = true from by rw [wi, decide_eq_true (Int32.not_lt.mp z2), decide_eq_true (Int32.not_lt.mp z7)]; rfl] at hQ
      exact hQ
set_option maxRecDepth 100000 in
set_option maxHeartbeats 4000000 in
theorem s_X_isSmallLetter {ro : Bool} {n : Int32} (hQ : Q (some (.int (bI (wi n 97 122)))) h c s) : bp_AM l G H0 (0, 0, ro, ro) M_X_isSmallLetter h c s [.int n] Q := by
  refine bp_of (ls := [some (.int n)]) (by decide) dt_X_isSmallLetter (Nat.le_of_ble_eq_true rfl) (fun q hq => hq) ro ?_
  refine bp_iload_n (q := 1) 0 rfl rfl rfl rfl ?_
  refine bp_bipush (v := 97) (q := 3) 1 rfl rfl (by decide) ?_
  refine bp_icmp_lt (q := 6) (tgt := 16) 2 rfl rfl (by decide) (fun z3 => ?_) (fun z3 => ?_)
  · refine bp_iconst (v := 0) (q := 17) 8 rfl rfl (by decide) ?_
    refine bp_iret 9 rfl rfl (by first | rfl | assumption) ⟨_, rfl, ?_⟩
    rw [show wi n 97 122 = false from by rw [wi, decide_eq_false (Int32.not_le.mpr z3), Bool.false_and]] at hQ
    exact hQ
  · refine bp_iload_n (q := 7) 3 rfl rfl rfl rfl ?_
    refine bp_bipush (v := 122) (q := 9) 4 rfl rfl (by decide) ?_
    refine bp_icmp_gt (q := 12) (tgt := 16) 5 rfl rfl (by decide) (fun z9 => ?_) (fun z9 => ?_)
    · refine bp_iconst (v := 0) (q := 17) 8 rfl rfl (by decide) ?_
      refine bp_iret 9 rfl rfl (by first | rfl | assumption) ⟨_, rfl, ?_⟩
      rw [show wi n 97 122 = false from by rw [wi, decide_eq_false (Int32.not_le.mpr z9), Bool.and_false]] at hQ
      exact hQ
    · refine bp_iconst (v := 1) (q := 13) 6 rfl rfl (by decide) ?_
      refine bp_goto (tgt := 17) 7 rfl (by decide) ?_
      refine bp_iret 9 rfl rfl (by first | rfl | assumption) ⟨_, rfl, ?_⟩
      rw [show wi n 97 122 = true from by rw [wi, decide_eq_true (Int32.not_lt.mp z3), decide_eq_true (Int32.not_lt.mp z9)]; rfl] at hQ
      exact hQ
set_option maxRecDepth 100000 in
set_option maxHeartbeats 4000000 in
theorem s_X_isDigit {ro : Bool} {n : Int32} (hQ : Q (some (.int (bI (wi n 48 57)))) h c s) : bp_AM l G H0 (0, 0, ro, ro) M_X_isDigit h c s [.int n] Q := by
  refine bp_of (ls := [some (.int n)]) (by decide) dt_X_isDigit (Nat.le_of_ble_eq_true rfl) (fun q hq => hq) ro ?_
  refine bp_iload_n (q := 1) 0 rfl rfl rfl rfl ?_
  refine bp_bipush (v := 48) (q := 3) 1 rfl rfl (by decide) ?_
  refine bp_icmp_lt (q := 6) (tgt := 16) 2 rfl rfl (by decide) (fun z3 => ?_) (fun z3 => ?_)
  · refine bp_iconst (v := 0) (q := 17) 8 rfl rfl (by decide) ?_
    refine bp_iret 9 rfl rfl (by first | rfl | assumption) ⟨_, rfl, ?_⟩
    rw [show wi n 48 57 = false from by rw [wi, decide_eq_false (Int32.not_le.mpr z3), Bool.false_and]] at hQ
    exact hQ
  · refine bp_iload_n (q := 7) 3 rfl rfl rfl rfl ?_
    refine bp_bipush (v := 57) (q := 9) 4 rfl rfl (by decide) ?_
    refine bp_icmp_gt (q := 12) (tgt := 16) 5 rfl rfl (by decide) (fun z9 => ?_) (fun z9 => ?_)
    · refine bp_iconst (v := 0) (q := 17) 8 rfl rfl (by decide) ?_
      refine bp_iret 9 rfl rfl (by first | rfl | assumption) ⟨_, rfl, ?_⟩
      rw [show wi n 48 57 = false from by rw [wi, decide_eq_false (Int32.not_le.mpr z9), Bool.and_false]] at hQ
      exact hQ
    · refine bp_iconst (v := 1) (q := 13) 6 rfl rfl (by decide) ?_
      refine bp_goto (tgt := 17) 7 rfl (by decide) ?_
      refine bp_iret 9 rfl rfl (by first | rfl | assumption) ⟨_, rfl, ?_⟩
      rw [show wi n 48 57 = true from by rw [wi, decide_eq_true (Int32.not_lt.mp z3), decide_eq_true (Int32.not_lt.mp z9)]; rfl] at hQ
      exact hQ
set_option maxRecDepth 100000 in
set_option maxHeartbeats 4000000 in
theorem s_X_isCharacter {ro : Bool} {n : Int32} (hQ : Q (some (.int (bI (wi n 32 126 || decide (n = 10))))) h c s) : bp_AM l G H0 (1, 22, ro, ro) M_X_isCharacter h c s [.int n] Q := by
  refine bp_of (ls := [some (.int n)]) (by decide) dt_X_isCharacter (Nat.le_of_ble_eq_true rfl) (fun q hq => hq) ro ?_
  refine bp_iload_n (q := 1) 0 rfl rfl rfl rfl ?_
  refine bp_bipush (v := 32) (q := 3) 1 rfl rfl (by decide) ?_
  refine bp_bipush (v := 126) (q := 5) 2 rfl rfl (by decide) ?_
  refine bp_callS (q := 8) 3 rfl rfl cw_X_isWithin lk_X_119 wd653 rfl rfl (Nat.le_of_ble_eq_true rfl) ⟨Nat.le_of_ble_eq_true rfl, Nat.le_of_ble_eq_true rfl⟩ (s_X_isWithin (ro := ro) ?_)
  refine bp_if_ne (q := 11) (tgt := 17) 4 rfl rfl (by decide) (fun z8 => ?_) (fun z8 => ?_)
  · refine bp_iconst (v := 1) (q := 18) 8 rfl rfl (by decide) ?_
    refine bp_goto (tgt := 22) 9 rfl (by decide) ?_
    refine bp_iret 11 rfl rfl (by first | rfl | assumption) ⟨_, rfl, ?_⟩
    rw [bI1 z8, Bool.true_or] at hQ
    exact hQ
  · refine bp_iload_n (q := 12) 5 rfl rfl rfl rfl ?_
    refine bp_bipush (v := 10) (q := 14) 6 rfl rfl (by decide) ?_
    refine bp_icmp_ne (q := 17) (tgt := 21) 7 rfl rfl (by decide) (fun z14 => ?_) (fun z14 => ?_)
    · refine bp_iconst (v := 0) (q := 22) 10 rfl rfl (by decide) ?_
      refine bp_iret 11 rfl rfl (by first | rfl | assumption) ⟨_, rfl, ?_⟩
      rw [bI0.mp z8, decide_eq_false z14, Bool.false_or] at hQ
      exact hQ
    · refine bp_iconst (v := 1) (q := 18) 8 rfl rfl (by decide) ?_
      refine bp_goto (tgt := 22) 9 rfl (by decide) ?_
      refine bp_iret 11 rfl rfl (by first | rfl | assumption) ⟨_, rfl, ?_⟩
      rw [decide_eq_true z14, Bool.or_true] at hQ
      exact hQ
set_option maxRecDepth 100000 in
set_option maxHeartbeats 4000000 in
theorem s_X_isLook {ro : Bool} {n a b : Int32} (hQ : Q (some (.int (bI (wi n 0 7 && (wi a 1 99 && wi b 0 7))))) h c s) : bp_AM l G H0 (1, 22, ro, ro) M_X_isLook h c s [.int n, .int a, .int b] Q := by
  refine bp_of (ls := [some (.int n), some (.int a), some (.int b)]) (by decide) dt_X_isLook (Nat.le_of_ble_eq_true rfl) (fun q hq => hq) ro ?_
  refine bp_iload_n (q := 1) 0 rfl rfl rfl rfl ?_
  refine bp_iconst (v := 0) (q := 2) 1 rfl rfl (by decide) ?_
  refine bp_bipush (v := 7) (q := 4) 2 rfl rfl (by decide) ?_
  refine bp_callS (q := 7) 3 rfl rfl cw_X_isWithin lk_X_119 wd653 rfl rfl (Nat.le_of_ble_eq_true rfl) ⟨Nat.le_of_ble_eq_true rfl, Nat.le_of_ble_eq_true rfl⟩ (s_X_isWithin (ro := ro) ?_)
  refine bp_if_eq (q := 10) (tgt := 34) 4 rfl rfl (by decide) (fun z7 => ?_) (fun z7 => ?_)
  · refine bp_iconst (v := 0) (q := 35) 17 rfl rfl (by decide) ?_
    refine bp_iret 18 rfl rfl (by first | rfl | assumption) ⟨_, rfl, ?_⟩
    rw [bI0.mp z7, Bool.false_and] at hQ
    exact hQ
  · refine bp_iload_n (q := 11) 5 rfl rfl rfl rfl ?_
    refine bp_iconst (v := 1) (q := 12) 6 rfl rfl (by decide) ?_
    refine bp_bipush (v := 99) (q := 14) 7 rfl rfl (by decide) ?_
    refine bp_callS (q := 17) 8 rfl rfl cw_X_isWithin lk_X_119 wd653 rfl rfl (Nat.le_of_ble_eq_true rfl) ⟨Nat.le_of_ble_eq_true rfl, Nat.le_of_ble_eq_true rfl⟩ (s_X_isWithin (ro := ro) ?_)
    refine bp_if_eq (q := 20) (tgt := 34) 9 rfl rfl (by decide) (fun z17 => ?_) (fun z17 => ?_)
    · refine bp_iconst (v := 0) (q := 35) 17 rfl rfl (by decide) ?_
      refine bp_iret 18 rfl rfl (by first | rfl | assumption) ⟨_, rfl, ?_⟩
      rw [bI0.mp z17, Bool.false_and, Bool.and_false] at hQ
      exact hQ
    · refine bp_iload_n (q := 21) 10 rfl rfl rfl rfl ?_
      refine bp_iconst (v := 0) (q := 22) 11 rfl rfl (by decide) ?_
      refine bp_bipush (v := 7) (q := 24) 12 rfl rfl (by decide) ?_
      refine bp_callS (q := 27) 13 rfl rfl cw_X_isWithin lk_X_119 wd653 rfl rfl (Nat.le_of_ble_eq_true rfl) ⟨Nat.le_of_ble_eq_true rfl, Nat.le_of_ble_eq_true rfl⟩ (s_X_isWithin (ro := ro) ?_)
      refine bp_if_eq (q := 30) (tgt := 34) 14 rfl rfl (by decide) (fun z27 => ?_) (fun z27 => ?_)
      · refine bp_iconst (v := 0) (q := 35) 17 rfl rfl (by decide) ?_
        refine bp_iret 18 rfl rfl (by first | rfl | assumption) ⟨_, rfl, ?_⟩
        rw [bI0.mp z27, Bool.and_false, Bool.and_false] at hQ
        exact hQ
      · refine bp_iconst (v := 1) (q := 31) 15 rfl rfl (by decide) ?_
        refine bp_goto (tgt := 35) 16 rfl (by decide) ?_
        refine bp_iret 18 rfl rfl (by first | rfl | assumption) ⟨_, rfl, ?_⟩
        rw [bI1 z7, bI1 z17, bI1 z27] at hQ
        exact hQ
set_option maxRecDepth 100000 in
set_option maxHeartbeats 4000000 in
theorem s_X_lookOf {ro : Bool} {u z v : Nat} (hu : u < 8) (hz : z < 100) (hv : v < 8) (hQ : Q (some (.int (nI (u + 8 * v + 64 * z)))) h c s) : bp_AM l G H0 (0, 0, ro, ro) M_X_lookOf h c s [.int (nI u), .int (nI z), .int (nI v)] Q := by
  refine bp_of (ls := [some (.int (nI u)), some (.int (nI z)), some (.int (nI v))]) (by decide) dt_X_lookOf (Nat.le_of_ble_eq_true rfl) (fun q hq => hq) ro ?_
  refine bp_iload_n (q := 1) 0 rfl rfl rfl rfl ?_
  refine bp_iload_n (q := 2) 1 rfl rfl rfl rfl ?_
  refine bp_iconst (v := 3) (q := 3) 2 rfl rfl (by decide) ?_
  refine bp_ishl (q := 4) 3 rfl rfl ?_
  refine bp_ior (q := 5) 4 rfl rfl ?_
  refine bp_iload_n (q := 6) 5 rfl rfl rfl rfl ?_
  refine bp_bipush (v := 6) (q := 8) 6 rfl rfl (by decide) ?_
  refine bp_ishl (q := 9) 7 rfl rfl ?_
  refine bp_ior (q := 10) 8 rfl rfl ?_
  refine bp_iret 9 rfl rfl rfl ⟨_, rfl, ?_⟩
  rw [lk_of u hu z hz v hv]
  exact hQ
set_option maxRecDepth 100000 in
set_option maxHeartbeats 4000000 in
theorem s_X_styleOf {ro : Bool} {k : Nat} (hk : k < 6400) (hQ : Q (some (.int (nI (k % 8)))) h c s) : bp_AM l G H0 (0, 0, ro, ro) M_X_styleOf h c s [.int (nI k)] Q := by
  refine bp_of (ls := [some (.int (nI k))]) (by decide) dt_X_styleOf (Nat.le_of_ble_eq_true rfl) (fun q hq => hq) ro ?_
  refine bp_iload_n (q := 1) 0 rfl rfl rfl rfl ?_
  refine bp_bipush (v := 7) (q := 3) 1 rfl rfl (by decide) ?_
  refine bp_iand (q := 4) 2 rfl rfl ?_
  refine bp_iret 3 rfl rfl rfl ⟨_, rfl, ?_⟩
  rw [(lk_un k hk).1]
  exact hQ
set_option maxRecDepth 100000 in
set_option maxHeartbeats 4000000 in
theorem s_X_colourOf {ro : Bool} {k : Nat} (hk : k < 6400) (hQ : Q (some (.int (nI (k / 8 % 8)))) h c s) : bp_AM l G H0 (0, 0, ro, ro) M_X_colourOf h c s [.int (nI k)] Q := by
  refine bp_of (ls := [some (.int (nI k))]) (by decide) dt_X_colourOf (Nat.le_of_ble_eq_true rfl) (fun q hq => hq) ro ?_
  refine bp_iload_n (q := 1) 0 rfl rfl rfl rfl ?_
  refine bp_iconst (v := 3) (q := 2) 1 rfl rfl (by decide) ?_
  refine bp_ishr (q := 3) 2 rfl rfl ?_
  refine bp_bipush (v := 7) (q := 5) 3 rfl rfl (by decide) ?_
  refine bp_iand (q := 6) 4 rfl rfl ?_
  refine bp_iret 5 rfl rfl rfl ⟨_, rfl, ?_⟩
  rw [(lk_un k hk).2.1]
  exact hQ
set_option maxRecDepth 100000 in
set_option maxHeartbeats 4000000 in
theorem s_X_sizeOf {ro : Bool} {k : Nat} (hk : k < 6400) (hQ : Q (some (.int (nI (k / 64)))) h c s) : bp_AM l G H0 (0, 0, ro, ro) M_X_sizeOf h c s [.int (nI k)] Q := by
  refine bp_of (ls := [some (.int (nI k))]) (by decide) dt_X_sizeOf (Nat.le_of_ble_eq_true rfl) (fun q hq => hq) ro ?_
  refine bp_iload_n (q := 1) 0 rfl rfl rfl rfl ?_
  refine bp_bipush (v := 6) (q := 3) 1 rfl rfl (by decide) ?_
  refine bp_ishr (q := 4) 2 rfl rfl ?_
  refine bp_iret 3 rfl rfl rfl ⟨_, rfl, ?_⟩
  rw [(lk_un k hk).2.2]
  exact hQ
def by8 (x : Int64) (i : Int32) : Int32 := (x.toUInt64 >>> ((8 * i).toInt64.toUInt64 &&& Int64.toUInt64 63)).toInt64.toInt32 &&& 255
set_option maxRecDepth 100000 in
set_option maxHeartbeats 4000000 in
theorem s_X_byteOf {ro : Bool} {x : Int64} {i : Int32} (hQ : Q (some (.int (by8 x i))) h c s) : bp_AM l G H0 (0, 0, ro, ro) M_X_byteOf h c s [.long x, .int i] Q := by
  refine bp_of (ls := [some (.long x), none, some (.int i)]) (by decide) dt_X_byteOf (Nat.le_of_ble_eq_true rfl) (fun q hq => hq) ro ?_
  refine bp_lload_n (q := 1) 0 rfl rfl rfl rfl ?_
  refine bp_bipush (v := 8) (q := 3) 1 rfl rfl (by decide) ?_
  refine bp_iload_n (q := 4) 2 rfl rfl rfl rfl ?_
  refine bp_imul (q := 5) 3 rfl rfl ?_
  refine bp_lushr (q := 6) 4 rfl rfl ?_
  refine bp_l2i (q := 7) 5 rfl rfl ?_
  refine bp_sipush (v := 255) (q := 10) 6 rfl rfl (by decide) ?_
  refine bp_iand (q := 11) 7 rfl rfl ?_
  refine bp_iret 8 rfl rfl rfl ⟨_, rfl, ?_⟩
  exact hQ
def hxD (k : Nat) : Nat := if k < 10 then 48 + k else 87 + k
theorem hxd : ∀ k, k < 16 → ((10 : Int32) ≤ nI k → 97 + nI k - 10 = nI (hxD k)) ∧ (¬ (10 : Int32) ≤ nI k → 48 + nI k = nI (hxD k)) := by decide +kernel
set_option maxRecDepth 100000 in
set_option maxHeartbeats 4000000 in
theorem s_BW_hexDigit {ro : Bool} {k : Nat} (hk : k < 16) (hQ : Q (some (.int (nI (hxD k)))) h c s) : bp_AM l G H0 (0, 0, ro, ro) M_BW_hexDigit h c s [.int (nI k)] Q := by
  refine bp_of (ls := [some (.int (nI k))]) (by decide) dt_BW_hexDigit (Nat.le_of_ble_eq_true rfl) (fun q hq => hq) ro ?_
  refine bp_iload_n (q := 1) 0 rfl rfl rfl rfl ?_
  refine bp_bipush (v := 10) (q := 3) 1 rfl rfl (by decide) ?_
  refine bp_icmp_ge (q := 6) (tgt := 13) 2 rfl rfl (by decide) (fun z3 => ?_) (fun z3 => ?_)
  · refine bp_bipush (v := 97) (q := 15) 7 rfl rfl (by decide) ?_
    refine bp_iload_n (q := 16) 8 rfl rfl rfl rfl ?_
    refine bp_iadd (q := 17) 9 rfl rfl ?_
    refine bp_bipush (v := 10) (q := 19) 10 rfl rfl (by decide) ?_
    refine bp_isub (q := 20) 11 rfl rfl ?_
    refine bp_iret 12 rfl rfl rfl ⟨_, rfl, ?_⟩
    rw [(hxd k hk).1 z3]
    exact hQ
  · refine bp_bipush (v := 48) (q := 8) 3 rfl rfl (by decide) ?_
    refine bp_iload_n (q := 9) 4 rfl rfl rfl rfl ?_
    refine bp_iadd (q := 10) 5 rfl rfl ?_
    refine bp_goto (tgt := 20) 6 rfl (by decide) ?_
    refine bp_iret 12 rfl rfl rfl ⟨_, rfl, ?_⟩
    rw [(hxd k hk).2 z3]
    exact hQ
end STAT
