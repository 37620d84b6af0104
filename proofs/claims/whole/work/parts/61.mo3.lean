/-! the reference: letters, colours, runs -/
def fR (L : List (Nat × Nat)) (ps : List (Nat × Nat × Nat)) (k : Nat) : Bool := decide (k = 0) || (decide (pIx ps (k - 1) ≠ pIx ps k) || decide ((lkL L).getD (k - 1) 0 ≠ (lkL L).getD k 0))
def lR (L : List (Nat × Nat)) (ps : List (Nat × Nat × Nat)) (k : Nat) : Bool := decide (k + 1 = L.length) || fR L ps (k + 1)
theorem pIx_le (ps : List (Nat × Nat × Nat)) (k : Nat) : pIx ps k ≤ ps.length := List.length_filter_le _ _
theorem hx_16 : ∀ u, u < 256 → nI u / 16 = nI (u / 16) ∧ nI u - nI u / 16 * 16 = nI (u % 16) := by decide +kernel
theorem cu_pos {lk : List Nat} {j : Nat} (h : usl lk (j + 1) = true) : cu lk (j + 1) ≠ 0 := by
  unfold cu
  rw [if_pos h]
  omega
section MO3
variable {l : Launch} {G : bp_G} {H0 : Heap} {M : Nat → Nat} {h0 h : bp_H} {tw : Int32} {i : Nat} {fa : Int32} {fm : Int32} {tl : Int32} {lk : Nat} {al : Nat} {ind : Nat} {sk : Nat} {dp : Nat} {lv : Nat} {fr : Bool} {en : Nat} {nf : Nat} {nn : Nat} {dg : Nat} {nu : Int32} {kd : Nat} {pn : Int32} {pe : Nat} {T : List Nat} {xs : List Nat} {L : List (Nat × Nat)} {ps : List (Nat × Nat × Nat)} {L1 : List (Nat × Nat)} {p1 : List (Nat × Nat × Nat)} {nt : List (Nat → Nat)} {tb : List Nat} {fd : List Nat} {c s : Nat} {Q : Option Value → bp_H → Nat → Nat → Prop}
theorem MoX.m0 (hB : MoX M h0 h tw i fa fm tl lk al ind sk dp lv fr en nf nn dg nu kd pn pe T xs L ps L1 p1 nt tb fd) : bp_I h (M 5) 0 = nI L.length := hB.2.2.2.2.2.1.2.2.1
theorem MoX.n0 (hB : MoX M h0 h tw i fa fm tl lk al ind sk dp lv fr en nf nn dg nu kd pn pe T xs L ps L1 p1 nt tb fd) : bp_I h (M 6) 0 = nI ps.length := hB.2.2.2.2.2.1.2.2.2.1
theorem MoX.c0 {k : Nat} (hB : MoX M h0 h tw i fa fm tl lk al ind sk dp lv fr en nf nn dg nu kd pn pe T xs L ps L1 p1 nt tb fd) (hk : k < L.length) : bp_I h (M 7) k = nI ((cdL L).getD k 0) := by
  have := (hB.2.2.2.2.2.1.2.2.2.2.1 k hk).1
  rw [Nat.mul_zero, Nat.zero_add] at this; exact this
theorem MoX.g0 {k : Nat} (hB : MoX M h0 h tw i fa fm tl lk al ind sk dp lv fr en nf nn dg nu kd pn pe T xs L ps L1 p1 nt tb fd) (hk : k < L.length) : bp_I h (M 8) k = nI (cmL ((lkL L).getD k 0)) := by
  have := (hB.2.2.2.2.2.1.2.2.2.2.1 k hk).2.1
  rw [Nat.mul_zero, Nat.zero_add] at this; exact this
theorem MoX.q0 {k : Nat} (hB : MoX M h0 h tw i fa fm tl lk al ind sk dp lv fr en nf nn dg nu kd pn pe T xs L ps L1 p1 nt tb fd) (hk : k < L.length) : bp_I h (M 9) k = nI (pIx ps k) := by
  have := (hB.2.2.2.2.2.1.2.2.2.2.1 k hk).2.2
  rw [Nat.mul_zero, Nat.zero_add] at this; exact this
theorem MoX.a0 {p : Nat} (hB : MoX M h0 h tw i fa fm tl lk al ind sk dp lv fr en nf nn dg nu kd pn pe T xs L ps L1 p1 nt tb fd) (hp : p < ps.length) : bp_I h (M 10) p = nI (p_a ps p) := by
  have := (hB.2.2.2.2.2.1.2.2.2.2.2 p hp).1
  rw [Nat.mul_zero, Nat.zero_add] at this; exact this
theorem MoX.d0 {p : Nat} (hB : MoX M h0 h tw i fa fm tl lk al ind sk dp lv fr en nf nn dg nu kd pn pe T xs L ps L1 p1 nt tb fd) (hp : p < ps.length) : bp_I h (M 11) p = nI (p_i ps p) := by
  have := (hB.2.2.2.2.2.1.2.2.2.2.2 p hp).2
  rw [Nat.mul_zero, Nat.zero_add] at this; exact this
set_option maxRecDepth 100000 in
set_option maxHeartbeats 4000000 in
theorem s_Mo_putTaggedLetter {u : Nat} (hB0 : MoX M h0 h tw i fa fm tl lk al ind sk dp lv fr en nf nn dg nu kd pn pe T xs L ps L1 p1 nt tb fd) (h32 : 32 ≤ u) (hu : u < 256) (hl : xs.length + 10 ≤ 18200) (hQ : ∀ h', MoX M h0 h' tw i fa fm tl lk al ind sk dp lv fr en nf nn dg nu kd pn pe T (xs ++ twL u) L ps L1 p1 nt tb fd → Q none h' c s) : bp_AM l G H0 (2, 45, false, false) M_Mo_putTaggedLetter h c s [.ref (M 0), .int (nI u)] Q := by
  refine bp_of (ls := [some (.ref (M 0)), some (.int (nI u))]) (by decide) dt_Mo_putTaggedLetter (Nat.le_of_ble_eq_true rfl) (fun q hq => hq) false ?_
  have n1 := nd_len u
  refine bp_iload_n (q := 1) 0 rfl rfl rfl rfl ?_
  refine bp_bipush (v := 60) (q := 3) 1 rfl rfl (by decide) ?_
  refine bp_icmp_eq (q := 6) (tgt := 18) 2 rfl rfl (by decide) (fun z3 => ?_) (fun z3 => ?_)
  · refine bp_aload_n (q := 19) 9 rfl rfl rfl rfl ?_
    refine bp_iload_n (q := 20) 10 rfl rfl rfl rfl ?_
    refine bp_bipush (v := 60) (q := 22) 11 rfl rfl (by decide) ?_
    refine bp_icmp_ne (q := 25) (tgt := 31) 12 rfl rfl (by decide) (fun z22 => ?_) (fun z22 => ?_)
    · refine bp_iload_n (q := 32) 15 rfl rfl rfl rfl ?_
      refine bp_bipush (v := 62) (q := 34) 16 rfl rfl (by decide) ?_
      refine bp_icmp_ne (q := 37) (tgt := 43) 17 rfl rfl (by decide) (fun z34 => ?_) (fun z34 => ?_)
      · refine bp_ldc2 (q := 46) 20 rfl rfl wd1612 ?_
        refine bp_callV (q := 49) (ci := 9) 21 rfl rfl cw_Mo_putText lk_Mo_345 rfl hB0.kb wd1647 wd76 rfl rfl (Nat.le_of_ble_eq_true rfl) ⟨Nat.le_of_ble_eq_true rfl, Nat.le_of_ble_eq_true rfl⟩ (s_Mo_putText hB0 lt_286 (by (try simp only [List.length_append, List.length_cons, List.length_nil]); omega) (fun h1 hB1 => ?_))
        refine bp_goto (tgt := 84) 22 rfl (by decide) ?_
        refine bp_vret 40 rfl rfl  ⟨_, rfl, ?_⟩
        have y3 : u = 60 := (nI_eq_iff (b := 60) (by omega) (by decide)).mp z3
        have y22 : ¬ u = 60 := fun q => z22 (by rw [q]; rfl)
        have y34 : ¬ u = 62 := fun q => z34 (by rw [q]; rfl)
        exfalso
        omega
      · refine bp_ldc2 (q := 40) 18 rfl rfl wd1611 ?_
        refine bp_goto (tgt := 46) 19 rfl (by decide) ?_
        refine bp_callV (q := 49) (ci := 9) 21 rfl rfl cw_Mo_putText lk_Mo_345 rfl hB0.kb wd1647 wd76 rfl rfl (Nat.le_of_ble_eq_true rfl) ⟨Nat.le_of_ble_eq_true rfl, Nat.le_of_ble_eq_true rfl⟩ (s_Mo_putText hB0 lt_284 (by (try simp only [List.length_append, List.length_cons, List.length_nil]); omega) (fun h1 hB1 => ?_))
        refine bp_goto (tgt := 84) 22 rfl (by decide) ?_
        refine bp_vret 40 rfl rfl  ⟨_, rfl, ?_⟩
        have y3 : u = 60 := (nI_eq_iff (b := 60) (by omega) (by decide)).mp z3
        have y22 : ¬ u = 60 := fun q => z22 (by rw [q]; rfl)
        have y34 : u = 62 := (nI_eq_iff (b := 62) (by omega) (by decide)).mp z34
        exfalso
        omega
    · refine bp_ldc2 (q := 28) 13 rfl rfl wd1610 ?_
      refine bp_goto (tgt := 46) 14 rfl (by decide) ?_
      refine bp_callV (q := 49) (ci := 9) 21 rfl rfl cw_Mo_putText lk_Mo_345 rfl hB0.kb wd1647 wd76 rfl rfl (Nat.le_of_ble_eq_true rfl) ⟨Nat.le_of_ble_eq_true rfl, Nat.le_of_ble_eq_true rfl⟩ (s_Mo_putText hB0 lt_278 (by (try simp only [List.length_append, List.length_cons, List.length_nil]); omega) (fun h1 hB1 => ?_))
      refine bp_goto (tgt := 84) 22 rfl (by decide) ?_
      refine bp_vret 40 rfl rfl  ⟨_, rfl, hQ _ ?_⟩
      have y3 : u = 60 := (nI_eq_iff (b := 60) (by omega) (by decide)).mp z3
      have y22 : u = 60 := (nI_eq_iff (b := 60) (by omega) (by decide)).mp z22
      have y55 : ¬ 127 ≤ u := by omega
      have e_ : xs ++ twL u = xs ++ [38, 108, 116, 59] := by simp [twL, y3, y22, y55]
      rw [e_]
      exact hB1
  · refine bp_iload_n (q := 7) 3 rfl rfl rfl rfl ?_
    refine bp_bipush (v := 62) (q := 9) 4 rfl rfl (by decide) ?_
    refine bp_icmp_eq (q := 12) (tgt := 18) 5 rfl rfl (by decide) (fun z9 => ?_) (fun z9 => ?_)
    · refine bp_aload_n (q := 19) 9 rfl rfl rfl rfl ?_
      refine bp_iload_n (q := 20) 10 rfl rfl rfl rfl ?_
      refine bp_bipush (v := 60) (q := 22) 11 rfl rfl (by decide) ?_
      refine bp_icmp_ne (q := 25) (tgt := 31) 12 rfl rfl (by decide) (fun z22 => ?_) (fun z22 => ?_)
      · refine bp_iload_n (q := 32) 15 rfl rfl rfl rfl ?_
        refine bp_bipush (v := 62) (q := 34) 16 rfl rfl (by decide) ?_
        refine bp_icmp_ne (q := 37) (tgt := 43) 17 rfl rfl (by decide) (fun z34 => ?_) (fun z34 => ?_)
        · refine bp_ldc2 (q := 46) 20 rfl rfl wd1612 ?_
          refine bp_callV (q := 49) (ci := 9) 21 rfl rfl cw_Mo_putText lk_Mo_345 rfl hB0.kb wd1647 wd76 rfl rfl (Nat.le_of_ble_eq_true rfl) ⟨Nat.le_of_ble_eq_true rfl, Nat.le_of_ble_eq_true rfl⟩ (s_Mo_putText hB0 lt_286 (by (try simp only [List.length_append, List.length_cons, List.length_nil]); omega) (fun h1 hB1 => ?_))
          refine bp_goto (tgt := 84) 22 rfl (by decide) ?_
          refine bp_vret 40 rfl rfl  ⟨_, rfl, ?_⟩
          have y3 : ¬ u = 60 := fun q => z3 (by rw [q]; rfl)
          have y9 : u = 62 := (nI_eq_iff (b := 62) (by omega) (by decide)).mp z9
          have y22 : ¬ u = 60 := fun q => z22 (by rw [q]; rfl)
          have y34 : ¬ u = 62 := fun q => z34 (by rw [q]; rfl)
          exfalso
          omega
        · refine bp_ldc2 (q := 40) 18 rfl rfl wd1611 ?_
          refine bp_goto (tgt := 46) 19 rfl (by decide) ?_
          refine bp_callV (q := 49) (ci := 9) 21 rfl rfl cw_Mo_putText lk_Mo_345 rfl hB0.kb wd1647 wd76 rfl rfl (Nat.le_of_ble_eq_true rfl) ⟨Nat.le_of_ble_eq_true rfl, Nat.le_of_ble_eq_true rfl⟩ (s_Mo_putText hB0 lt_284 (by (try simp only [List.length_append, List.length_cons, List.length_nil]); omega) (fun h1 hB1 => ?_))
          refine bp_goto (tgt := 84) 22 rfl (by decide) ?_
          refine bp_vret 40 rfl rfl  ⟨_, rfl, hQ _ ?_⟩
          have y3 : ¬ u = 60 := fun q => z3 (by rw [q]; rfl)
          have y9 : u = 62 := (nI_eq_iff (b := 62) (by omega) (by decide)).mp z9
          have y22 : ¬ u = 60 := fun q => z22 (by rw [q]; rfl)
          have y34 : u = 62 := (nI_eq_iff (b := 62) (by omega) (by decide)).mp z34
          have y55 : ¬ 127 ≤ u := by omega
          have e_ : xs ++ twL u = xs ++ [38, 103, 116, 59] := by simp [twL, y3, y9, y22, y34, y55]
          rw [e_]
          exact hB1
      · refine bp_ldc2 (q := 28) 13 rfl rfl wd1610 ?_
        refine bp_goto (tgt := 46) 14 rfl (by decide) ?_
        refine bp_callV (q := 49) (ci := 9) 21 rfl rfl cw_Mo_putText lk_Mo_345 rfl hB0.kb wd1647 wd76 rfl rfl (Nat.le_of_ble_eq_true rfl) ⟨Nat.le_of_ble_eq_true rfl, Nat.le_of_ble_eq_true rfl⟩ (s_Mo_putText hB0 lt_278 (by (try simp only [List.length_append, List.length_cons, List.length_nil]); omega) (fun h1 hB1 => ?_))
        refine bp_goto (tgt := 84) 22 rfl (by decide) ?_
        refine bp_vret 40 rfl rfl  ⟨_, rfl, ?_⟩
        have y3 : ¬ u = 60 := fun q => z3 (by rw [q]; rfl)
        have y9 : u = 62 := (nI_eq_iff (b := 62) (by omega) (by decide)).mp z9
        have y22 : u = 60 := (nI_eq_iff (b := 60) (by omega) (by decide)).mp z22
        exfalso
        omega
    · refine bp_iload_n (q := 13) 6 rfl rfl rfl rfl ?_
      refine bp_bipush (v := 38) (q := 15) 7 rfl rfl (by decide) ?_
      refine bp_icmp_ne (q := 18) (tgt := 52) 8 rfl rfl (by decide) (fun z15 => ?_) (fun z15 => ?_)
      · refine bp_iload_n (q := 53) 23 rfl rfl rfl rfl ?_
        refine bp_bipush (v := 126) (q := 55) 24 rfl rfl (by decide) ?_
        refine bp_icmp_le (q := 58) (tgt := 78) 25 rfl rfl (by decide) (fun z55 => ?_) (fun z55 => ?_)
        · refine bp_aload_n (q := 79) 36 rfl rfl rfl rfl ?_
          refine bp_iload_n (q := 80) 37 rfl rfl rfl rfl ?_
          refine bp_i2c (q := 81) 38 rfl rfl ?_
          rw [ch_id u (by omega)]
          have y126 : u ≤ 126 := (nI_le_iff (b := 126) (by omega) (by decide)).mp z55
          refine bp_callV (q := 84) (ci := 9) 39 rfl rfl cw_Mo_put lk_Mo_332 rfl hB0.kb wd1635 wd73 rfl rfl (Nat.le_of_ble_eq_true rfl) ⟨Nat.le_of_ble_eq_true rfl, Nat.le_of_ble_eq_true rfl⟩ (s_Mo_put (v := u) hB0 (by omega) (by (try simp only [List.length_append, List.length_cons, List.length_nil]); omega) (fun h1 hB1 => ?_))
          refine bp_vret 40 rfl rfl  ⟨_, rfl, hQ _ ?_⟩
          have y3 : ¬ u = 60 := fun q => z3 (by rw [q]; rfl)
          have y9 : ¬ u = 62 := fun q => z9 (by rw [q]; rfl)
          have y15 : ¬ u = 38 := fun q => z15 (by rw [q]; rfl)
          have y55 : ¬ 127 ≤ u := by have := (nI_le_iff (b := 126) (by omega) (by decide)).mp z55; omega
          have e_ : xs ++ twL u = xs ++ [u] := by simp [twL, y3, y9, y15, y55]
          rw [e_]
          exact hB1
        · refine bp_aload_n (q := 59) 26 rfl rfl rfl rfl ?_
          refine bp_bipush (v := 38) (q := 61) 27 rfl rfl (by decide) ?_
          refine bp_callV (q := 64) (ci := 9) 28 rfl rfl cw_Mo_put lk_Mo_332 rfl hB0.kb wd1635 wd73 rfl rfl (Nat.le_of_ble_eq_true rfl) ⟨Nat.le_of_ble_eq_true rfl, Nat.le_of_ble_eq_true rfl⟩ (s_Mo_put (v := 38) hB0 (by omega) (by (try simp only [List.length_append, List.length_cons, List.length_nil]); omega) (fun h1 hB1 => ?_))
          refine bp_aload_n (q := 65) 29 rfl rfl rfl rfl ?_
          refine bp_iload_n (q := 66) 30 rfl rfl rfl rfl ?_
          refine bp_callV (q := 69) (ci := 9) 31 rfl rfl cw_Mo_putNumber lk_Mo_355 rfl hB1.kb wd1659 wd77 rfl rfl (Nat.le_of_ble_eq_true rfl) ⟨Nat.le_of_ble_eq_true rfl, Nat.le_of_ble_eq_true rfl⟩ (s_Mo_putNumber (n := u) hB1 (by omega) (by (try simp only [List.length_append, List.length_cons, List.length_nil]); omega) (fun h2 hB2 => ?_))
          refine bp_aload_n (q := 70) 32 rfl rfl rfl rfl ?_
          refine bp_bipush (v := 59) (q := 72) 33 rfl rfl (by decide) ?_
          refine bp_callV (q := 75) (ci := 9) 34 rfl rfl cw_Mo_put lk_Mo_332 rfl hB2.kb wd1635 wd73 rfl rfl (Nat.le_of_ble_eq_true rfl) ⟨Nat.le_of_ble_eq_true rfl, Nat.le_of_ble_eq_true rfl⟩ (s_Mo_put (v := 59) hB2 (by omega) (by (try simp only [List.length_append, List.length_cons, List.length_nil]); omega) (fun h3 hB3 => ?_))
          refine bp_goto (tgt := 84) 35 rfl (by decide) ?_
          refine bp_vret 40 rfl rfl  ⟨_, rfl, hQ _ ?_⟩
          have y3 : ¬ u = 60 := fun q => z3 (by rw [q]; rfl)
          have y9 : ¬ u = 62 := fun q => z9 (by rw [q]; rfl)
          have y15 : ¬ u = 38 := fun q => z15 (by rw [q]; rfl)
          have y55 : 127 ≤ u := by have := mt (nI_le_iff (a := u) (b := 126) (by omega) (by decide)).mpr z55; omega
          have e_ : xs ++ twL u = xs ++ [38] ++ nd (u) ++ [59] := by simp [twL, y3, y9, y15, y55]
          rw [e_]
          exact hB3
      · refine bp_aload_n (q := 19) 9 rfl rfl rfl rfl ?_
        refine bp_iload_n (q := 20) 10 rfl rfl rfl rfl ?_
        refine bp_bipush (v := 60) (q := 22) 11 rfl rfl (by decide) ?_
        refine bp_icmp_ne (q := 25) (tgt := 31) 12 rfl rfl (by decide) (fun z22 => ?_) (fun z22 => ?_)
        · refine bp_iload_n (q := 32) 15 rfl rfl rfl rfl ?_
          refine bp_bipush (v := 62) (q := 34) 16 rfl rfl (by decide) ?_
          refine bp_icmp_ne (q := 37) (tgt := 43) 17 rfl rfl (by decide) (fun z34 => ?_) (fun z34 => ?_)
          · refine bp_ldc2 (q := 46) 20 rfl rfl wd1612 ?_
            refine bp_callV (q := 49) (ci := 9) 21 rfl rfl cw_Mo_putText lk_Mo_345 rfl hB0.kb wd1647 wd76 rfl rfl (Nat.le_of_ble_eq_true rfl) ⟨Nat.le_of_ble_eq_true rfl, Nat.le_of_ble_eq_true rfl⟩ (s_Mo_putText hB0 lt_286 (by (try simp only [List.length_append, List.length_cons, List.length_nil]); omega) (fun h1 hB1 => ?_))
            refine bp_goto (tgt := 84) 22 rfl (by decide) ?_
            refine bp_vret 40 rfl rfl  ⟨_, rfl, hQ _ ?_⟩
            have y3 : ¬ u = 60 := fun q => z3 (by rw [q]; rfl)
            have y9 : ¬ u = 62 := fun q => z9 (by rw [q]; rfl)
            have y15 : u = 38 := (nI_eq_iff (b := 38) (by omega) (by decide)).mp z15
            have y22 : ¬ u = 60 := fun q => z22 (by rw [q]; rfl)
            have y34 : ¬ u = 62 := fun q => z34 (by rw [q]; rfl)
            have y55 : ¬ 127 ≤ u := by omega
            have e_ : xs ++ twL u = xs ++ [38, 97, 109, 112, 59] := by simp [twL, y3, y9, y15, y22, y34, y55]
            rw [e_]
            exact hB1
          · refine bp_ldc2 (q := 40) 18 rfl rfl wd1611 ?_
            refine bp_goto (tgt := 46) 19 rfl (by decide) ?_
            refine bp_callV (q := 49) (ci := 9) 21 rfl rfl cw_Mo_putText lk_Mo_345 rfl hB0.kb wd1647 wd76 rfl rfl (Nat.le_of_ble_eq_true rfl) ⟨Nat.le_of_ble_eq_true rfl, Nat.le_of_ble_eq_true rfl⟩ (s_Mo_putText hB0 lt_284 (by (try simp only [List.length_append, List.length_cons, List.length_nil]); omega) (fun h1 hB1 => ?_))
            refine bp_goto (tgt := 84) 22 rfl (by decide) ?_
            refine bp_vret 40 rfl rfl  ⟨_, rfl, ?_⟩
            have y3 : ¬ u = 60 := fun q => z3 (by rw [q]; rfl)
            have y9 : ¬ u = 62 := fun q => z9 (by rw [q]; rfl)
            have y15 : u = 38 := (nI_eq_iff (b := 38) (by omega) (by decide)).mp z15
            have y22 : ¬ u = 60 := fun q => z22 (by rw [q]; rfl)
            have y34 : u = 62 := (nI_eq_iff (b := 62) (by omega) (by decide)).mp z34
            exfalso
            omega
        · refine bp_ldc2 (q := 28) 13 rfl rfl wd1610 ?_
          refine bp_goto (tgt := 46) 14 rfl (by decide) ?_
          refine bp_callV (q := 49) (ci := 9) 21 rfl rfl cw_Mo_putText lk_Mo_345 rfl hB0.kb wd1647 wd76 rfl rfl (Nat.le_of_ble_eq_true rfl) ⟨Nat.le_of_ble_eq_true rfl, Nat.le_of_ble_eq_true rfl⟩ (s_Mo_putText hB0 lt_278 (by (try simp only [List.length_append, List.length_cons, List.length_nil]); omega) (fun h1 hB1 => ?_))
          refine bp_goto (tgt := 84) 22 rfl (by decide) ?_
          refine bp_vret 40 rfl rfl  ⟨_, rfl, ?_⟩
          have y3 : ¬ u = 60 := fun q => z3 (by rw [q]; rfl)
          have y9 : ¬ u = 62 := fun q => z9 (by rw [q]; rfl)
          have y15 : u = 38 := (nI_eq_iff (b := 38) (by omega) (by decide)).mp z15
          have y22 : u = 60 := (nI_eq_iff (b := 60) (by omega) (by decide)).mp z22
          exfalso
          omega
set_option maxRecDepth 100000 in
set_option maxHeartbeats 4000000 in
theorem s_Mo_putBracedLetter {u : Nat} (hB0 : MoX M h0 h tw i fa fm tl lk al ind sk dp lv fr en nf nn dg nu kd pn pe T xs L ps L1 p1 nt tb fd) (h32 : 32 ≤ u) (hu : u < 256) (hl : xs.length + 10 ≤ 18200) (hQ : ∀ h', MoX M h0 h' tw i fa fm tl lk al ind sk dp lv fr en nf nn dg nu kd pn pe T (xs ++ bwL u) L ps L1 p1 nt tb fd → Q none h' c s) : bp_AM l G H0 (2, 45, false, false) M_Mo_putBracedLetter h c s [.ref (M 0), .int (nI u)] Q := by
  refine bp_of (ls := [some (.ref (M 0)), some (.int (nI u))]) (by decide) dt_Mo_putBracedLetter (Nat.le_of_ble_eq_true rfl) (fun q hq => hq) false ?_
  refine bp_iload_n (q := 1) 0 rfl rfl rfl rfl ?_
  refine bp_bipush (v := 126) (q := 3) 1 rfl rfl (by decide) ?_
  refine bp_icmp_le (q := 6) (tgt := 36) 2 rfl rfl (by decide) (fun z3 => ?_) (fun z3 => ?_)
  · refine bp_aload_n (q := 37) 19 rfl rfl rfl rfl ?_
    refine bp_iload_n (q := 38) 20 rfl rfl rfl rfl ?_
    refine bp_bipush (v := 123) (q := 40) 21 rfl rfl (by decide) ?_
    refine bp_icmp_eq (q := 43) (tgt := 55) 22 rfl rfl (by decide) (fun z40 => ?_) (fun z40 => ?_)
    · refine bp_ldc2 (q := 58) 29 rfl rfl wd1682 ?_
      refine bp_goto (tgt := 62) 30 rfl (by decide) ?_
      refine bp_callV (q := 65) (ci := 9) 32 rfl rfl cw_Mo_putText lk_Mo_345 rfl hB0.kb wd1647 wd76 rfl rfl (Nat.le_of_ble_eq_true rfl) ⟨Nat.le_of_ble_eq_true rfl, Nat.le_of_ble_eq_true rfl⟩ (s_Mo_putText hB0 lt_369 (by (try simp only [List.length_append, List.length_cons, List.length_nil]); omega) (fun h1 hB1 => ?_))
      refine bp_aload_n (q := 66) 33 rfl rfl rfl rfl ?_
      refine bp_iload_n (q := 67) 34 rfl rfl rfl rfl ?_
      refine bp_i2c (q := 68) 35 rfl rfl ?_
      rw [ch_id u (by omega)]
      have y126 : u ≤ 126 := (nI_le_iff (b := 126) (by omega) (by decide)).mp z3
      refine bp_callV (q := 71) (ci := 9) 36 rfl rfl cw_Mo_put lk_Mo_332 rfl hB1.kb wd1635 wd73 rfl rfl (Nat.le_of_ble_eq_true rfl) ⟨Nat.le_of_ble_eq_true rfl, Nat.le_of_ble_eq_true rfl⟩ (s_Mo_put (v := u) hB1 (by omega) (by (try simp only [List.length_append, List.length_cons, List.length_nil]); omega) (fun h2 hB2 => ?_))
      refine bp_vret 37 rfl rfl  ⟨_, rfl, hQ _ ?_⟩
      have y40 : u = 123 := (nI_eq_iff (b := 123) (by omega) (by decide)).mp z40
      have y3 : ¬ 127 ≤ u := by have := (nI_le_iff (b := 126) (by omega) (by decide)).mp z3; omega
      have e_ : xs ++ bwL u = xs ++ [92] ++ [u] := by simp [bwL, y40, y3]
      rw [e_]
      exact hB2
    · refine bp_iload_n (q := 44) 23 rfl rfl rfl rfl ?_
      refine bp_bipush (v := 125) (q := 46) 24 rfl rfl (by decide) ?_
      refine bp_icmp_eq (q := 49) (tgt := 55) 25 rfl rfl (by decide) (fun z46 => ?_) (fun z46 => ?_)
      · refine bp_ldc2 (q := 58) 29 rfl rfl wd1682 ?_
        refine bp_goto (tgt := 62) 30 rfl (by decide) ?_
        refine bp_callV (q := 65) (ci := 9) 32 rfl rfl cw_Mo_putText lk_Mo_345 rfl hB0.kb wd1647 wd76 rfl rfl (Nat.le_of_ble_eq_true rfl) ⟨Nat.le_of_ble_eq_true rfl, Nat.le_of_ble_eq_true rfl⟩ (s_Mo_putText hB0 lt_369 (by (try simp only [List.length_append, List.length_cons, List.length_nil]); omega) (fun h1 hB1 => ?_))
        refine bp_aload_n (q := 66) 33 rfl rfl rfl rfl ?_
        refine bp_iload_n (q := 67) 34 rfl rfl rfl rfl ?_
        refine bp_i2c (q := 68) 35 rfl rfl ?_
        rw [ch_id u (by omega)]
        have y126 : u ≤ 126 := (nI_le_iff (b := 126) (by omega) (by decide)).mp z3
        refine bp_callV (q := 71) (ci := 9) 36 rfl rfl cw_Mo_put lk_Mo_332 rfl hB1.kb wd1635 wd73 rfl rfl (Nat.le_of_ble_eq_true rfl) ⟨Nat.le_of_ble_eq_true rfl, Nat.le_of_ble_eq_true rfl⟩ (s_Mo_put (v := u) hB1 (by omega) (by (try simp only [List.length_append, List.length_cons, List.length_nil]); omega) (fun h2 hB2 => ?_))
        refine bp_vret 37 rfl rfl  ⟨_, rfl, hQ _ ?_⟩
        have y40 : ¬ u = 123 := fun q => z40 (by rw [q]; rfl)
        have y46 : u = 125 := (nI_eq_iff (b := 125) (by omega) (by decide)).mp z46
        have y3 : ¬ 127 ≤ u := by have := (nI_le_iff (b := 126) (by omega) (by decide)).mp z3; omega
        have e_ : xs ++ bwL u = xs ++ [92] ++ [u] := by simp [bwL, y40, y46, y3]
        rw [e_]
        exact hB2
      · refine bp_iload_n (q := 50) 26 rfl rfl rfl rfl ?_
        refine bp_bipush (v := 92) (q := 52) 27 rfl rfl (by decide) ?_
        refine bp_icmp_ne (q := 55) (tgt := 61) 28 rfl rfl (by decide) (fun z52 => ?_) (fun z52 => ?_)
        · refine bp_lconst (v := 0) (q := 62) 31 rfl rfl (by decide) ?_
          refine bp_callV (q := 65) (ci := 9) 32 rfl rfl cw_Mo_putText lk_Mo_345 rfl hB0.kb wd1647 wd76 rfl rfl (Nat.le_of_ble_eq_true rfl) ⟨Nat.le_of_ble_eq_true rfl, Nat.le_of_ble_eq_true rfl⟩ (s_Mo_putText hB0 ltx_0 (by (try simp only [List.length_append, List.length_cons, List.length_nil]); omega) (fun h1 hB1 => ?_))
          refine bp_aload_n (q := 66) 33 rfl rfl rfl rfl ?_
          refine bp_iload_n (q := 67) 34 rfl rfl rfl rfl ?_
          refine bp_i2c (q := 68) 35 rfl rfl ?_
          rw [ch_id u (by omega)]
          have y126 : u ≤ 126 := (nI_le_iff (b := 126) (by omega) (by decide)).mp z3
          refine bp_callV (q := 71) (ci := 9) 36 rfl rfl cw_Mo_put lk_Mo_332 rfl hB1.kb wd1635 wd73 rfl rfl (Nat.le_of_ble_eq_true rfl) ⟨Nat.le_of_ble_eq_true rfl, Nat.le_of_ble_eq_true rfl⟩ (s_Mo_put (v := u) hB1 (by omega) (by (try simp only [List.length_append, List.length_cons, List.length_nil]); omega) (fun h2 hB2 => ?_))
          refine bp_vret 37 rfl rfl  ⟨_, rfl, hQ _ ?_⟩
          have y40 : ¬ u = 123 := fun q => z40 (by rw [q]; rfl)
          have y46 : ¬ u = 125 := fun q => z46 (by rw [q]; rfl)
          have y52 : ¬ u = 92 := fun q => z52 (by rw [q]; rfl)
          have y3 : ¬ 127 ≤ u := by have := (nI_le_iff (b := 126) (by omega) (by decide)).mp z3; omega
          have e_ : xs ++ bwL u = xs ++ [] ++ [u] := by simp [bwL, y40, y46, y52, y3]
          rw [e_]
          exact hB2
        · refine bp_ldc2 (q := 58) 29 rfl rfl wd1682 ?_
          refine bp_goto (tgt := 62) 30 rfl (by decide) ?_
          refine bp_callV (q := 65) (ci := 9) 32 rfl rfl cw_Mo_putText lk_Mo_345 rfl hB0.kb wd1647 wd76 rfl rfl (Nat.le_of_ble_eq_true rfl) ⟨Nat.le_of_ble_eq_true rfl, Nat.le_of_ble_eq_true rfl⟩ (s_Mo_putText hB0 lt_369 (by (try simp only [List.length_append, List.length_cons, List.length_nil]); omega) (fun h1 hB1 => ?_))
          refine bp_aload_n (q := 66) 33 rfl rfl rfl rfl ?_
          refine bp_iload_n (q := 67) 34 rfl rfl rfl rfl ?_
          refine bp_i2c (q := 68) 35 rfl rfl ?_
          rw [ch_id u (by omega)]
          have y126 : u ≤ 126 := (nI_le_iff (b := 126) (by omega) (by decide)).mp z3
          refine bp_callV (q := 71) (ci := 9) 36 rfl rfl cw_Mo_put lk_Mo_332 rfl hB1.kb wd1635 wd73 rfl rfl (Nat.le_of_ble_eq_true rfl) ⟨Nat.le_of_ble_eq_true rfl, Nat.le_of_ble_eq_true rfl⟩ (s_Mo_put (v := u) hB1 (by omega) (by (try simp only [List.length_append, List.length_cons, List.length_nil]); omega) (fun h2 hB2 => ?_))
          refine bp_vret 37 rfl rfl  ⟨_, rfl, hQ _ ?_⟩
          have y40 : ¬ u = 123 := fun q => z40 (by rw [q]; rfl)
          have y46 : ¬ u = 125 := fun q => z46 (by rw [q]; rfl)
          have y52 : u = 92 := (nI_eq_iff (b := 92) (by omega) (by decide)).mp z52
          have y3 : ¬ 127 ≤ u := by have := (nI_le_iff (b := 126) (by omega) (by decide)).mp z3; omega
          have e_ : xs ++ bwL u = xs ++ [92] ++ [u] := by simp [bwL, y40, y46, y52, y3]
          rw [e_]
          exact hB2
  · refine bp_aload_n (q := 7) 3 rfl rfl rfl rfl ?_
    refine bp_ldc2 (q := 10) 4 rfl rfl wd1678 ?_
    refine bp_callV (q := 13) (ci := 9) 5 rfl rfl cw_Mo_putText lk_Mo_345 rfl hB0.kb wd1647 wd76 rfl rfl (Nat.le_of_ble_eq_true rfl) ⟨Nat.le_of_ble_eq_true rfl, Nat.le_of_ble_eq_true rfl⟩ (s_Mo_putText hB0 lt_364 (by (try simp only [List.length_append, List.length_cons, List.length_nil]); omega) (fun h1 hB1 => ?_))
    refine bp_aload_n (q := 14) 6 rfl rfl rfl rfl ?_
    refine bp_iload_n (q := 15) 7 rfl rfl rfl rfl ?_
    refine bp_bipush (v := 16) (q := 17) 8 rfl rfl (by decide) ?_
    refine bp_idiv (q := 18) 9 rfl rfl (by decide) ?_
    rw [(hx_16 u hu).1]
    refine bp_callS (q := 21) 10 rfl rfl cw_Mo_hexDigit lk_Mo_366 wd1680 rfl rfl (Nat.le_of_ble_eq_true rfl) ⟨Nat.le_of_ble_eq_true rfl, Nat.le_of_ble_eq_true rfl⟩ (s_Mo_hexDigit (ro := false) (k := u / 16) (by omega) ?_)
    refine bp_callV (q := 24) (ci := 9) 11 rfl rfl cw_Mo_put lk_Mo_332 rfl hB1.kb wd1635 wd73 rfl rfl (Nat.le_of_ble_eq_true rfl) ⟨Nat.le_of_ble_eq_true rfl, Nat.le_of_ble_eq_true rfl⟩ (s_Mo_put (v := hxD (u / 16)) hB1 (by unfold hxD; split <;> omega) (by (try simp only [List.length_append, List.length_cons, List.length_nil]); omega) (fun h2 hB2 => ?_))
    refine bp_aload_n (q := 25) 12 rfl rfl rfl rfl ?_
    refine bp_iload_n (q := 26) 13 rfl rfl rfl rfl ?_
    refine bp_bipush (v := 16) (q := 28) 14 rfl rfl (by decide) ?_
    refine bp_irem (q := 29) 15 rfl rfl (by decide) ?_
    rw [(hx_16 u hu).2]
    refine bp_callS (q := 32) 16 rfl rfl cw_Mo_hexDigit lk_Mo_366 wd1680 rfl rfl (Nat.le_of_ble_eq_true rfl) ⟨Nat.le_of_ble_eq_true rfl, Nat.le_of_ble_eq_true rfl⟩ (s_Mo_hexDigit (ro := false) (k := u % 16) (by omega) ?_)
    refine bp_callV (q := 35) (ci := 9) 17 rfl rfl cw_Mo_put lk_Mo_332 rfl hB2.kb wd1635 wd73 rfl rfl (Nat.le_of_ble_eq_true rfl) ⟨Nat.le_of_ble_eq_true rfl, Nat.le_of_ble_eq_true rfl⟩ (s_Mo_put (v := hxD (u % 16)) hB2 (by unfold hxD; split <;> omega) (by (try simp only [List.length_append, List.length_cons, List.length_nil]); omega) (fun h3 hB3 => ?_))
    refine bp_vret 18 rfl rfl  ⟨_, rfl, hQ _ ?_⟩
    have y3 : 127 ≤ u := by have := mt (nI_le_iff (a := u) (b := 126) (by omega) (by decide)).mpr z3; omega
    have e_ : xs ++ bwL u = xs ++ [92, 39] ++ [hxD (u / 16)] ++ [hxD (u % 16)] := by simp [bwL, y3]
    rw [e_]
    exact hB3
set_option maxRecDepth 100000 in
set_option maxHeartbeats 4000000 in
theorem lp_Mo_uses {ro : Bool} {j : Nat} (hB0 : MoX M h0 h tw i fa fm tl lk al ind sk dp lv fr en nf nn dg nu kd pn pe T xs L ps L1 p1 nt tb fd) (okp : okP L ps) (hj : j < 8) (hQ : Q (some (.int (bI (usl (lkL L) j)))) h c s) : ∀ (m k : Nat) {b : Bool}, m + k = L.length → usl ((lkL L).take k) j = b → (Q (some (.int (bI (usl (lkL L) j)))) h c s) → bp_A l G H0 (0, 0, ro, ro) M_Mo_usesColour h c s 4 [some (.ref (M 0)), some (.int (nI j)), some (.int (bI b)), some (.int (nI k))] [] (fun o h' c' s' => ∃ v, o = .returned v ∧ Q v h' c' s') := by
  have hL4 := okp.1
  intro m
  induction m with
  | zero =>
    intro k b hm hb hQ
    refine bp_iload_n (q := 5) 4 rfl rfl rfl rfl ?_
    refine bp_aload_n (q := 6) 5 rfl rfl rfl rfl ?_
    refine bp_getR (x := M 5) (q := 9) (ci := 9) (j := 5) 6 rfl rfl fl_Mo_17_9 hB0.kb rfl hB0.r5 ?_
    refine bp_iconst (v := 0) (q := 10) 7 rfl rfl (by decide) ?_
    refine bp_iald (q := 11) 8 rfl rfl hB0.k5 (by rw [hB0.l5]; exact vp_in_nI (n := 0) (by decide) (by decide)) ?_
    rw [show bp_I h (M 5) ((0 : Int32).toNatClampNeg) = nI L.length from hB0.m0]
    refine bp_icmp_ge (q := 14) (tgt := 44) 9 rfl rfl (by decide) (fun z11 => ?_) (fun z11 => ?_)
    · refine bp_iload_n (q := 45) 26 rfl rfl rfl rfl ?_
      refine bp_iret 27 rfl rfl (bI_nar _) ⟨_, rfl, ?_⟩
      rw [← hb, List.take_of_length_le (by rw [lkL_len]; omega)]
      exact hQ
    · exact absurd (nI_le (by omega) (by omega)) z11
  | succ m ih =>
    intro k b hm hb hQ
    have hk : k < L.length := by omega
    subst hb
    refine bp_iload_n (q := 5) 4 rfl rfl rfl rfl ?_
    refine bp_aload_n (q := 6) 5 rfl rfl rfl rfl ?_
    refine bp_getR (x := M 5) (q := 9) (ci := 9) (j := 5) 6 rfl rfl fl_Mo_17_9 hB0.kb rfl hB0.r5 ?_
    refine bp_iconst (v := 0) (q := 10) 7 rfl rfl (by decide) ?_
    refine bp_iald (q := 11) 8 rfl rfl hB0.k5 (by rw [hB0.l5]; exact vp_in_nI (n := 0) (by decide) (by decide)) ?_
    rw [show bp_I h (M 5) ((0 : Int32).toNatClampNeg) = nI L.length from hB0.m0]
    refine bp_icmp_ge (q := 14) (tgt := 44) 9 rfl rfl (by decide) (fun z11 => ?_) (fun z11 => ?_)
    · exact absurd z11 (nI_ge hk (by omega))
    · refine bp_iload_n (q := 15) 10 rfl rfl rfl rfl ?_
      refine bp_if_ne (q := 18) (tgt := 32) 11 rfl rfl (by decide) (fun z15 => ?_) (fun z15 => ?_)
      · refine bp_iconst (v := 1) (q := 33) 20 rfl rfl (by decide) ?_
        refine bp_goto (tgt := 37) 21 rfl (by decide) ?_
        refine bp_istore_n (q := 38) 23 rfl rfl rfl (by decide) (bp_up2 rfl) ?_
        refine bp_iinc (v := nI (k + 1)) (q := 41) 24 rfl rfl rfl (nI_1 k) (by decide) (bp_up3 rfl) ?_
        refine bp_goto (tgt := 4) 25 rfl (by decide) ?_
        have et : usl ((lkL L).take (k + 1)) j = (usl ((lkL L).take k) j || decide ((lkL L).getD k 0 / 8 % 8 = j)) := by rw [← take_snoc _ (by rw [lkL_len]; exact hk), usl_snoc]
        have y := bI1 z15
        rw [y, Bool.true_or] at et
        exact ih (k + 1) (by omega) et hQ
      · refine bp_aload_n (q := 19) 12 rfl rfl rfl rfl ?_
        refine bp_getR (x := M 8) (q := 22) (ci := 9) (j := 8) 13 rfl rfl fl_Mo_27_9 hB0.kb rfl hB0.r8 ?_
        refine bp_iload_n (q := 23) 14 rfl rfl rfl rfl ?_
        refine bp_iald (q := 24) 15 rfl rfl hB0.k8 (by rw [hB0.l8]; exact vp_in_nI (by omega) (by decide)) ?_
        rw [nI_clamp (by omega), hB0.g0 hk]
        refine bp_sipush (v := 1024) (q := 27) 16 rfl rfl (by decide) ?_
        refine bp_idiv (q := 28) 17 rfl rfl (by decide) ?_
        rw [(cm_sb (okp.2.2.2 k hk).2).2.2.2.2.1]
        refine bp_iload_n (q := 29) 18 rfl rfl rfl rfl ?_
        refine bp_icmp_ne (q := 32) (tgt := 36) 19 rfl rfl (by decide) (fun z29 => ?_) (fun z29 => ?_)
        · refine bp_iconst (v := 0) (q := 37) 22 rfl rfl (by decide) ?_
          refine bp_istore_n (q := 38) 23 rfl rfl rfl (by decide) (bp_up2 rfl) ?_
          refine bp_iinc (v := nI (k + 1)) (q := 41) 24 rfl rfl rfl (nI_1 k) (by decide) (bp_up3 rfl) ?_
          refine bp_goto (tgt := 4) 25 rfl (by decide) ?_
          have et : usl ((lkL L).take (k + 1)) j = (usl ((lkL L).take k) j || decide ((lkL L).getD k 0 / 8 % 8 = j)) := by rw [← take_snoc _ (by rw [lkL_len]; exact hk), usl_snoc]
          have y : ¬ (lkL L).getD k 0 / 8 % 8 = j := fun q => z29 (by rw [q])
          rw [bI0.mp z15, decide_eq_false y] at et
          exact ih (k + 1) (by omega) et hQ
        · refine bp_iconst (v := 1) (q := 33) 20 rfl rfl (by decide) ?_
          refine bp_goto (tgt := 37) 21 rfl (by decide) ?_
          refine bp_istore_n (q := 38) 23 rfl rfl rfl (by decide) (bp_up2 rfl) ?_
          refine bp_iinc (v := nI (k + 1)) (q := 41) 24 rfl rfl rfl (nI_1 k) (by decide) (bp_up3 rfl) ?_
          refine bp_goto (tgt := 4) 25 rfl (by decide) ?_
          have et : usl ((lkL L).take (k + 1)) j = (usl ((lkL L).take k) j || decide ((lkL L).getD k 0 / 8 % 8 = j)) := by rw [← take_snoc _ (by rw [lkL_len]; exact hk), usl_snoc]
          have y : (lkL L).getD k 0 / 8 % 8 = j := (nI_eq_iff (by omega) (by omega)).mp z29
          rw [decide_eq_true y, Bool.or_true] at et
          exact ih (k + 1) (by omega) et hQ
set_option maxRecDepth 100000 in
set_option maxHeartbeats 4000000 in
theorem s_Mo_usesColour {ro : Bool} {j : Nat} (hB0 : MoX M h0 h tw i fa fm tl lk al ind sk dp lv fr en nf nn dg nu kd pn pe T xs L ps L1 p1 nt tb fd) (okp : okP L ps) (hj : j < 8) (hQ : Q (some (.int (bI (usl (lkL L) j)))) h c s) : bp_AM l G H0 (0, 0, ro, ro) M_Mo_usesColour h c s [.ref (M 0), .int (nI j)] Q := by
  refine bp_of (ls := [some (.ref (M 0)), some (.int (nI j)), none, none]) (by decide) dt_Mo_usesColour (Nat.le_of_ble_eq_true rfl) (fun q hq => hq) ro ?_
  refine bp_iconst (v := 0) (q := 1) 0 rfl rfl (by decide) ?_
  refine bp_istore_n (q := 2) 1 rfl rfl rfl (by decide) (bp_up2 rfl) ?_
  refine bp_iconst (v := 0) (q := 3) 2 rfl rfl (by decide) ?_
  refine bp_istore_n (q := 4) 3 rfl rfl rfl (by decide) (bp_up3 rfl) ?_
  exact lp_Mo_uses (b := false) hB0 okp hj hQ L.length 0 (Nat.add_zero _) (by rw [List.take_zero]; rfl) hQ
set_option maxRecDepth 100000 in
set_option maxHeartbeats 4000000 in
theorem lp_Mo_entry {ro : Bool} {j : Nat} (hB0 : MoX M h0 h tw i fa fm tl lk al ind sk dp lv fr en nf nn dg nu kd pn pe T xs L ps L1 p1 nt tb fd) (okp : okP L ps) (hj : j < 8) : ∀ (m k : Nat), m + k = j + 1 → 1 ≤ k → Q (some (.int (nI (cu (lkL L) j)))) h c s → bp_A l G H0 (1, 23, ro, ro) M_Mo_entryOf h c s 4 [some (.ref (M 0)), some (.int (nI j)), some (.int (nI (cu (lkL L) (k - 1)))), some (.int (nI k))] [] (fun o h' c' s' => ∃ v, o = .returned v ∧ Q v h' c' s') := by
  intro m
  induction m with
  | zero =>
    intro k hm hk1 hQ
    refine bp_iload_n (q := 5) 4 rfl rfl rfl rfl ?_
    refine bp_iload_n (q := 6) 5 rfl rfl rfl rfl ?_
    refine bp_icmp_gt (q := 9) (tgt := 31) 6 rfl rfl (by decide) (fun z6 => ?_) (fun z6 => ?_)
    · refine bp_iload_n (q := 32) 19 rfl rfl rfl rfl ?_
      refine bp_iret 20 rfl rfl rfl ⟨_, rfl, ?_⟩
      rw [show k - 1 = j by omega]
      exact hQ
    · exact absurd (nI_lt (a := j) (b := k) (by omega) (by omega)) z6
  | succ m ih =>
    intro k hm hk1 hQ
    refine bp_iload_n (q := 5) 4 rfl rfl rfl rfl ?_
    refine bp_iload_n (q := 6) 5 rfl rfl rfl rfl ?_
    refine bp_icmp_gt (q := 9) (tgt := 31) 6 rfl rfl (by decide) (fun z6 => ?_) (fun z6 => ?_)
    · exact absurd z6 (nI_nlt (a := j) (b := k) (by omega) (by omega))
    · refine bp_iload_n (q := 10) 7 rfl rfl rfl rfl ?_
      refine bp_aload_n (q := 11) 8 rfl rfl rfl rfl ?_
      refine bp_iload_n (q := 12) 9 rfl rfl rfl rfl ?_
      refine bp_callV (q := 15) (ci := 9) 10 rfl rfl cw_Mo_usesColour lk_Mo_336 rfl hB0.kb wd1643 wd75 rfl rfl (Nat.le_of_ble_eq_true rfl) ⟨Nat.le_of_ble_eq_true rfl, Nat.le_of_ble_eq_true rfl⟩ (s_Mo_usesColour (ro := ro) (j := k) hB0 okp (by omega) ?_)
      refine bp_if_eq (q := 18) (tgt := 22) 11 rfl rfl (by decide) (fun z15 => ?_) (fun z15 => ?_)
      · refine bp_iconst (v := 0) (q := 23) 14 rfl rfl (by decide) ?_
        refine bp_iadd (q := 24) 15 rfl rfl ?_
        rw [show nI (cu (lkL L) (k - 1)) + 0 = nI (cu (lkL L) (k - 1) + 0) from nI_add _ 0]
        refine bp_istore_n (q := 25) 16 rfl rfl rfl (by decide) (bp_up2 rfl) ?_
        refine bp_iinc (v := nI (k + 1)) (q := 28) 17 rfl rfl rfl (nI_1 k) (by decide) (bp_up3 rfl) ?_
        refine bp_goto (tgt := 4) 18 rfl (by decide) ?_
        obtain ⟨q, rfl⟩ : ∃ q, k = q + 1 := ⟨k - 1, by omega⟩
        have y := bI0.mp z15
        have e_ : cu (lkL L) (q + 1 + 1 - 1) = cu (lkL L) (q + 1 - 1) + 0 := by show cu (lkL L) (q + 1) = cu (lkL L) q + _; rw [cu, y]; rfl
        rw [← e_]
        exact ih (q + 1 + 1) (by omega) (by omega) hQ
      · refine bp_iconst (v := 1) (q := 19) 12 rfl rfl (by decide) ?_
        refine bp_goto (tgt := 23) 13 rfl (by decide) ?_
        refine bp_iadd (q := 24) 15 rfl rfl ?_
        rw [show nI (cu (lkL L) (k - 1)) + 1 = nI (cu (lkL L) (k - 1) + 1) from nI_add _ 1]
        refine bp_istore_n (q := 25) 16 rfl rfl rfl (by decide) (bp_up2 rfl) ?_
        refine bp_iinc (v := nI (k + 1)) (q := 28) 17 rfl rfl rfl (nI_1 k) (by decide) (bp_up3 rfl) ?_
        refine bp_goto (tgt := 4) 18 rfl (by decide) ?_
        obtain ⟨q, rfl⟩ : ∃ q, k = q + 1 := ⟨k - 1, by omega⟩
        have y := bI1 z15
        have e_ : cu (lkL L) (q + 1 + 1 - 1) = cu (lkL L) (q + 1 - 1) + 1 := by show cu (lkL L) (q + 1) = cu (lkL L) q + _; rw [cu, y]; rfl
        rw [← e_]
        exact ih (q + 1 + 1) (by omega) (by omega) hQ
set_option maxRecDepth 100000 in
set_option maxHeartbeats 4000000 in
theorem s_Mo_entryOf {ro : Bool} {j : Nat} (hB0 : MoX M h0 h tw i fa fm tl lk al ind sk dp lv fr en nf nn dg nu kd pn pe T xs L ps L1 p1 nt tb fd) (okp : okP L ps) (hj : j < 8) (hQ : Q (some (.int (nI (cu (lkL L) j)))) h c s) : bp_AM l G H0 (1, 23, ro, ro) M_Mo_entryOf h c s [.ref (M 0), .int (nI j)] Q := by
  refine bp_of (ls := [some (.ref (M 0)), some (.int (nI j)), none, none]) (by decide) dt_Mo_entryOf (Nat.le_of_ble_eq_true rfl) (fun q hq => hq) ro ?_
  refine bp_iconst (v := 0) (q := 1) 0 rfl rfl (by decide) ?_
  refine bp_istore_n (q := 2) 1 rfl rfl rfl (by decide) (bp_up2 rfl) ?_
  refine bp_iconst (v := 1) (q := 3) 2 rfl rfl (by decide) ?_
  refine bp_istore_n (q := 4) 3 rfl rfl rfl (by decide) (bp_up3 rfl) ?_
  exact lp_Mo_entry hB0 okp hj j 1 rfl (by decide) hQ
set_option maxRecDepth 100000 in
set_option maxHeartbeats 4000000 in
theorem s_Mo_firstOfRun {ro : Bool} {k : Nat} (hB0 : MoX M h0 h tw i fa fm tl lk al ind sk dp lv fr en nf nn dg nu kd pn pe T xs L ps L1 p1 nt tb fd) (okp : okP L ps) (hk : k < L.length) (hQ : Q (some (.int (bI (fR L ps k)))) h c s) : bp_AM l G H0 (0, 0, ro, ro) M_Mo_firstOfRun h c s [.ref (M 0), .int (nI k)] Q := by
  refine bp_of (ls := [some (.ref (M 0)), some (.int (nI k))]) (by decide) dt_Mo_firstOfRun (Nat.le_of_ble_eq_true rfl) (fun q hq => hq) ro ?_
  have hL4 := okp.1
  have h16 := okp.2.1
  refine bp_iload_n (q := 1) 0 rfl rfl rfl rfl ?_
  refine bp_if_eq (q := 4) (tgt := 38) 1 rfl rfl (by decide) (fun z1 => ?_) (fun z1 => ?_)
  · refine bp_iconst (v := 1) (q := 39) 24 rfl rfl (by decide) ?_
    refine bp_goto (tgt := 43) 25 rfl (by decide) ?_
    refine bp_iret 27 rfl rfl (by first | rfl | assumption) ⟨_, rfl, ?_⟩
    have y1 : k = 0 := (nI_eq_iff (b := 0) (by omega) (by decide)).mp z1
    rw [show fR L ps k = true from by unfold fR; rw [decide_eq_true y1]; rfl] at hQ
    exact hQ
  · refine bp_aload_n (q := 5) 2 rfl rfl rfl rfl ?_
    have hk1 : k ≠ 0 := fun q => z1 (by rw [q]; rfl)
    refine bp_getR (x := M 9) (q := 8) (ci := 9) (j := 9) 3 rfl rfl fl_Mo_30_9 hB0.kb rfl hB0.r9 ?_
    refine bp_iload_n (q := 9) 4 rfl rfl rfl rfl ?_
    refine bp_iconst (v := 1) (q := 10) 5 rfl rfl (by decide) ?_
    refine bp_isub (q := 11) 6 rfl rfl ?_
    rw [show nI k - 1 = nI (k - 1) from nI_sub (b := 1) (by omega)]
    refine bp_iald (q := 12) 7 rfl rfl hB0.k9 (by rw [hB0.l9]; exact vp_in_nI (by omega) (by decide)) ?_
    rw [nI_clamp (by omega), hB0.q0 (by omega)]
    refine bp_aload_n (q := 13) 8 rfl rfl rfl rfl ?_
    refine bp_getR (x := M 9) (q := 16) (ci := 9) (j := 9) 9 rfl rfl fl_Mo_30_9 hB0.kb rfl hB0.r9 ?_
    refine bp_iload_n (q := 17) 10 rfl rfl rfl rfl ?_
    refine bp_iald (q := 18) 11 rfl rfl hB0.k9 (by rw [hB0.l9]; exact vp_in_nI (by omega) (by decide)) ?_
    rw [nI_clamp (by omega), hB0.q0 hk]
    refine bp_icmp_ne (q := 21) (tgt := 38) 12 rfl rfl (by decide) (fun z18 => ?_) (fun z18 => ?_)
    · refine bp_iconst (v := 1) (q := 39) 24 rfl rfl (by decide) ?_
      refine bp_goto (tgt := 43) 25 rfl (by decide) ?_
      refine bp_iret 27 rfl rfl (by first | rfl | assumption) ⟨_, rfl, ?_⟩
      have y18 : pIx ps (k - 1) ≠ pIx ps k := fun q => z18 (by rw [q])
      rw [show fR L ps k = true from by unfold fR; rw [decide_eq_true y18]; simp] at hQ
      exact hQ
    · refine bp_aload_n (q := 22) 13 rfl rfl rfl rfl ?_
      refine bp_getR (x := M 8) (q := 25) (ci := 9) (j := 8) 14 rfl rfl fl_Mo_27_9 hB0.kb rfl hB0.r8 ?_
      refine bp_iload_n (q := 26) 15 rfl rfl rfl rfl ?_
      refine bp_iconst (v := 1) (q := 27) 16 rfl rfl (by decide) ?_
      refine bp_isub (q := 28) 17 rfl rfl ?_
      rw [show nI k - 1 = nI (k - 1) from nI_sub (b := 1) (by omega)]
      refine bp_iald (q := 29) 18 rfl rfl hB0.k8 (by rw [hB0.l8]; exact vp_in_nI (by omega) (by decide)) ?_
      rw [nI_clamp (by omega), hB0.g0 (by omega)]
      refine bp_aload_n (q := 30) 19 rfl rfl rfl rfl ?_
      refine bp_getR (x := M 8) (q := 33) (ci := 9) (j := 8) 20 rfl rfl fl_Mo_27_9 hB0.kb rfl hB0.r8 ?_
      refine bp_iload_n (q := 34) 21 rfl rfl rfl rfl ?_
      refine bp_iald (q := 35) 22 rfl rfl hB0.k8 (by rw [hB0.l8]; exact vp_in_nI (by omega) (by decide)) ?_
      rw [nI_clamp (by omega), hB0.g0 hk]
      refine bp_icmp_eq (q := 38) (tgt := 42) 23 rfl rfl (by decide) (fun z35 => ?_) (fun z35 => ?_)
      · refine bp_iconst (v := 0) (q := 43) 26 rfl rfl (by decide) ?_
        refine bp_iret 27 rfl rfl (by first | rfl | assumption) ⟨_, rfl, ?_⟩
        have y18 : pIx ps (k - 1) = pIx ps k := (nI_eq_iff (by have := pIx_le ps (k - 1); have := pIx_le ps k; omega) (by have := pIx_le ps (k - 1); have := pIx_le ps k; omega)).mp z18
        have b1 := (okp.2.2.2 (k - 1) (by omega)).2
        have b2 := (okp.2.2.2 k hk).2
        have y35 : (lkL L).getD (k - 1) 0 = (lkL L).getD k 0 := cm_inj b1 b2 ((nI_eq_iff (by have := (cm_d _ b1).1; omega) (by have := (cm_d _ b2).1; omega)).mp z35)
        rw [show fR L ps k = false from by unfold fR; rw [decide_eq_false hk1, y18, y35]; simp] at hQ
        exact hQ
      · refine bp_iconst (v := 1) (q := 39) 24 rfl rfl (by decide) ?_
        refine bp_goto (tgt := 43) 25 rfl (by decide) ?_
        refine bp_iret 27 rfl rfl (by first | rfl | assumption) ⟨_, rfl, ?_⟩
        have y18 : pIx ps (k - 1) = pIx ps k := (nI_eq_iff (by have := pIx_le ps (k - 1); have := pIx_le ps k; omega) (by have := pIx_le ps (k - 1); have := pIx_le ps k; omega)).mp z18
        have y35 : (lkL L).getD (k - 1) 0 ≠ (lkL L).getD k 0 := fun q => z35 (by rw [q])
        rw [show fR L ps k = true from by unfold fR; rw [decide_eq_true y35]; simp] at hQ
        exact hQ
set_option maxRecDepth 100000 in
set_option maxHeartbeats 4000000 in
theorem s_Mo_lastOfRun {ro : Bool} {k : Nat} (hB0 : MoX M h0 h tw i fa fm tl lk al ind sk dp lv fr en nf nn dg nu kd pn pe T xs L ps L1 p1 nt tb fd) (okp : okP L ps) (hk : k < L.length) (hQ : Q (some (.int (bI (lR L ps k)))) h c s) : bp_AM l G H0 (1, 21, ro, ro) M_Mo_lastOfRun h c s [.ref (M 0), .int (nI k)] Q := by
  refine bp_of (ls := [some (.ref (M 0)), some (.int (nI k))]) (by decide) dt_Mo_lastOfRun (Nat.le_of_ble_eq_true rfl) (fun q hq => hq) ro ?_
  have hL4 := okp.1
  refine bp_iload_n (q := 1) 0 rfl rfl rfl rfl ?_
  refine bp_iconst (v := 1) (q := 2) 1 rfl rfl (by decide) ?_
  refine bp_iadd (q := 3) 2 rfl rfl ?_
  rw [nI_1]
  refine bp_aload_n (q := 4) 3 rfl rfl rfl rfl ?_
  refine bp_getR (x := M 5) (q := 7) (ci := 9) (j := 5) 4 rfl rfl fl_Mo_17_9 hB0.kb rfl hB0.r5 ?_
  refine bp_iconst (v := 0) (q := 8) 5 rfl rfl (by decide) ?_
  refine bp_iald (q := 9) 6 rfl rfl hB0.k5 (by rw [hB0.l5]; exact vp_in_nI (n := 0) (by decide) (by decide)) ?_
  rw [show bp_I h (M 5) ((0 : Int32).toNatClampNeg) = nI L.length from hB0.m0]
  refine bp_icmp_eq (q := 12) (tgt := 22) 7 rfl rfl (by decide) (fun z9 => ?_) (fun z9 => ?_)
  · refine bp_iconst (v := 1) (q := 23) 14 rfl rfl (by decide) ?_
    refine bp_goto (tgt := 27) 15 rfl (by decide) ?_
    refine bp_iret 17 rfl rfl (by first | rfl | assumption) ⟨_, rfl, ?_⟩
    have y9 : k + 1 = L.length := (nI_eq_iff (by omega) (by omega)).mp z9
    rw [show lR L ps k = true from by unfold lR; rw [decide_eq_true y9]; rfl] at hQ
    exact hQ
  · refine bp_aload_n (q := 13) 8 rfl rfl rfl rfl ?_
    have y9 : ¬ k + 1 = L.length := fun q => z9 (by rw [q])
    refine bp_iload_n (q := 14) 9 rfl rfl rfl rfl ?_
    refine bp_iconst (v := 1) (q := 15) 10 rfl rfl (by decide) ?_
    refine bp_iadd (q := 16) 11 rfl rfl ?_
    rw [nI_1]
    refine bp_callV (q := 19) (ci := 9) 12 rfl rfl cw_Mo_firstOfRun lk_Mo_340 rfl hB0.kb wd1663 wd78 rfl rfl (Nat.le_of_ble_eq_true rfl) ⟨Nat.le_of_ble_eq_true rfl, Nat.le_of_ble_eq_true rfl⟩ (s_Mo_firstOfRun (ro := ro) (k := k + 1) hB0 okp (by have := y9; omega) ?_)
    refine bp_if_eq (q := 22) (tgt := 26) 13 rfl rfl (by decide) (fun z19 => ?_) (fun z19 => ?_)
    · refine bp_iconst (v := 0) (q := 27) 16 rfl rfl (by decide) ?_
      refine bp_iret 17 rfl rfl (by first | rfl | assumption) ⟨_, rfl, ?_⟩
      rw [show lR L ps k = false from by unfold lR; rw [decide_eq_false y9, bI0.mp z19]; rfl] at hQ
      exact hQ
    · refine bp_iconst (v := 1) (q := 23) 14 rfl rfl (by decide) ?_
      refine bp_goto (tgt := 27) 15 rfl (by decide) ?_
      refine bp_iret 17 rfl rfl (by first | rfl | assumption) ⟨_, rfl, ?_⟩
      rw [show lR L ps k = true from by unfold lR; rw [bI1 z19]; simp] at hQ
      exact hQ
end MO3
