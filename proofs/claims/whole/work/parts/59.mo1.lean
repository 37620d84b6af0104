/-! the reference: words in longs, what it writes -/
def lsh (x : Int64) (k : Nat) : Int64 := (x.toUInt64 >>> ((8 * nI k).toInt64.toUInt64 &&& Int64.toUInt64 63)).toInt64
def lsz (x : Int64) : Nat → Nat → Nat
  | 0, k => k
  | n + 1, k => if lsh x k = 0 then k else lsz x n (k + 1)
theorem lsz_le (x : Int64) : ∀ n k, k ≤ lsz x n k ∧ lsz x n k ≤ k + n
  | 0, k => ⟨Nat.le_refl _, Nat.le_refl _⟩
  | n + 1, k => by
    unfold lsz
    split
    · omega
    · have := lsz_le x n (k + 1); omega
/-- the long x holds the text ys -/
def ltx (x : Int64) (ys : List Nat) : Prop := lsz x 8 0 = ys.length ∧ ∀ k, k < ys.length → ((lsh x k &&& 255).toInt32.toUInt32 % 65536).toInt32 = nI (ys.getD k 0) ∧ lsh x k &&& 255 = (nI (ys.getD k 0)).toInt64 ∧ ys.getD k 0 < 128
def ltB (x : Int64) (ys : List Nat) : Bool := decide (lsz x 8 0 = ys.length) && (List.range ys.length).all (fun k => decide (((lsh x k &&& 255).toInt32.toUInt32 % 65536).toInt32 = nI (ys.getD k 0)) && (decide (lsh x k &&& 255 = (nI (ys.getD k 0)).toInt64) && decide (ys.getD k 0 < 128)))
theorem ltx_of {x : Int64} {ys : List Nat} (h : ltB x ys = true) : ltx x ys := by
  unfold ltB at h
  rw [Bool.and_eq_true, decide_eq_true_eq, List.all_eq_true] at h
  refine ⟨h.1, fun k hk => ?_⟩
  have := h.2 k (List.mem_range.mpr hk)
  rw [Bool.and_eq_true, Bool.and_eq_true, decide_eq_true_eq, decide_eq_true_eq, decide_eq_true_eq] at this
  exact this
theorem ltx_0 : ltx 0 [] := ltx_of (by decide +kernel)
theorem lt_57 : ltx 10 [10] := ltx_of (by decide +kernel)
theorem lt_59 : ltx 32 [32] := ltx_of (by decide +kernel)
theorem lt_61 : ltx 126 [126] := ltx_of (by decide +kernel)
theorem lt_195 : ltx 98 [98] := ltx_of (by decide +kernel)
theorem lt_201 : ltx 105 [105] := ltx_of (by decide +kernel)
theorem lt_203 : ltx 27765 [117, 108] := ltx_of (by decide +kernel)
theorem lt_215 : ltx 29542 [102, 115] := ltx_of (by decide +kernel)
theorem lt_217 : ltx 26211 [99, 102] := ltx_of (by decide +kernel)
theorem lt_219 : ltx 26988 [108, 105] := ltx_of (by decide +kernel)
theorem lt_221 : ltx 25461 [117, 99] := ltx_of (by decide +kernel)
theorem lt_223 : ltx 117 [117] := ltx_of (by decide +kernel)
theorem lt_225 : ltx 7809932738658332515 [99, 111, 108, 111, 114, 116, 98, 108] := ltx_of (by decide +kernel)
theorem lt_245 : ltx 6579570 [114, 101, 100] := ltx_of (by decide +kernel)
theorem lt_247 : ltx 474147549799 [103, 114, 101, 101, 110] := ltx_of (by decide +kernel)
theorem lt_249 : ltx 1702194274 [98, 108, 117, 101] := ltx_of (by decide +kernel)
theorem lt_251 : ltx 1851881827 [99, 121, 97, 110] := ltx_of (by decide +kernel)
theorem lt_253 : ltx 27431090237432173 [109, 97, 103, 101, 110, 116, 97] := ltx_of (by decide +kernel)
theorem lt_255 : ltx 131320444118393 [121, 101, 108, 108, 111, 119] := ltx_of (by decide +kernel)
theorem lt_257 : ltx 435744761975 [119, 104, 105, 116, 101] := ltx_of (by decide +kernel)
theorem lt_259 : ltx 461228829794 [98, 108, 97, 99, 107] := ltx_of (by decide +kernel)
theorem lt_233 : ltx 474214394992 [112, 108, 97, 105, 110] := ltx_of (by decide +kernel)
theorem lt_235 : ltx 1685217648 [112, 97, 114, 100] := ltx_of (by decide +kernel)
theorem lt_237 : ltx 7496048 [112, 97, 114] := ltx_of (by decide +kernel)
theorem lt_239 : ltx 27761 [113, 108] := ltx_of (by decide +kernel)
theorem lt_241 : ltx 25457 [113, 99] := ltx_of (by decide +kernel)
theorem lt_243 : ltx 29297 [113, 114] := ltx_of (by decide +kernel)
theorem lt_292 : ltx 4088380 [60, 98, 62] := ltx_of (by decide +kernel)
theorem lt_294 : ltx 4090172 [60, 105, 62] := ltx_of (by decide +kernel)
theorem lt_296 : ltx 4093244 [60, 117, 62] := ltx_of (by decide +kernel)
theorem lt_298 : ltx 1046622012 [60, 47, 98, 62] := ltx_of (by decide +kernel)
theorem lt_300 : ltx 1047080764 [60, 47, 105, 62] := ltx_of (by decide +kernel)
theorem lt_302 : ltx 1047867196 [60, 47, 117, 62] := ltx_of (by decide +kernel)
theorem lt_304 : ltx 1047736124 [60, 47, 115, 62] := ltx_of (by decide +kernel)
theorem lt_306 : ltx 1046687548 [60, 47, 99, 62] := ltx_of (by decide +kernel)
theorem lt_308 : ltx 1047539516 [60, 47, 112, 62] := ltx_of (by decide +kernel)
theorem lt_310 : ltx 2126652 [60, 115, 32] := ltx_of (by decide +kernel)
theorem lt_312 : ltx 2122556 [60, 99, 32] := ltx_of (by decide +kernel)
theorem lt_276 : ltx 28732 [60, 112] := ltx_of (by decide +kernel)
theorem lt_278 : ltx 997485606 [38, 108, 116, 59] := ltx_of (by decide +kernel)
theorem lt_284 : ltx 997484326 [38, 103, 116, 59] := ltx_of (by decide +kernel)
theorem lt_286 : ltx 255289286950 [38, 97, 109, 112, 59] := ltx_of (by decide +kernel)
theorem lt_375 : ltx 59 [59] := ltx_of (by decide +kernel)
theorem lt_377 : ltx 431415717980 [92, 112, 97, 114, 100] := ltx_of (by decide +kernel)
theorem lt_379 : ltx 6517084 [92, 113, 99] := ltx_of (by decide +kernel)
theorem lt_381 : ltx 7500124 [92, 113, 114] := ltx_of (by decide +kernel)
theorem lt_383 : ltx 6909020 [92, 108, 105] := ltx_of (by decide +kernel)
theorem lt_343 : ltx 25180 [92, 98] := ltx_of (by decide +kernel)
theorem lt_349 : ltx 26972 [92, 105] := ltx_of (by decide +kernel)
theorem lt_351 : ltx 7107932 [92, 117, 108] := ltx_of (by decide +kernel)
theorem lt_353 : ltx 7562844 [92, 102, 115] := ltx_of (by decide +kernel)
theorem lt_358 : ltx 6710108 [92, 99, 102] := ltx_of (by decide +kernel)
theorem lt_364 : ltx 10076 [92, 39] := ltx_of (by decide +kernel)
theorem lt_369 : ltx 92 [92] := ltx_of (by decide +kernel)
theorem lt_394 : ltx 125 [125] := ltx_of (by decide +kernel)
theorem lt_396 : ltx 1918988380 [92, 112, 97, 114] := ltx_of (by decide +kernel)
theorem lt_398 : ltx 67 [67] := ltx_of (by decide +kernel)
theorem lt_400 : ltx 82 [82] := ltx_of (by decide +kernel)
theorem by_nar0 : ∀ n, n < 128 → (nI n).toInt8.toInt32 = nI n := by decide +kernel
theorem by_nar {n : Nat} (h : n < 128) : narrow .byte (.int (nI n)) = .int (nI n) := congrArg Value.int (by_nar0 n h)
theorem ch_id : ∀ n, n < 1000 → ((nI n).toUInt32 % 65536).toInt32 = nI n := by decide +kernel
theorem mnd : ∀ n, n < 1000 → 48 + nI n / 100 = nI (48 + n / 100 % 10) ∧ 48 + (nI n / 10 - nI n / 10 / 10 * 10) = nI (48 + n / 10 % 10) ∧ 48 + (nI n - nI n / 10 * 10) = nI (48 + n % 10) ∧ (nI n ≤ 99 ↔ n ≤ 99) ∧ (nI n ≤ 9 ↔ n ≤ 9) := by decide +kernel
theorem cm_10 : ∀ a, a < 91 → ∀ b, b < 91 → nI (91 * a + b) / 1024 = nI ((91 * a + b) / 1024) := by decide +kernel
theorem cm_1 (n : Nat) (h : n < 8192) : nI n / 1024 = nI (n / 1024) := by
  have e : 91 * (n / 91) + n % 91 = n := Nat.div_add_mod n 91
  have := cm_10 (n / 91) (by omega) (n % 91) (by omega)
  rw [e] at this
  exact this
theorem cm_d (k : Nat) (h : k < 6400) : cmL k < 8192 ∧ cmL k / 1024 = k / 8 % 8 ∧ cmL k % 8 = k % 8 ∧ cmL k / 8 % 128 = k / 64 := by
  unfold cmL
  refine ⟨?_, ?_, ?_, ?_⟩ <;> omega
theorem cm_inj {a b : Nat} (ha : a < 6400) (hb : b < 6400) (e : cmL a = cmL b) : a = b := by
  have h1 := cm_d a ha
  have h2 := cm_d b hb
  rw [e] at h1
  omega
section MO1
variable {l : Launch} {G : bp_G} {H0 : Heap} {M : Nat → Nat} {h0 h : bp_H} {tw : Int32} {i : Nat} {fa : Int32} {fm : Int32} {tl : Int32} {lk : Nat} {al : Nat} {ind : Nat} {sk : Nat} {dp : Nat} {lv : Nat} {fr : Bool} {en : Nat} {nf : Nat} {nn : Nat} {dg : Nat} {nu : Int32} {kd : Nat} {pn : Int32} {pe : Nat} {T : List Nat} {xs : List Nat} {L : List (Nat × Nat)} {ps : List (Nat × Nat × Nat)} {L1 : List (Nat × Nat)} {p1 : List (Nat × Nat × Nat)} {nt : List (Nat → Nat)} {tb : List Nat} {fd : List Nat} {c s : Nat} {Q : Option Value → bp_H → Nat → Nat → Prop}
set_option maxRecDepth 100000 in
set_option maxHeartbeats 4000000 in
theorem lp_Mo_sizeOf {ro : Bool} {x : Int64} : ∀ (m k : Nat), m + k = 8 → Q (some (.int (nI (lsz x m k)))) h c s → bp_A l G H0 (0, 0, ro, ro) M_Mo_sizeOf h c s 2 [some (.long x), none, some (.int (nI k))] [] (fun o h' c' s' => ∃ v, o = .returned v ∧ Q v h' c' s') := by
  intro m
  induction m with
  | zero =>
    intro k hm hQ
    refine bp_iload_n (q := 3) 2 rfl rfl rfl rfl ?_
    refine bp_bipush (v := 8) (q := 5) 3 rfl rfl (by decide) ?_
    refine bp_icmp_ge (q := 8) (tgt := 25) 4 rfl rfl (by decide) (fun z5 => ?_) (fun z5 => ?_)
    · refine bp_iload_n (q := 26) 15 rfl rfl rfl rfl ?_
      exact bp_iret 16 rfl rfl rfl ⟨_, rfl, hQ⟩
    · exact absurd (nI_le (b := k) (a := 8) (by omega) (by omega)) z5
  | succ m ih =>
    intro k hm hQ
    refine bp_iload_n (q := 3) 2 rfl rfl rfl rfl ?_
    refine bp_bipush (v := 8) (q := 5) 3 rfl rfl (by decide) ?_
    refine bp_icmp_ge (q := 8) (tgt := 25) 4 rfl rfl (by decide) (fun z5 => ?_) (fun z5 => ?_)
    · exact absurd z5 (nI_ge (a := k) (b := 8) (by omega) (by decide))
    · refine bp_lload_n (q := 9) 5 rfl rfl rfl rfl ?_
      refine bp_bipush (v := 8) (q := 11) 6 rfl rfl (by decide) ?_
      refine bp_iload_n (q := 12) 7 rfl rfl rfl rfl ?_
      refine bp_imul (q := 13) 8 rfl rfl ?_
      refine bp_lushr (q := 14) 9 rfl rfl ?_
      refine bp_lconst (v := 0) (q := 15) 10 rfl rfl (by decide) ?_
      refine bp_lcmp (q := 16) 11 rfl rfl ?_
      refine bp_if_eq (q := 19) (tgt := 25) 12 rfl rfl (by decide) (fun z16 => ?_) (fun z16 => ?_)
      · refine bp_iload_n (q := 26) 15 rfl rfl rfl rfl ?_
        refine bp_iret 16 rfl rfl rfl ⟨_, rfl, ?_⟩
        rw [show lsz x (m + 1) k = k from if_pos ((lg_cmp_eq _ _).mp z16)] at hQ
        exact hQ
      · refine bp_iinc (v := nI (k + 1)) (q := 22) 13 rfl rfl rfl (nI_1 k) (by decide) (bp_up2 rfl) ?_
        refine bp_goto (tgt := 2) 14 rfl (by decide) ?_
        rw [show lsz x (m + 1) k = lsz x m (k + 1) from if_neg (fun q => z16 ((lg_cmp_eq _ _).mpr q))] at hQ
        exact ih (k + 1) (by omega) hQ
set_option maxRecDepth 100000 in
set_option maxHeartbeats 4000000 in
theorem s_Mo_sizeOf {ro : Bool} {x : Int64} (hQ : Q (some (.int (nI (lsz x 8 0)))) h c s) : bp_AM l G H0 (0, 0, ro, ro) M_Mo_sizeOf h c s [.long x] Q := by
  refine bp_of (ls := [some (.long x), none, none]) (by decide) dt_Mo_sizeOf (Nat.le_of_ble_eq_true rfl) (fun q hq => hq) ro ?_
  refine bp_iconst (v := 0) (q := 1) 0 rfl rfl (by decide) ?_
  refine bp_istore_n (q := 2) 1 rfl rfl rfl (by decide) (bp_up2 rfl) ?_
  exact lp_Mo_sizeOf 8 0 rfl hQ
set_option maxRecDepth 100000 in
set_option maxHeartbeats 4000000 in
theorem s_Mo_put {v : Nat} (hB0 : MoX M h0 h tw i fa fm tl lk al ind sk dp lv fr en nf nn dg nu kd pn pe T xs L ps L1 p1 nt tb fd) (hv : v < 128) (hl : xs.length < 18200) (hQ : ∀ h', MoX M h0 h' tw i fa fm tl lk al ind sk dp lv fr en nf nn dg nu kd pn pe T (xs ++ [v]) L ps L1 p1 nt tb fd → Q none h' c s) : bp_AM l G H0 (0, 0, false, false) M_Mo_put h c s [.ref (M 0), .int (nI v)] Q := by
  refine bp_of (ls := [some (.ref (M 0)), some (.int (nI v))]) (by decide) dt_Mo_put (Nat.le_of_ble_eq_true rfl) (fun q hq => hq) false ?_
  refine bp_aload_n (q := 1) 0 rfl rfl rfl rfl ?_
  refine bp_getR (x := M 4) (q := 4) (ci := 9) (j := 4) 1 rfl rfl fl_Mo_13_9 hB0.kb rfl hB0.r4 ?_
  refine bp_aload_n (q := 5) 2 rfl rfl rfl rfl ?_
  refine bp_getI (q := 8) (ci := 9) (j := 3) 3 rfl rfl fl_Mo_66_9 hB0.kb rfl ?_
  rw [hB0.i3]
  refine bp_iload_n (q := 9) 4 rfl rfl rfl rfl ?_
  refine bp_i2b (q := 10) 5 rfl rfl ?_
  rw [by_nar0 v hv]
  refine bp_bast (q := 11) 6 rfl rfl hB0.k4 (by rw [hB0.l4]; exact vp_in_nI hl (by decide)) (by_nar hv) ?_
  rw [nI_clamp (by omega)]
  refine bp_nx (X := fun h1 => MoX M h0 h1 tw i fa fm tl lk al ind sk dp lv fr en nf nn dg nu kd pn pe T xs L ps L1 p1 nt tb fd ∧ bp_I h1 (M 4) xs.length = nI v) ⟨hB0.w4 (Nat.le_refl _), by rw [bp_I_sI, if_pos ⟨rfl, rfl⟩]⟩ (fun h1 ⟨hB1, hV⟩ => ?_)
  refine bp_aload_n (q := 12) 7 rfl rfl rfl rfl ?_
  refine bp_dup (q := 13) 8 rfl rfl rfl ?_
  refine bp_getI (q := 16) (ci := 9) (j := 3) 9 rfl rfl fl_Mo_66_9 hB1.kb rfl ?_
  rw [hB1.i3]
  refine bp_iconst (v := 1) (q := 17) 10 rfl rfl (by decide) ?_
  refine bp_iadd (q := 18) 11 rfl rfl ?_
  refine bp_putI (q := 21) (ci := 9) (j := 3) 12 rfl rfl fl_Mo_66_9 cl9 hB1.kb (fun r hr => by cases hr; rfl) (by decide) rfl rfl ?_
  refine bp_nx (X := fun h2 => MoX M h0 h2 tw i fa fm tl lk al ind sk dp lv fr en nf nn dg nu kd pn pe T (xs ++ [v]) L ps L1 p1 nt tb fd) (hB1.push (nI_1 _) hl hV) (fun h2 hB2 => ?_)
  exact bp_vret 13 rfl rfl  ⟨_, rfl, hQ _ hB2⟩
set_option maxRecDepth 100000 in
set_option maxHeartbeats 4000000 in
theorem lp_Mo_putText {x : Int64} {ys : List Nat} (hx : ltx x ys) (hl : xs.length + ys.length ≤ 18200) (hQ : ∀ h', MoX M h0 h' tw i fa fm tl lk al ind sk dp lv fr en nf nn dg nu kd pn pe T (xs ++ ys) L ps L1 p1 nt tb fd → Q none h' c s) : ∀ (m k : Nat) (h : bp_H), m + k = ys.length → MoX M h0 h tw i fa fm tl lk al ind sk dp lv fr en nf nn dg nu kd pn pe T (xs ++ ys.take k) L ps L1 p1 nt tb fd → bp_A l G H0 (1, 22, false, false) M_Mo_putText h c s 2 [some (.ref (M 0)), some (.long x), none, some (.int (nI k))] [] (fun o h' c' s' => ∃ v, o = .returned v ∧ Q v h' c' s') := by
  intro m
  induction m with
  | zero =>
    intro k h hm hB0
    refine bp_iload_n (q := 3) 2 rfl rfl rfl rfl ?_
    refine bp_lload_n (q := 4) 3 rfl rfl rfl rfl ?_
    refine bp_callS (q := 7) 4 rfl rfl cw_Mo_sizeOf lk_Mo_79 wd1499 rfl rfl (Nat.le_of_ble_eq_true rfl) ⟨Nat.le_of_ble_eq_true rfl, Nat.le_of_ble_eq_true rfl⟩ (s_Mo_sizeOf (ro := false) ?_)
    rw [hx.1]
    refine bp_icmp_ge (q := 10) (tgt := 32) 5 rfl rfl (by decide) (fun z7 => ?_) (fun z7 => ?_)
    · exact bp_vret 19 rfl rfl  ⟨_, rfl, hQ _ (by rw [List.take_of_length_le (by omega)] at hB0; exact hB0)⟩
    · exact absurd (nI_le (b := k) (a := ys.length) (by omega) (by omega)) z7
  | succ m ih =>
    intro k h hm hB0
    have hk : k < ys.length := by omega
    refine bp_iload_n (q := 3) 2 rfl rfl rfl rfl ?_
    refine bp_lload_n (q := 4) 3 rfl rfl rfl rfl ?_
    refine bp_callS (q := 7) 4 rfl rfl cw_Mo_sizeOf lk_Mo_79 wd1499 rfl rfl (Nat.le_of_ble_eq_true rfl) ⟨Nat.le_of_ble_eq_true rfl, Nat.le_of_ble_eq_true rfl⟩ (s_Mo_sizeOf (ro := false) ?_)
    rw [hx.1]
    refine bp_icmp_ge (q := 10) (tgt := 32) 5 rfl rfl (by decide) (fun z7 => ?_) (fun z7 => ?_)
    · exact absurd z7 (nI_ge (a := k) (b := ys.length) hk (by omega))
    · refine bp_aload_n (q := 11) 6 rfl rfl rfl rfl ?_
      refine bp_lload_n (q := 12) 7 rfl rfl rfl rfl ?_
      refine bp_bipush (v := 8) (q := 14) 8 rfl rfl (by decide) ?_
      refine bp_iload_n (q := 15) 9 rfl rfl rfl rfl ?_
      refine bp_imul (q := 16) 10 rfl rfl ?_
      refine bp_lushr (q := 17) 11 rfl rfl ?_
      refine bp_ldc2 (q := 20) 12 rfl rfl wd1423 ?_
      refine bp_land (q := 21) 13 rfl rfl ?_
      refine bp_l2i (q := 22) 14 rfl rfl ?_
      refine bp_i2c (q := 23) 15 rfl rfl ?_
      rw [show (((x.toUInt64 >>> ((8 * nI k).toInt64.toUInt64 &&& Int64.toUInt64 63)).toInt64 &&& 255).toInt32.toUInt32 % 65536).toInt32 = nI (ys.getD k 0) from (hx.2 k hk).1]
      refine bp_callV (q := 26) (ci := 9) 16 rfl rfl cw_Mo_put lk_Mo_332 rfl hB0.kb wd1635 wd73 rfl rfl (Nat.le_of_ble_eq_true rfl) ⟨Nat.le_of_ble_eq_true rfl, Nat.le_of_ble_eq_true rfl⟩ (s_Mo_put (v := ys.getD k 0) hB0 ((hx.2 k hk).2.2) (by rw [List.length_append, List.length_take]; omega) (fun h1 hB1 => ?_))
      refine bp_iinc (v := nI (k + 1)) (q := 29) 17 rfl rfl rfl (nI_1 k) (by decide) (bp_up3 rfl) ?_
      refine bp_goto (tgt := 2) 18 rfl (by decide) ?_
      rw [List.append_assoc, take_snoc ys hk] at hB1
      exact ih (k + 1) h1 (by omega) hB1
set_option maxRecDepth 100000 in
set_option maxHeartbeats 4000000 in
theorem s_Mo_putText {x : Int64} {ys : List Nat} (hB0 : MoX M h0 h tw i fa fm tl lk al ind sk dp lv fr en nf nn dg nu kd pn pe T xs L ps L1 p1 nt tb fd) (hx : ltx x ys) (hl : xs.length + ys.length ≤ 18200) (hQ : ∀ h', MoX M h0 h' tw i fa fm tl lk al ind sk dp lv fr en nf nn dg nu kd pn pe T (xs ++ ys) L ps L1 p1 nt tb fd → Q none h' c s) : bp_AM l G H0 (1, 22, false, false) M_Mo_putText h c s [.ref (M 0), .long x] Q := by
  refine bp_of (ls := [some (.ref (M 0)), some (.long x), none, none]) (by decide) dt_Mo_putText (Nat.le_of_ble_eq_true rfl) (fun q hq => hq) false ?_
  refine bp_iconst (v := 0) (q := 1) 0 rfl rfl (by decide) ?_
  refine bp_istore_n (q := 2) 1 rfl rfl rfl (by decide) (bp_up3 rfl) ?_
  exact lp_Mo_putText hx hl hQ ys.length 0 h rfl (by rw [List.take_zero, List.append_nil]; exact hB0)
set_option maxRecDepth 100000 in
set_option maxHeartbeats 4000000 in
theorem s_Mo_putNumber {n : Nat} (hB0 : MoX M h0 h tw i fa fm tl lk al ind sk dp lv fr en nf nn dg nu kd pn pe T xs L ps L1 p1 nt tb fd) (hn : n < 1000) (hl : xs.length + 3 ≤ 18200) (hQ : ∀ h', MoX M h0 h' tw i fa fm tl lk al ind sk dp lv fr en nf nn dg nu kd pn pe T (xs ++ nd n) L ps L1 p1 nt tb fd → Q none h' c s) : bp_AM l G H0 (1, 21, false, false) M_Mo_putNumber h c s [.ref (M 0), .int (nI n)] Q := by
  refine bp_of (ls := [some (.ref (M 0)), some (.int (nI n))]) (by decide) dt_Mo_putNumber (Nat.le_of_ble_eq_true rfl) (fun q hq => hq) false ?_
  refine bp_iload_n (q := 1) 0 rfl rfl rfl rfl ?_
  refine bp_bipush (v := 99) (q := 3) 1 rfl rfl (by decide) ?_
  refine bp_icmp_le (q := 6) (tgt := 18) 2 rfl rfl (by decide) (fun z3 => ?_) (fun z3 => ?_)
  · refine bp_iload_n (q := 19) 11 rfl rfl rfl rfl ?_
    refine bp_bipush (v := 9) (q := 21) 12 rfl rfl (by decide) ?_
    refine bp_icmp_le (q := 24) (tgt := 39) 13 rfl rfl (by decide) (fun z21 => ?_) (fun z21 => ?_)
    · refine bp_aload_n (q := 40) 24 rfl rfl rfl rfl ?_
      refine bp_bipush (v := 48) (q := 42) 25 rfl rfl (by decide) ?_
      refine bp_iload_n (q := 43) 26 rfl rfl rfl rfl ?_
      refine bp_bipush (v := 10) (q := 45) 27 rfl rfl (by decide) ?_
      refine bp_irem (q := 46) 28 rfl rfl (by decide) ?_
      refine bp_iadd (q := 47) 29 rfl rfl ?_
      refine bp_i2c (q := 48) 30 rfl rfl ?_
      rw [(mnd n hn).2.2.1, ch_id _ (by omega)]
      refine bp_callV (q := 51) (ci := 9) 31 rfl rfl cw_Mo_put lk_Mo_332 rfl hB0.kb wd1635 wd73 rfl rfl (Nat.le_of_ble_eq_true rfl) ⟨Nat.le_of_ble_eq_true rfl, Nat.le_of_ble_eq_true rfl⟩ (s_Mo_put (v := 48 + n % 10) hB0 (by omega) (by (try simp only [List.length_append, List.length_cons, List.length_nil]); omega) (fun h1 hB1 => ?_))
      refine bp_vret 32 rfl rfl  ⟨_, rfl, hQ _ ?_⟩
      have y3 : ¬ 100 ≤ n := by have := (mnd n hn).2.2.2.1.mp z3; omega
      have y21 : ¬ 10 ≤ n := by have := (mnd n hn).2.2.2.2.mp z21; omega
      have e_ : xs ++ nd n = xs ++ [48 + n % 10] := by unfold nd; rw [if_neg y3, if_neg y21]; simp
      rw [e_]
      exact hB1
    · refine bp_aload_n (q := 25) 14 rfl rfl rfl rfl ?_
      refine bp_bipush (v := 48) (q := 27) 15 rfl rfl (by decide) ?_
      refine bp_iload_n (q := 28) 16 rfl rfl rfl rfl ?_
      refine bp_bipush (v := 10) (q := 30) 17 rfl rfl (by decide) ?_
      refine bp_idiv (q := 31) 18 rfl rfl (by decide) ?_
      refine bp_bipush (v := 10) (q := 33) 19 rfl rfl (by decide) ?_
      refine bp_irem (q := 34) 20 rfl rfl (by decide) ?_
      refine bp_iadd (q := 35) 21 rfl rfl ?_
      refine bp_i2c (q := 36) 22 rfl rfl ?_
      rw [(mnd n hn).2.1, ch_id _ (by omega)]
      refine bp_callV (q := 39) (ci := 9) 23 rfl rfl cw_Mo_put lk_Mo_332 rfl hB0.kb wd1635 wd73 rfl rfl (Nat.le_of_ble_eq_true rfl) ⟨Nat.le_of_ble_eq_true rfl, Nat.le_of_ble_eq_true rfl⟩ (s_Mo_put (v := 48 + n / 10 % 10) hB0 (by omega) (by (try simp only [List.length_append, List.length_cons, List.length_nil]); omega) (fun h1 hB1 => ?_))
      refine bp_aload_n (q := 40) 24 rfl rfl rfl rfl ?_
      refine bp_bipush (v := 48) (q := 42) 25 rfl rfl (by decide) ?_
      refine bp_iload_n (q := 43) 26 rfl rfl rfl rfl ?_
      refine bp_bipush (v := 10) (q := 45) 27 rfl rfl (by decide) ?_
      refine bp_irem (q := 46) 28 rfl rfl (by decide) ?_
      refine bp_iadd (q := 47) 29 rfl rfl ?_
      refine bp_i2c (q := 48) 30 rfl rfl ?_
      rw [(mnd n hn).2.2.1, ch_id _ (by omega)]
      refine bp_callV (q := 51) (ci := 9) 31 rfl rfl cw_Mo_put lk_Mo_332 rfl hB1.kb wd1635 wd73 rfl rfl (Nat.le_of_ble_eq_true rfl) ⟨Nat.le_of_ble_eq_true rfl, Nat.le_of_ble_eq_true rfl⟩ (s_Mo_put (v := 48 + n % 10) hB1 (by omega) (by (try simp only [List.length_append, List.length_cons, List.length_nil]); omega) (fun h2 hB2 => ?_))
      refine bp_vret 32 rfl rfl  ⟨_, rfl, hQ _ ?_⟩
      have y3 : ¬ 100 ≤ n := by have := (mnd n hn).2.2.2.1.mp z3; omega
      have y21 : 10 ≤ n := by have := mt (mnd n hn).2.2.2.2.mpr z21; omega
      have e_ : xs ++ nd n = xs ++ [48 + n / 10 % 10] ++ [48 + n % 10] := by unfold nd; rw [if_neg y3, if_pos y21]; simp
      rw [e_]
      exact hB2
  · refine bp_aload_n (q := 7) 3 rfl rfl rfl rfl ?_
    refine bp_bipush (v := 48) (q := 9) 4 rfl rfl (by decide) ?_
    refine bp_iload_n (q := 10) 5 rfl rfl rfl rfl ?_
    refine bp_bipush (v := 100) (q := 12) 6 rfl rfl (by decide) ?_
    refine bp_idiv (q := 13) 7 rfl rfl (by decide) ?_
    refine bp_iadd (q := 14) 8 rfl rfl ?_
    refine bp_i2c (q := 15) 9 rfl rfl ?_
    rw [(mnd n hn).1, ch_id _ (by omega)]
    refine bp_callV (q := 18) (ci := 9) 10 rfl rfl cw_Mo_put lk_Mo_332 rfl hB0.kb wd1635 wd73 rfl rfl (Nat.le_of_ble_eq_true rfl) ⟨Nat.le_of_ble_eq_true rfl, Nat.le_of_ble_eq_true rfl⟩ (s_Mo_put (v := 48 + n / 100 % 10) hB0 (by omega) (by (try simp only [List.length_append, List.length_cons, List.length_nil]); omega) (fun h1 hB1 => ?_))
    refine bp_iload_n (q := 19) 11 rfl rfl rfl rfl ?_
    refine bp_bipush (v := 9) (q := 21) 12 rfl rfl (by decide) ?_
    refine bp_icmp_le (q := 24) (tgt := 39) 13 rfl rfl (by decide) (fun z21 => ?_) (fun z21 => ?_)
    · refine bp_aload_n (q := 40) 24 rfl rfl rfl rfl ?_
      refine bp_bipush (v := 48) (q := 42) 25 rfl rfl (by decide) ?_
      refine bp_iload_n (q := 43) 26 rfl rfl rfl rfl ?_
      refine bp_bipush (v := 10) (q := 45) 27 rfl rfl (by decide) ?_
      refine bp_irem (q := 46) 28 rfl rfl (by decide) ?_
      refine bp_iadd (q := 47) 29 rfl rfl ?_
      refine bp_i2c (q := 48) 30 rfl rfl ?_
      rw [(mnd n hn).2.2.1, ch_id _ (by omega)]
      refine bp_callV (q := 51) (ci := 9) 31 rfl rfl cw_Mo_put lk_Mo_332 rfl hB1.kb wd1635 wd73 rfl rfl (Nat.le_of_ble_eq_true rfl) ⟨Nat.le_of_ble_eq_true rfl, Nat.le_of_ble_eq_true rfl⟩ (s_Mo_put (v := 48 + n % 10) hB1 (by omega) (by (try simp only [List.length_append, List.length_cons, List.length_nil]); omega) (fun h2 hB2 => ?_))
      refine bp_vret 32 rfl rfl  ⟨_, rfl, hQ _ ?_⟩
      have y3 : 100 ≤ n := by have := mt (mnd n hn).2.2.2.1.mpr z3; omega
      have y21 : ¬ 10 ≤ n := by have := (mnd n hn).2.2.2.2.mp z21; omega
      have e_ : xs ++ nd n = xs ++ [48 + n / 100 % 10] ++ [48 + n % 10] := by unfold nd; rw [if_pos y3, if_neg y21]; simp
      rw [e_]
      exact hB2
    · refine bp_aload_n (q := 25) 14 rfl rfl rfl rfl ?_
      refine bp_bipush (v := 48) (q := 27) 15 rfl rfl (by decide) ?_
      refine bp_iload_n (q := 28) 16 rfl rfl rfl rfl ?_
      refine bp_bipush (v := 10) (q := 30) 17 rfl rfl (by decide) ?_
      refine bp_idiv (q := 31) 18 rfl rfl (by decide) ?_
      refine bp_bipush (v := 10) (q := 33) 19 rfl rfl (by decide) ?_
      refine bp_irem (q := 34) 20 rfl rfl (by decide) ?_
      refine bp_iadd (q := 35) 21 rfl rfl ?_
      refine bp_i2c (q := 36) 22 rfl rfl ?_
      rw [(mnd n hn).2.1, ch_id _ (by omega)]
      refine bp_callV (q := 39) (ci := 9) 23 rfl rfl cw_Mo_put lk_Mo_332 rfl hB1.kb wd1635 wd73 rfl rfl (Nat.le_of_ble_eq_true rfl) ⟨Nat.le_of_ble_eq_true rfl, Nat.le_of_ble_eq_true rfl⟩ (s_Mo_put (v := 48 + n / 10 % 10) hB1 (by omega) (by (try simp only [List.length_append, List.length_cons, List.length_nil]); omega) (fun h2 hB2 => ?_))
      refine bp_aload_n (q := 40) 24 rfl rfl rfl rfl ?_
      refine bp_bipush (v := 48) (q := 42) 25 rfl rfl (by decide) ?_
      refine bp_iload_n (q := 43) 26 rfl rfl rfl rfl ?_
      refine bp_bipush (v := 10) (q := 45) 27 rfl rfl (by decide) ?_
      refine bp_irem (q := 46) 28 rfl rfl (by decide) ?_
      refine bp_iadd (q := 47) 29 rfl rfl ?_
      refine bp_i2c (q := 48) 30 rfl rfl ?_
      rw [(mnd n hn).2.2.1, ch_id _ (by omega)]
      refine bp_callV (q := 51) (ci := 9) 31 rfl rfl cw_Mo_put lk_Mo_332 rfl hB2.kb wd1635 wd73 rfl rfl (Nat.le_of_ble_eq_true rfl) ⟨Nat.le_of_ble_eq_true rfl, Nat.le_of_ble_eq_true rfl⟩ (s_Mo_put (v := 48 + n % 10) hB2 (by omega) (by (try simp only [List.length_append, List.length_cons, List.length_nil]); omega) (fun h3 hB3 => ?_))
      refine bp_vret 32 rfl rfl  ⟨_, rfl, hQ _ ?_⟩
      have y3 : 100 ≤ n := by have := mt (mnd n hn).2.2.2.1.mpr z3; omega
      have y21 : 10 ≤ n := by have := mt (mnd n hn).2.2.2.2.mpr z21; omega
      have e_ : xs ++ nd n = xs ++ [48 + n / 100 % 10] ++ [48 + n / 10 % 10] ++ [48 + n % 10] := by unfold nd; rw [if_pos y3, if_pos y21]; simp
      rw [e_]
      exact hB3
theorem mhx : ∀ k, k < 16 → ((10 : Int32) ≤ nI k → ((97 + nI k - 10).toUInt32 % 65536).toInt32 = nI (hxD k)) ∧ (¬ (10 : Int32) ≤ nI k → ((48 + nI k).toUInt32 % 65536).toInt32 = nI (hxD k)) := by decide +kernel
set_option maxRecDepth 100000 in
set_option maxHeartbeats 4000000 in
theorem s_Mo_hexDigit {ro : Bool} {k : Nat} (hk : k < 16) (hQ : Q (some (.int (nI (hxD k)))) h c s) : bp_AM l G H0 (0, 0, ro, ro) M_Mo_hexDigit h c s [.int (nI k)] Q := by
  refine bp_of (ls := [some (.int (nI k))]) (by decide) dt_Mo_hexDigit (Nat.le_of_ble_eq_true rfl) (fun q hq => hq) ro ?_
  refine bp_iload_n (q := 1) 0 rfl rfl rfl rfl ?_
  refine bp_bipush (v := 10) (q := 3) 1 rfl rfl (by decide) ?_
  refine bp_icmp_ge (q := 6) (tgt := 13) 2 rfl rfl (by decide) (fun z3 => ?_) (fun z3 => ?_)
  · refine bp_bipush (v := 97) (q := 15) 7 rfl rfl (by decide) ?_
    refine bp_iload_n (q := 16) 8 rfl rfl rfl rfl ?_
    refine bp_iadd (q := 17) 9 rfl rfl ?_
    refine bp_bipush (v := 10) (q := 19) 10 rfl rfl (by decide) ?_
    refine bp_isub (q := 20) 11 rfl rfl ?_
    refine bp_i2c (q := 21) 12 rfl rfl ?_
    refine bp_iret 13 rfl rfl (by first | rw [(mhx k hk).1 z3]; exact ch_nar (by unfold hxD; split <;> omega) | rw [(mhx k hk).2 z3]; exact ch_nar (by unfold hxD; split <;> omega)) ⟨_, rfl, ?_⟩
    rw [(mhx k hk).1 z3]
    exact hQ
  · refine bp_bipush (v := 48) (q := 8) 3 rfl rfl (by decide) ?_
    refine bp_iload_n (q := 9) 4 rfl rfl rfl rfl ?_
    refine bp_iadd (q := 10) 5 rfl rfl ?_
    refine bp_goto (tgt := 20) 6 rfl (by decide) ?_
    refine bp_i2c (q := 21) 12 rfl rfl ?_
    refine bp_iret 13 rfl rfl (by first | rw [(mhx k hk).1 z3]; exact ch_nar (by unfold hxD; split <;> omega) | rw [(mhx k hk).2 z3]; exact ch_nar (by unfold hxD; split <;> omega)) ⟨_, rfl, ?_⟩
    rw [(mhx k hk).2 z3]
    exact hQ
end MO1
