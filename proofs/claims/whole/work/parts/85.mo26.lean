/-! the reference's parts of a tagged text -/
def dgN (T : List Nat) (f lo hi bt : Nat) : Int32 := if tc T f = 48 ∨ (dgT T 6 f 0).2 < lo ∨ hi < (dgT T 6 f 0).2 ∨ (dgT T 6 f 0).2 = bt then -1 else nI (dgT T 6 f 0).2
theorem dgL_is {k : Nat} : dgL k = true ↔ 48 ≤ k ∧ k ≤ 57 := by
  unfold dgL
  rw [Bool.and_eq_true, decide_eq_true_eq, decide_eq_true_eq]
theorem dgT_6 (T : List Nat) (f : Nat) : (dgT T 6 f 0).2 < 1000000 := dgT_lt T 6 f 0 0 (by decide)
def hdX (T : List Nat) (i : Nat) : Nat := if tc T (i + 2) = 32 then alA T (i + 3) else 0
def hdY (T : List Nat) (i : Nat) : Nat := if tc T (i + 2) = 32 then inA T (i + 3 + bn1 (alA T (i + 3))) else 0
def hdK (T : List Nat) (i : Nat) : Nat := if tc T (i + 2) = 32 then i + 3 + bn1 (alA T (i + 3)) + bn1 (inA T (i + 3 + bn1 (alA T (i + 3)))) else i + 2
def hdOk (T : List Nat) (i : Nat) : Prop := spl T i (i + 2) [60, 112] = true ∧ ¬ (tc T (i + 2) = 32 ∧ hdX T i = 0 ∧ hdY T i = 0) ∧ tc T (hdK T i) = 62
def sLt (T : List Nat) (i : Nat) : Bool := spl T i (i + 4) [38, 108, 116, 59]
def sGt (T : List Nat) (i : Nat) : Bool := spl T i (i + 4) [38, 103, 116, 59]
def sAm (T : List Nat) (i : Nat) : Bool := spl T i (i + 5) [38, 97, 109, 112, 59]
def sDg (T : List Nat) (f e : Nat) : Prop := tnOk T f = true ∧ tc T (tnE T f) = e
def ltC (T : List Nat) (i : Nat) : Prop := tc T i = 0 ∨ tc T i = 60 ∨ tc T i = 62 ∨ tc T i = 10
def ltR (T : List Nat) (i : Nat) (n : Int32) (e : Nat) : Prop := ¬ ltC T i ∧ ((¬ tc T i = 38 ∧ n = nI (tc T i) ∧ e = i + 1) ∨ (tc T i = 38 ∧ ((sLt T i = true ∧ n = 60 ∧ e = i + 4) ∨ (sLt T i = false ∧ sGt T i = true ∧ n = 62 ∧ e = i + 4) ∨ (sLt T i = false ∧ sGt T i = false ∧ sAm T i = true ∧ n = 38 ∧ e = i + 5) ∨ (sLt T i = false ∧ sGt T i = false ∧ sAm T i = false ∧ sDg T (i + 1) 59 ∧ n = dgN T (i + 1) 127 255 0 ∧ e = tnE T (i + 1) + 1))))
def ltN (T : List Nat) (i : Nat) : Prop := ltC T i ∨ (tc T i = 38 ∧ sLt T i = false ∧ sGt T i = false ∧ sAm T i = false ∧ ¬ sDg T (i + 1) 59)
section MO26
variable {l : Launch} {G : bp_G} {H0 : Heap} {M : Nat → Nat} {h0 h : bp_H} {tw : Int32} {i : Nat} {fa : Int32} {fm : Int32} {tl : Int32} {lk : Nat} {al : Nat} {ind : Nat} {sk : Nat} {dp : Nat} {lv : Nat} {fr : Bool} {en : Nat} {nf : Nat} {nn : Nat} {dg : Nat} {nu : Int32} {kd : Nat} {pn : Int32} {pe : Nat} {T : List Nat} {xs : List Nat} {L : List (Nat × Nat)} {ps : List (Nat × Nat × Nat)} {L1 : List (Nat × Nat)} {p1 : List (Nat × Nat × Nat)} {nt : List (Nat → Nat)} {tb : List Nat} {fd : List Nat} {c s : Nat} {Q : Option Value → bp_H → Nat → Nat → Prop}
set_option maxRecDepth 100000 in
set_option maxHeartbeats 4000000 in
theorem s_Mo_stands {ro : Bool} {x : Int64} {ys : List Nat} (hB0 : MoX M h0 h tw i fa fm tl lk al ind sk dp lv fr en nf nn dg nu kd pn pe T xs L ps L1 p1 nt tb fd) (hT : okT T) (hx : ltx x ys) (hz : nz ys = true) (hi : i < 10000) (hQ : Q (some (.int (bI (spl T i (i + ys.length) ys)))) h c s) : bp_AM l G H0 (2, 48, ro, ro) M_Mo_stands h c s [.ref (M 0), .long x] Q := by
  refine bp_of (ls := [some (.ref (M 0)), some (.long x), none]) (by decide) dt_Mo_stands (Nat.le_of_ble_eq_true rfl) (fun q hq => hq) ro ?_
  have hyl : ys.length ≤ 8 := by have := lsz_le x 8 0; rw [hx.1] at this; omega
  refine bp_aload_n (q := 1) 0 rfl rfl rfl rfl ?_
  refine bp_aload_n (q := 2) 1 rfl rfl rfl rfl ?_
  refine bp_getI (q := 5) (ci := 9) (j := 12) 2 rfl rfl fl_Mo_90_9 hB0.kb rfl ?_
  rw [hB0.i12]
  refine bp_aload_n (q := 6) 3 rfl rfl rfl rfl ?_
  refine bp_getI (q := 9) (ci := 9) (j := 12) 4 rfl rfl fl_Mo_90_9 hB0.kb rfl ?_
  rw [hB0.i12]
  refine bp_lload_n (q := 10) 5 rfl rfl rfl rfl ?_
  refine bp_callS (q := 13) 6 rfl rfl cw_Mo_sizeOf lk_Mo_79 wd1499 rfl rfl (Nat.le_of_ble_eq_true rfl) ⟨Nat.le_of_ble_eq_true rfl, Nat.le_of_ble_eq_true rfl⟩ (s_Mo_sizeOf (ro := ro) ?_)
  refine bp_iadd (q := 14) 7 rfl rfl ?_
  rw [hx.1, nI_add]
  refine bp_lload_n (q := 15) 8 rfl rfl rfl rfl ?_
  refine bp_callV (q := 18) (ci := 9) 9 rfl rfl cw_Mo_reads lk_Mo_191 rfl hB0.kb wd1496 wd54 rfl rfl (Nat.le_of_ble_eq_true rfl) ⟨Nat.le_of_ble_eq_true rfl, Nat.le_of_ble_eq_true rfl⟩ (s_Mo_reads (ro := ro) hB0 hT hx hz (by omega) (by omega) (by omega) ?_)
  exact bp_iret 10 rfl rfl (bI_nar _) ⟨_, rfl, hQ⟩
set_option maxRecDepth 100000 in
set_option maxHeartbeats 4000000 in
theorem s_Mo_part {k : Nat} {x : Int64} {ys : List Nat} (hB0 : MoX M h0 h tw i fa fm tl lk al ind sk dp lv fr en nf nn dg nu kd pn pe T xs L ps L1 p1 nt tb fd) (hT : okT T) (hx : ltx x ys) (hz : nz ys = true) (hi : i < 10000) (hQ1 : spl T i (i + ys.length) ys = true → ∀ h', MoX M h0 h' tw i fa fm tl lk al ind sk dp lv fr en nf nn dg nu k pn (i + ys.length) T xs L ps L1 p1 nt tb fd → Q (some (.int 1)) h' c s) (hQ0 : spl T i (i + ys.length) ys = false → ∀ h', MoX M h0 h' tw i fa fm tl lk al ind sk dp lv fr en nf nn dg nu kd pn pe T xs L ps L1 p1 nt tb fd → Q (some (.int 0)) h' c s) : bp_AM l G H0 (3, 70, false, false) M_Mo_part h c s [.ref (M 0), .long x, .int (nI k)] Q := by
  refine bp_of (ls := [some (.ref (M 0)), some (.long x), none, some (.int (nI k)), none]) (by decide) dt_Mo_part (Nat.le_of_ble_eq_true rfl) (fun q hq => hq) false ?_
  have hyl : ys.length ≤ 8 := by have := lsz_le x 8 0; rw [hx.1] at this; omega
  refine bp_aload_n (q := 1) 0 rfl rfl rfl rfl ?_
  refine bp_lload_n (q := 2) 1 rfl rfl rfl rfl ?_
  refine bp_callV (q := 5) (ci := 9) 2 rfl rfl cw_Mo_stands lk_Mo_264 rfl hB0.kb wd1585 wd66 rfl rfl (Nat.le_of_ble_eq_true rfl) ⟨Nat.le_of_ble_eq_true rfl, Nat.le_of_ble_eq_true rfl⟩ (s_Mo_stands (ro := false) hB0 hT hx hz hi ?_)
  refine bp_istore (q := 7) 3 rfl rfl (by decide) (bp_up4 rfl) ?_
  refine bp_aload_n (q := 8) 4 rfl rfl rfl rfl ?_
  refine bp_iload (q := 10) 5 rfl rfl rfl ?_
  refine bp_if_eq (q := 13) (tgt := 17) 6 rfl rfl (by decide) (fun z10 => ?_) (fun z10 => ?_)
  · refine bp_aload_n (q := 18) 9 rfl rfl rfl rfl ?_
    refine bp_getI (q := 21) (ci := 9) (j := 31) 10 rfl rfl fl_Mo_267_9 hB0.kb rfl ?_
    rw [hB0.i31]
    refine bp_putI (q := 24) (ci := 9) (j := 31) 11 rfl rfl fl_Mo_267_9 cl9 hB0.kb (fun r hr => by cases hr; rfl) (by decide) rfl rfl ?_
    refine bp_nx (X := fun h1 => MoX M h0 h1 tw i fa fm tl lk al ind sk dp lv fr en nf nn dg nu kd pn pe T xs L ps L1 p1 nt tb fd) (hB0.s31 rfl) (fun h1 hB1 => ?_)
    refine bp_aload_n (q := 25) 12 rfl rfl rfl rfl ?_
    refine bp_iload (q := 27) 13 rfl rfl rfl ?_
    refine bp_if_eq (q := 30) (tgt := 42) 14 rfl rfl (by decide) (fun z27 => ?_) (fun z27 => ?_)
    · refine bp_aload_n (q := 43) 21 rfl rfl rfl rfl ?_
      refine bp_getI (q := 46) (ci := 9) (j := 33) 22 rfl rfl fl_Mo_270_9 hB1.kb rfl ?_
      rw [hB1.i33]
      refine bp_putI (q := 49) (ci := 9) (j := 33) 23 rfl rfl fl_Mo_270_9 cl9 hB1.kb (fun r hr => by cases hr; rfl) (by decide) rfl rfl ?_
      refine bp_nx (X := fun h2 => MoX M h0 h2 tw i fa fm tl lk al ind sk dp lv fr en nf nn dg nu kd pn pe T xs L ps L1 p1 nt tb fd) (hB1.s33 rfl) (fun h2 hB2 => ?_)
      refine bp_iload (q := 51) 24 rfl rfl rfl ?_
      refine bp_iret 25 rfl rfl (bI_nar _) ⟨_, rfl, ?_⟩
      have e := bI0.mp z10
      rw [e]
      exact hQ0 e _ hB2
    · exact absurd z10 z27
  · refine bp_iload_n (q := 14) 7 rfl rfl rfl rfl ?_
    refine bp_goto (tgt := 21) 8 rfl (by decide) ?_
    refine bp_putI (q := 24) (ci := 9) (j := 31) 11 rfl rfl fl_Mo_267_9 cl9 hB0.kb (fun r hr => by cases hr; rfl) (by decide) rfl rfl ?_
    refine bp_nx (X := fun h1 => MoX M h0 h1 tw i fa fm tl lk al ind sk dp lv fr en nf nn dg nu k pn pe T xs L ps L1 p1 nt tb fd) (hB0.s31 rfl) (fun h1 hB1 => ?_)
    refine bp_aload_n (q := 25) 12 rfl rfl rfl rfl ?_
    refine bp_iload (q := 27) 13 rfl rfl rfl ?_
    refine bp_if_eq (q := 30) (tgt := 42) 14 rfl rfl (by decide) (fun z27 => ?_) (fun z27 => ?_)
    · exact absurd z27 z10
    · refine bp_aload_n (q := 31) 15 rfl rfl rfl rfl ?_
      refine bp_getI (q := 34) (ci := 9) (j := 12) 16 rfl rfl fl_Mo_90_9 hB1.kb rfl ?_
      rw [hB1.i12]
      refine bp_lload_n (q := 35) 17 rfl rfl rfl rfl ?_
      refine bp_callS (q := 38) 18 rfl rfl cw_Mo_sizeOf lk_Mo_79 wd1499 rfl rfl (Nat.le_of_ble_eq_true rfl) ⟨Nat.le_of_ble_eq_true rfl, Nat.le_of_ble_eq_true rfl⟩ (s_Mo_sizeOf (ro := false) ?_)
      refine bp_iadd (q := 39) 19 rfl rfl ?_
      rw [hx.1, nI_add]
      refine bp_goto (tgt := 46) 20 rfl (by decide) ?_
      refine bp_putI (q := 49) (ci := 9) (j := 33) 23 rfl rfl fl_Mo_270_9 cl9 hB1.kb (fun r hr => by cases hr; rfl) (by decide) rfl rfl ?_
      refine bp_nx (X := fun h2 => MoX M h0 h2 tw i fa fm tl lk al ind sk dp lv fr en nf nn dg nu k pn (i + ys.length) T xs L ps L1 p1 nt tb fd) (hB1.s33 rfl) (fun h2 hB2 => ?_)
      refine bp_iload (q := 51) 24 rfl rfl rfl ?_
      refine bp_iret 25 rfl rfl (bI_nar _) ⟨_, rfl, ?_⟩
      have e := bI1 z10
      rw [e]
      exact hQ1 e _ hB2
set_option maxRecDepth 100000 in
set_option maxHeartbeats 4000000 in
theorem lp_Mo_pd {f e lo hi bt : Nat} (hB0 : MoX M h0 h tw i fa fm tl lk al ind sk dp lv fr en nf nn dg nu kd pn pe T xs L ps L1 p1 nt tb fd) (hT : okT T) (hf : f < 10000) (hK : ∀ k x, dgT T 6 f 0 = (k, x) → f ≤ k → k ≤ f + 6 → bp_A l G H0 (1, 21, false, false) M_Mo_partDigits h c s 50 [some (.ref (M 0)), some (.int (nI f)), some (.int (nI e)), some (.int (nI lo)), some (.int (nI hi)), some (.int (nI bt)), some (.int (nI k)), some (.int (nI x))] [] (fun o h' c' s' => ∃ v, o = .returned v ∧ Q v h' c' s')) : ∀ (m k x : Nat), m + k = f + 6 → m ≤ 6 → dgT T m k x = dgT T 6 f 0 → bp_A l G H0 (1, 21, false, false) M_Mo_partDigits h c s 6 [some (.ref (M 0)), some (.int (nI f)), some (.int (nI e)), some (.int (nI lo)), some (.int (nI hi)), some (.int (nI bt)), some (.int (nI k)), some (.int (nI x))] [] (fun o h' c' s' => ∃ v, o = .returned v ∧ Q v h' c' s') := by
  intro m
  induction m with
  | zero =>
    intro k x hm hm6 hd
    refine bp_aload_n (q := 7) 4 rfl rfl rfl rfl ?_
    refine bp_iload (q := 9) 5 rfl rfl rfl ?_
    refine bp_callV (q := 12) (ci := 9) 6 rfl rfl cw_Mo_charAt lk_Mo_83 rfl hB0.kb wd1445 wd43 rfl rfl (Nat.le_of_ble_eq_true rfl) ⟨Nat.le_of_ble_eq_true rfl, Nat.le_of_ble_eq_true rfl⟩ (s_Mo_charAt (ro := false) (k := k) hB0 hT (by omega) ?_)
    refine bp_callS (q := 15) 7 rfl rfl cw_Mo_digit lk_Mo_158 wd1479 rfl rfl (Nat.le_of_ble_eq_true rfl) ⟨Nat.le_of_ble_eq_true rfl, Nat.le_of_ble_eq_true rfl⟩ (s_Mo_digit (ro := false) (n := tc T k) (by have := tc_lt hT k; omega) ?_)
    refine bp_if_eq (q := 18) (tgt := 50) 8 rfl rfl (by decide) (fun z15 => ?_) (fun z15 => ?_)
    · exact hK k x hd.symm (by omega) (by omega)
    · refine bp_iload (q := 20) 9 rfl rfl rfl ?_
      refine bp_iload_n (q := 21) 10 rfl rfl rfl rfl ?_
      refine bp_bipush (v := 6) (q := 23) 11 rfl rfl (by decide) ?_
      refine bp_iadd (q := 24) 12 rfl rfl ?_
      rw [show nI f + 6 = nI (f + 6) from nI_add f 6]
      refine bp_icmp_ge (q := 27) (tgt := 50) 13 rfl rfl (by decide) (fun z24 => ?_) (fun z24 => ?_)
      · exact hK k x hd.symm (by omega) (by omega)
      · exact absurd (nI_le (by omega) (by omega)) z24
  | succ m ih =>
    intro k x hm hm6 hd
    refine bp_aload_n (q := 7) 4 rfl rfl rfl rfl ?_
    refine bp_iload (q := 9) 5 rfl rfl rfl ?_
    refine bp_callV (q := 12) (ci := 9) 6 rfl rfl cw_Mo_charAt lk_Mo_83 rfl hB0.kb wd1445 wd43 rfl rfl (Nat.le_of_ble_eq_true rfl) ⟨Nat.le_of_ble_eq_true rfl, Nat.le_of_ble_eq_true rfl⟩ (s_Mo_charAt (ro := false) (k := k) hB0 hT (by omega) ?_)
    refine bp_callS (q := 15) 7 rfl rfl cw_Mo_digit lk_Mo_158 wd1479 rfl rfl (Nat.le_of_ble_eq_true rfl) ⟨Nat.le_of_ble_eq_true rfl, Nat.le_of_ble_eq_true rfl⟩ (s_Mo_digit (ro := false) (n := tc T k) (by have := tc_lt hT k; omega) ?_)
    refine bp_if_eq (q := 18) (tgt := 50) 8 rfl rfl (by decide) (fun z15 => ?_) (fun z15 => ?_)
    · exact hK k x (by rw [dgT, if_neg (by rw [bI0.mp z15]; decide)] at hd; exact hd.symm) (by omega) (by omega)
    · refine bp_iload (q := 20) 9 rfl rfl rfl ?_
      refine bp_iload_n (q := 21) 10 rfl rfl rfl rfl ?_
      refine bp_bipush (v := 6) (q := 23) 11 rfl rfl (by decide) ?_
      refine bp_iadd (q := 24) 12 rfl rfl ?_
      rw [show nI f + 6 = nI (f + 6) from nI_add f 6]
      refine bp_icmp_ge (q := 27) (tgt := 50) 13 rfl rfl (by decide) (fun z24 => ?_) (fun z24 => ?_)
      · exact absurd z24 (nI_ge (by omega) (by omega))
      · refine bp_bipush (v := 10) (q := 29) 14 rfl rfl (by decide) ?_
        refine bp_iload (q := 31) 15 rfl rfl rfl ?_
        refine bp_imul (q := 32) 16 rfl rfl ?_
        refine bp_aload_n (q := 33) 17 rfl rfl rfl rfl ?_
        refine bp_iload (q := 35) 18 rfl rfl rfl ?_
        refine bp_callV (q := 38) (ci := 9) 19 rfl rfl cw_Mo_charAt lk_Mo_83 rfl hB0.kb wd1445 wd43 rfl rfl (Nat.le_of_ble_eq_true rfl) ⟨Nat.le_of_ble_eq_true rfl, Nat.le_of_ble_eq_true rfl⟩ (s_Mo_charAt (ro := false) (k := k) hB0 hT (by omega) ?_)
        refine bp_iadd (q := 39) 20 rfl rfl ?_
        refine bp_bipush (v := 48) (q := 41) 21 rfl rfl (by decide) ?_
        refine bp_isub (q := 42) 22 rfl rfl ?_
        have hdg := dgL_is.mp (bI1 z15)
        rw [show (10 : Int32) * nI x + nI (tc T k) - 48 = nI (10 * x + (tc T k - 48)) from by rw [show (10 : Int32) = nI 10 from rfl, nI_mul, nI_add, show (48 : Int32) = nI 48 from rfl, nI_sub (by omega), show 10 * x + tc T k - 48 = 10 * x + (tc T k - 48) by omega]]
        refine bp_istore (q := 44) 23 rfl rfl (by decide) (bp_up7 rfl) ?_
        refine bp_iinc (v := nI (k + 1)) (q := 47) 24 rfl rfl rfl (nI_1 k) (by decide) (bp_up6 rfl) ?_
        refine bp_goto (tgt := 6) 25 rfl (by decide) ?_
        exact ih (k + 1) _ (by omega) (by omega) (by rw [dgT, if_pos (bI1 z15)] at hd; exact hd)
theorem tnOk_is {T : List Nat} {k : Nat} : tnOk T k = true ↔ k < tnE T k ∧ tnE T k ≤ k + 5 := by
  unfold tnOk
  rw [Bool.and_eq_true, decide_eq_true_eq, decide_eq_true_eq]
theorem dgN_no {T : List Nat} {f k x lo hi bt : Nat} (hd : dgT T 6 f 0 = (k, x)) (hx6 : x < 1000000) (hlo : lo < 1000000) (hhi : hi < 1000000) (hbt : bt < 1000000) (z84 : ¬ nI (tc T f) = 48) (z90 : ¬ nI x < nI lo) (z97 : ¬ nI hi < nI x) (z104 : ¬ nI x = nI bt) : ¬ (tc T f = 48 ∨ (dgT T 6 f 0).2 < lo ∨ hi < (dgT T 6 f 0).2 ∨ (dgT T 6 f 0).2 = bt) := by
  intro z
  rw [hd] at z
  rcases z with z | z | z | z
  · exact z84 (by rw [z]; rfl)
  · exact z90 ((nI_lt_iff hx6 hlo).mpr z)
  · exact z97 ((nI_lt_iff hhi hx6).mpr z)
  · exact z104 (by rw [show x = bt from z])
set_option maxRecDepth 100000 in
set_option maxHeartbeats 4000000 in
theorem lp_Mo_pd2 {f e lo hi bt : Nat} {k x : Nat} (hB0 : MoX M h0 h tw i fa fm tl lk al ind sk dp lv fr en nf nn dg nu kd pn pe T xs L ps L1 p1 nt tb fd) (hT : okT T) (hf : f < 10000) (he : e < 1000000) (hlo : lo < 1000000) (hhi : hi < 1000000) (hbt : bt < 1000000) (hQ1 : sDg T f e → ∀ h', MoX M h0 h' tw i fa fm tl lk al ind sk dp lv fr en nf nn dg nu kd (dgN T f lo hi bt) (tnE T f + 1) T xs L ps L1 p1 nt tb fd → Q (some (.int 1)) h' c s) (hQ0 : ¬ sDg T f e → Q (some (.int 0)) h c s) (hd : dgT T 6 f 0 = (k, x)) (hfk : f ≤ k) (hk6 : k ≤ f + 6) : bp_A l G H0 (1, 21, false, false) M_Mo_partDigits h c s 50 [some (.ref (M 0)), some (.int (nI f)), some (.int (nI e)), some (.int (nI lo)), some (.int (nI hi)), some (.int (nI bt)), some (.int (nI k)), some (.int (nI x))] [] (fun o h' c' s' => ∃ v, o = .returned v ∧ Q v h' c' s') := by
  have hx6 : x < 1000000 := by have := dgT_6 T f; rw [hd] at this; exact this
  have eE : tnE T f = k := by unfold tnE; rw [hd]
  refine bp_iload (q := 52) 26 rfl rfl rfl ?_
  refine bp_iload_n (q := 53) 27 rfl rfl rfl rfl ?_
  refine bp_icmp_eq (q := 56) (tgt := 74) 28 rfl rfl (by decide) (fun z53 => ?_) (fun z53 => ?_)
  · refine bp_iconst (v := 0) (q := 75) 39 rfl rfl (by decide) ?_
    exact bp_iret 40 rfl rfl (by first | rfl | assumption) ⟨_, rfl, hQ0 (fun z => by have := (tnOk_is.mp z.1).1; rw [eE] at this; exact absurd ((nI_eq_iff (by omega) (by omega)).mp z53) (by omega))⟩
  · refine bp_iload (q := 58) 29 rfl rfl rfl ?_
    refine bp_iload_n (q := 59) 30 rfl rfl rfl rfl ?_
    refine bp_iconst (v := 5) (q := 60) 31 rfl rfl (by decide) ?_
    refine bp_iadd (q := 61) 32 rfl rfl ?_
    rw [show nI f + 5 = nI (f + 5) from nI_add f 5]
    refine bp_icmp_gt (q := 64) (tgt := 74) 33 rfl rfl (by decide) (fun z61 => ?_) (fun z61 => ?_)
    · refine bp_iconst (v := 0) (q := 75) 39 rfl rfl (by decide) ?_
      exact bp_iret 40 rfl rfl (by first | rfl | assumption) ⟨_, rfl, hQ0 (fun z => by have := (tnOk_is.mp z.1).2; rw [eE] at this; exact absurd ((nI_lt_iff (by omega) (by omega)).mp z61) (by omega))⟩
    · refine bp_aload_n (q := 65) 34 rfl rfl rfl rfl ?_
      refine bp_iload (q := 67) 35 rfl rfl rfl ?_
      refine bp_callV (q := 70) (ci := 9) 36 rfl rfl cw_Mo_charAt lk_Mo_83 rfl hB0.kb wd1445 wd43 rfl rfl (Nat.le_of_ble_eq_true rfl) ⟨Nat.le_of_ble_eq_true rfl, Nat.le_of_ble_eq_true rfl⟩ (s_Mo_charAt (ro := false) (k := k) hB0 hT (by omega) ?_)
      refine bp_iload_n (q := 71) 37 rfl rfl rfl rfl ?_
      refine bp_icmp_eq (q := 74) (tgt := 76) 38 rfl rfl (by decide) (fun z71 => ?_) (fun z71 => ?_)
      · refine bp_aload_n (q := 77) 41 rfl rfl rfl rfl ?_
        refine bp_aload_n (q := 78) 42 rfl rfl rfl rfl ?_
        refine bp_iload_n (q := 79) 43 rfl rfl rfl rfl ?_
        refine bp_callV (q := 82) (ci := 9) 44 rfl rfl cw_Mo_charAt lk_Mo_83 rfl hB0.kb wd1445 wd43 rfl rfl (Nat.le_of_ble_eq_true rfl) ⟨Nat.le_of_ble_eq_true rfl, Nat.le_of_ble_eq_true rfl⟩ (s_Mo_charAt (ro := false) (k := f) hB0 hT (by omega) ?_)
        refine bp_bipush (v := 48) (q := 84) 45 rfl rfl (by decide) ?_
        refine bp_icmp_eq (q := 87) (tgt := 107) 46 rfl rfl (by decide) (fun z84 => ?_) (fun z84 => ?_)
        · refine bp_iconst (v := -1) (q := 108) 56 rfl rfl (by decide) ?_
          refine bp_goto (tgt := 113) 57 rfl (by decide) ?_
          refine bp_putI (q := 116) (ci := 9) (j := 32) 59 rfl rfl fl_Mo_273_9 cl9 hB0.kb (fun r hr => by cases hr; rfl) (by decide) rfl rfl ?_
          have eN : dgN T f lo hi bt = -1 := if_pos (Or.inl ((nI_eq_iff (a := tc T f) (b := 48) (by have := tc_lt hT f; omega) (by decide)).mp z84))
          refine bp_nx (X := fun h1 => MoX M h0 h1 tw i fa fm tl lk al ind sk dp lv fr en nf nn dg nu kd (dgN T f lo hi bt) pe T xs L ps L1 p1 nt tb fd) (hB0.s32 eN.symm) (fun h1 hB1 => ?_)
          refine bp_aload_n (q := 117) 60 rfl rfl rfl rfl ?_
          refine bp_iload (q := 119) 61 rfl rfl rfl ?_
          refine bp_iconst (v := 1) (q := 120) 62 rfl rfl (by decide) ?_
          refine bp_iadd (q := 121) 63 rfl rfl ?_
          refine bp_putI (q := 124) (ci := 9) (j := 33) 64 rfl rfl fl_Mo_270_9 cl9 hB1.kb (fun r hr => by cases hr; rfl) (by decide) rfl rfl ?_
          refine bp_nx (X := fun h2 => MoX M h0 h2 tw i fa fm tl lk al ind sk dp lv fr en nf nn dg nu kd (dgN T f lo hi bt) (k + 1) T xs L ps L1 p1 nt tb fd) (hB1.s33 (nI_1 k)) (fun h2 hB2 => ?_)
          refine bp_iconst (v := 1) (q := 125) 65 rfl rfl (by decide) ?_
          refine bp_iret 66 rfl rfl (by first | rfl | assumption) ⟨_, rfl, ?_⟩
          have q1 := Nat.not_le.mp (fun z : k ≤ f => z53 (by rw [show k = f by omega]))
          have q2 := Nat.not_lt.mp (fun z => z61 ((nI_lt_iff (a := f + 5) (b := k) (by omega) (by omega)).mpr z))
          have q3 := (nI_eq_iff (a := tc T k) (b := e) (by have := tc_lt hT k; omega) he).mp z71
          have z := hQ1 ⟨tnOk_is.mpr (by rw [eE]; exact ⟨q1, q2⟩), by rw [eE]; exact q3⟩
          rw [eE] at z
          exact z _ hB2
        · refine bp_iload (q := 89) 47 rfl rfl rfl ?_
          refine bp_iload_n (q := 90) 48 rfl rfl rfl rfl ?_
          refine bp_icmp_lt (q := 93) (tgt := 107) 49 rfl rfl (by decide) (fun z90 => ?_) (fun z90 => ?_)
          · refine bp_iconst (v := -1) (q := 108) 56 rfl rfl (by decide) ?_
            refine bp_goto (tgt := 113) 57 rfl (by decide) ?_
            refine bp_putI (q := 116) (ci := 9) (j := 32) 59 rfl rfl fl_Mo_273_9 cl9 hB0.kb (fun r hr => by cases hr; rfl) (by decide) rfl rfl ?_
            have eN : dgN T f lo hi bt = -1 := if_pos (Or.inr (Or.inl (by rw [hd]; exact (nI_lt_iff hx6 hlo).mp z90)))
            refine bp_nx (X := fun h1 => MoX M h0 h1 tw i fa fm tl lk al ind sk dp lv fr en nf nn dg nu kd (dgN T f lo hi bt) pe T xs L ps L1 p1 nt tb fd) (hB0.s32 eN.symm) (fun h1 hB1 => ?_)
            refine bp_aload_n (q := 117) 60 rfl rfl rfl rfl ?_
            refine bp_iload (q := 119) 61 rfl rfl rfl ?_
            refine bp_iconst (v := 1) (q := 120) 62 rfl rfl (by decide) ?_
            refine bp_iadd (q := 121) 63 rfl rfl ?_
            refine bp_putI (q := 124) (ci := 9) (j := 33) 64 rfl rfl fl_Mo_270_9 cl9 hB1.kb (fun r hr => by cases hr; rfl) (by decide) rfl rfl ?_
            refine bp_nx (X := fun h2 => MoX M h0 h2 tw i fa fm tl lk al ind sk dp lv fr en nf nn dg nu kd (dgN T f lo hi bt) (k + 1) T xs L ps L1 p1 nt tb fd) (hB1.s33 (nI_1 k)) (fun h2 hB2 => ?_)
            refine bp_iconst (v := 1) (q := 125) 65 rfl rfl (by decide) ?_
            refine bp_iret 66 rfl rfl (by first | rfl | assumption) ⟨_, rfl, ?_⟩
            have q1 := Nat.not_le.mp (fun z : k ≤ f => z53 (by rw [show k = f by omega]))
            have q2 := Nat.not_lt.mp (fun z => z61 ((nI_lt_iff (a := f + 5) (b := k) (by omega) (by omega)).mpr z))
            have q3 := (nI_eq_iff (a := tc T k) (b := e) (by have := tc_lt hT k; omega) he).mp z71
            have z := hQ1 ⟨tnOk_is.mpr (by rw [eE]; exact ⟨q1, q2⟩), by rw [eE]; exact q3⟩
            rw [eE] at z
            exact z _ hB2
          · refine bp_iload (q := 95) 50 rfl rfl rfl ?_
            refine bp_iload (q := 97) 51 rfl rfl rfl ?_
            refine bp_icmp_gt (q := 100) (tgt := 107) 52 rfl rfl (by decide) (fun z97 => ?_) (fun z97 => ?_)
            · refine bp_iconst (v := -1) (q := 108) 56 rfl rfl (by decide) ?_
              refine bp_goto (tgt := 113) 57 rfl (by decide) ?_
              refine bp_putI (q := 116) (ci := 9) (j := 32) 59 rfl rfl fl_Mo_273_9 cl9 hB0.kb (fun r hr => by cases hr; rfl) (by decide) rfl rfl ?_
              have eN : dgN T f lo hi bt = -1 := if_pos (Or.inr (Or.inr (Or.inl (by rw [hd]; exact (nI_lt_iff hhi hx6).mp z97))))
              refine bp_nx (X := fun h1 => MoX M h0 h1 tw i fa fm tl lk al ind sk dp lv fr en nf nn dg nu kd (dgN T f lo hi bt) pe T xs L ps L1 p1 nt tb fd) (hB0.s32 eN.symm) (fun h1 hB1 => ?_)
              refine bp_aload_n (q := 117) 60 rfl rfl rfl rfl ?_
              refine bp_iload (q := 119) 61 rfl rfl rfl ?_
              refine bp_iconst (v := 1) (q := 120) 62 rfl rfl (by decide) ?_
              refine bp_iadd (q := 121) 63 rfl rfl ?_
              refine bp_putI (q := 124) (ci := 9) (j := 33) 64 rfl rfl fl_Mo_270_9 cl9 hB1.kb (fun r hr => by cases hr; rfl) (by decide) rfl rfl ?_
              refine bp_nx (X := fun h2 => MoX M h0 h2 tw i fa fm tl lk al ind sk dp lv fr en nf nn dg nu kd (dgN T f lo hi bt) (k + 1) T xs L ps L1 p1 nt tb fd) (hB1.s33 (nI_1 k)) (fun h2 hB2 => ?_)
              refine bp_iconst (v := 1) (q := 125) 65 rfl rfl (by decide) ?_
              refine bp_iret 66 rfl rfl (by first | rfl | assumption) ⟨_, rfl, ?_⟩
              have q1 := Nat.not_le.mp (fun z : k ≤ f => z53 (by rw [show k = f by omega]))
              have q2 := Nat.not_lt.mp (fun z => z61 ((nI_lt_iff (a := f + 5) (b := k) (by omega) (by omega)).mpr z))
              have q3 := (nI_eq_iff (a := tc T k) (b := e) (by have := tc_lt hT k; omega) he).mp z71
              have z := hQ1 ⟨tnOk_is.mpr (by rw [eE]; exact ⟨q1, q2⟩), by rw [eE]; exact q3⟩
              rw [eE] at z
              exact z _ hB2
            · refine bp_iload (q := 102) 53 rfl rfl rfl ?_
              refine bp_iload (q := 104) 54 rfl rfl rfl ?_
              refine bp_icmp_ne (q := 107) (tgt := 111) 55 rfl rfl (by decide) (fun z104 => ?_) (fun z104 => ?_)
              · refine bp_iload (q := 113) 58 rfl rfl rfl ?_
                refine bp_putI (q := 116) (ci := 9) (j := 32) 59 rfl rfl fl_Mo_273_9 cl9 hB0.kb (fun r hr => by cases hr; rfl) (by decide) rfl rfl ?_
                have eN : dgN T f lo hi bt = nI x := (if_neg (dgN_no hd hx6 hlo hhi hbt z84 z90 z97 z104)).trans (by rw [hd])
                refine bp_nx (X := fun h1 => MoX M h0 h1 tw i fa fm tl lk al ind sk dp lv fr en nf nn dg nu kd (dgN T f lo hi bt) pe T xs L ps L1 p1 nt tb fd) (hB0.s32 eN.symm) (fun h1 hB1 => ?_)
                refine bp_aload_n (q := 117) 60 rfl rfl rfl rfl ?_
                refine bp_iload (q := 119) 61 rfl rfl rfl ?_
                refine bp_iconst (v := 1) (q := 120) 62 rfl rfl (by decide) ?_
                refine bp_iadd (q := 121) 63 rfl rfl ?_
                refine bp_putI (q := 124) (ci := 9) (j := 33) 64 rfl rfl fl_Mo_270_9 cl9 hB1.kb (fun r hr => by cases hr; rfl) (by decide) rfl rfl ?_
                refine bp_nx (X := fun h2 => MoX M h0 h2 tw i fa fm tl lk al ind sk dp lv fr en nf nn dg nu kd (dgN T f lo hi bt) (k + 1) T xs L ps L1 p1 nt tb fd) (hB1.s33 (nI_1 k)) (fun h2 hB2 => ?_)
                refine bp_iconst (v := 1) (q := 125) 65 rfl rfl (by decide) ?_
                refine bp_iret 66 rfl rfl (by first | rfl | assumption) ⟨_, rfl, ?_⟩
                have q1 := Nat.not_le.mp (fun z : k ≤ f => z53 (by rw [show k = f by omega]))
                have q2 := Nat.not_lt.mp (fun z => z61 ((nI_lt_iff (a := f + 5) (b := k) (by omega) (by omega)).mpr z))
                have q3 := (nI_eq_iff (a := tc T k) (b := e) (by have := tc_lt hT k; omega) he).mp z71
                have z := hQ1 ⟨tnOk_is.mpr (by rw [eE]; exact ⟨q1, q2⟩), by rw [eE]; exact q3⟩
                rw [eE] at z
                exact z _ hB2
              · refine bp_iconst (v := -1) (q := 108) 56 rfl rfl (by decide) ?_
                refine bp_goto (tgt := 113) 57 rfl (by decide) ?_
                refine bp_putI (q := 116) (ci := 9) (j := 32) 59 rfl rfl fl_Mo_273_9 cl9 hB0.kb (fun r hr => by cases hr; rfl) (by decide) rfl rfl ?_
                have eN : dgN T f lo hi bt = -1 := if_pos (Or.inr (Or.inr (Or.inr (by rw [hd]; exact (nI_eq_iff hx6 hbt).mp (by first | exact z104 | exact Classical.not_not.mp z104)))))
                refine bp_nx (X := fun h1 => MoX M h0 h1 tw i fa fm tl lk al ind sk dp lv fr en nf nn dg nu kd (dgN T f lo hi bt) pe T xs L ps L1 p1 nt tb fd) (hB0.s32 eN.symm) (fun h1 hB1 => ?_)
                refine bp_aload_n (q := 117) 60 rfl rfl rfl rfl ?_
                refine bp_iload (q := 119) 61 rfl rfl rfl ?_
                refine bp_iconst (v := 1) (q := 120) 62 rfl rfl (by decide) ?_
                refine bp_iadd (q := 121) 63 rfl rfl ?_
                refine bp_putI (q := 124) (ci := 9) (j := 33) 64 rfl rfl fl_Mo_270_9 cl9 hB1.kb (fun r hr => by cases hr; rfl) (by decide) rfl rfl ?_
                refine bp_nx (X := fun h2 => MoX M h0 h2 tw i fa fm tl lk al ind sk dp lv fr en nf nn dg nu kd (dgN T f lo hi bt) (k + 1) T xs L ps L1 p1 nt tb fd) (hB1.s33 (nI_1 k)) (fun h2 hB2 => ?_)
                refine bp_iconst (v := 1) (q := 125) 65 rfl rfl (by decide) ?_
                refine bp_iret 66 rfl rfl (by first | rfl | assumption) ⟨_, rfl, ?_⟩
                have q1 := Nat.not_le.mp (fun z : k ≤ f => z53 (by rw [show k = f by omega]))
                have q2 := Nat.not_lt.mp (fun z => z61 ((nI_lt_iff (a := f + 5) (b := k) (by omega) (by omega)).mpr z))
                have q3 := (nI_eq_iff (a := tc T k) (b := e) (by have := tc_lt hT k; omega) he).mp z71
                have z := hQ1 ⟨tnOk_is.mpr (by rw [eE]; exact ⟨q1, q2⟩), by rw [eE]; exact q3⟩
                rw [eE] at z
                exact z _ hB2
      · refine bp_iconst (v := 0) (q := 75) 39 rfl rfl (by decide) ?_
        exact bp_iret 40 rfl rfl (by first | rfl | assumption) ⟨_, rfl, hQ0 (fun z => by have := z.2; rw [eE] at this; exact z71 (by rw [this]))⟩
set_option maxRecDepth 100000 in
set_option maxHeartbeats 4000000 in
theorem s_Mo_partDigits {f e lo hi bt : Nat} (hB0 : MoX M h0 h tw i fa fm tl lk al ind sk dp lv fr en nf nn dg nu kd pn pe T xs L ps L1 p1 nt tb fd) (hT : okT T) (hf : f < 10000) (he : e < 1000000) (hlo : lo < 1000000) (hhi : hi < 1000000) (hbt : bt < 1000000) (hQ1 : sDg T f e → ∀ h', MoX M h0 h' tw i fa fm tl lk al ind sk dp lv fr en nf nn dg nu kd (dgN T f lo hi bt) (tnE T f + 1) T xs L ps L1 p1 nt tb fd → Q (some (.int 1)) h' c s) (hQ0 : ¬ sDg T f e → Q (some (.int 0)) h c s) : bp_AM l G H0 (1, 21, false, false) M_Mo_partDigits h c s [.ref (M 0), .int (nI f), .int (nI e), .int (nI lo), .int (nI hi), .int (nI bt)] Q := by
  refine bp_of (ls := [some (.ref (M 0)), some (.int (nI f)), some (.int (nI e)), some (.int (nI lo)), some (.int (nI hi)), some (.int (nI bt)), none, none]) (by decide) dt_Mo_partDigits (Nat.le_of_ble_eq_true rfl) (fun q hq => hq) false ?_
  refine bp_iload_n (q := 1) 0 rfl rfl rfl rfl ?_
  refine bp_istore (q := 3) 1 rfl rfl (by decide) (bp_up6 rfl) ?_
  refine bp_iconst (v := 0) (q := 4) 2 rfl rfl (by decide) ?_
  refine bp_istore (q := 6) 3 rfl rfl (by decide) (bp_up7 rfl) ?_
  exact lp_Mo_pd hB0 hT hf (fun k x hd h1 h2 => lp_Mo_pd2 hB0 hT hf he hlo hhi hbt hQ1 hQ0 hd h1 h2) 6 f 0 (by omega) (by decide) rfl
end MO26
