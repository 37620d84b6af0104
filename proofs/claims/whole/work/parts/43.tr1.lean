/-! the tagged reader -/
theorem sh_r : ∀ x, x < 32 → ∀ g, g < 5 → nI x >>> (nI g &&& 31) = nI (x / 2 ^ g) := by decide +kernel
theorem sh_l : ∀ g, g < 5 → (1 : Int32) <<< (nI g &&& 31) = nI (2 ^ g) := by decide +kernel
theorem oI_is {g : Option Nat} {v : Nat} (h : ∀ k, g = some k → k < 1000000) (hv : v < 1000000) : oI g = nI v ↔ g = some v := by
  cases g with
  | none => exact ⟨fun z => absurd z.symm (nI_m1 hv), fun z => nomatch z⟩
  | some k => exact ⟨fun z => by rw [(nI_eq_iff (h k rfl) hv).mp z], fun z => by cases z; rfl⟩
theorem rg_oI {T : List Nat} (hT : okT T) {e : Option Nat} (h : ∀ k, e = some k → k < 1000000) : rg T (oI e) = 62 ↔ ∃ k, e = some k ∧ tc T k = 62 := by
  cases e with
  | none => exact ⟨fun z => absurd z (by show ¬ rg T (-1) = 62; rw [rg, if_pos (by decide)]; decide), fun ⟨k, z, _⟩ => nomatch z⟩
  | some k => exact ⟨fun z => ⟨k, rfl, (rg_is hT (v := 62) (h k rfl) (by decide) (by decide)).mp z⟩, fun ⟨q, z, y⟩ => by cases z; exact (rg_is hT (v := 62) (h k rfl) (by decide) (by decide)).mpr y⟩
theorem wi_d {k j : Nat} (h : k ≤ j) (hj : j < 100000) : wi (nI (j - k)) 1 5 = (decide (k < j) && decide (j ≤ k + 5)) := by
  have e := wi_nI (n := j - k) (a := 1) (b := 5) (by omega) (by decide) (by decide)
  rw [show wi (nI (j - k)) 1 5 = wi (nI (j - k)) (nI 1) (nI 5) from rfl, e]
  congr 1 <;> exact decide_eq_decide.mpr (by omega)
theorem ll_eq {L : List (Nat × Nat)} {ps : List (Nat × Nat × Nat)} (h : okP L ps) (hne : ps ≠ []) : (if p_en ps (nI ps.length - 1) ≤ p_st ps (nI ps.length - 1) then (-1 : Int32) else rg (L.map (fun q => q.2)) (p_en ps (nI ps.length - 1) - 1)) = oI (llk L ps) := by
  obtain ⟨m, hm⟩ : ∃ m, ps.length = m + 1 := ⟨ps.length - 1, by have := List.length_pos_iff.mpr hne; omega⟩
  have h16 := h.2.1
  have hj := h.2.2.1 m (by omega)
  have hL := h.1
  rw [hm, nI_pred, p_enN h16 (by omega), p_stN h16 (by omega)]
  unfold llk
  rw [hm, Nat.add_sub_cancel]
  by_cases z : pst ps m < p_e ps m
  · rw [if_neg (nI_ge z (by omega)), if_pos z]
    obtain ⟨e, he⟩ : ∃ e, p_e ps m = e + 1 := ⟨p_e ps m - 1, by omega⟩
    rw [he, nI_pred, Nat.add_sub_cancel]
    exact rg_nI (by rw [List.length_map]; omega) (by rw [List.length_map]; omega)
  · rw [if_pos (nI_le (by omega) (by omega)), if_neg z]; rfl
section TR1
variable {l : Launch} {G : bp_G} {H0 : Heap} {A P : Nat → Nat} {T : List Nat} {h0 h : bp_H} {i : Nat} {fa me : Int32} {ip : Bool} {ot rs : Nat} {hl ed : Bool} {sy sz co : Nat} {L : List (Nat × Nat)} {ps : List (Nat × Nat × Nat)} {th nu ne c s : Nat} {Q : Option Value → bp_H → Nat → Nat → Prop}
set_option maxRecDepth 100000 in
set_option maxHeartbeats 4000000 in
theorem s_TR_fail {x : Int32} (hB0 : TrX A P T h0 h i fa me ip ot rs hl ed sy sz co L ps th nu ne) (hQ : ∀ h', TrX A P T h0 h' i x (nI th) ip ot rs hl ed sy sz co L ps th nu ne → Q none h' c s) : bp_AM l G H0 (0, 0, false, false) M_Rd_fail h c s [.ref (A 0), .int x] Q := by
  refine bp_of (ls := [some (.ref (A 0)), some (.int x)]) (by decide) dt_Rd_fail (Nat.le_of_ble_eq_true rfl) (fun q hq => hq) false ?_
  refine bp_aload_n (q := 1) 0 rfl rfl rfl rfl ?_
  refine bp_iload_n (q := 2) 1 rfl rfl rfl rfl ?_
  refine bp_putI (q := 5) (ci := 6) (j := 14) 2 rfl rfl fl_Rd_19_6 cl6 hB0.kb (fun r hr => by cases hr; rfl) (by decide) rfl rfl ?_
  refine bp_nx (X := fun h1 => TrX A P T h0 h1 i x me ip ot rs hl ed sy sz co L ps th nu ne) (hB0.s14 rfl) (fun h1 hB1 => ?_)
  refine bp_aload_n (q := 6) 3 rfl rfl rfl rfl ?_
  refine bp_aload_n (q := 7) 4 rfl rfl rfl rfl ?_
  refine bp_getI (q := 10) (ci := 6) (j := 13) 5 rfl rfl fl_Rd_47_6 hB1.kb rfl ?_
  rw [hB1.i13]
  refine bp_putI (q := 13) (ci := 6) (j := 15) 6 rfl rfl fl_Rd_23_6 cl6 hB1.kb (fun r hr => by cases hr; rfl) (by decide) rfl rfl ?_
  refine bp_nx (X := fun h2 => TrX A P T h0 h2 i x (nI th) ip ot rs hl ed sy sz co L ps th nu ne) (hB1.s15 rfl) (fun h2 hB2 => ?_)
  exact bp_vret 7 rfl rfl  ⟨_, rfl, hQ _ hB2⟩
set_option maxRecDepth 100000 in
set_option maxHeartbeats 4000000 in
theorem s_TR_failAt {x y : Int32} (hB0 : TrX A P T h0 h i fa me ip ot rs hl ed sy sz co L ps th nu ne) (hQ : ∀ h', TrX A P T h0 h' i x y ip ot rs hl ed sy sz co L ps th nu ne → Q none h' c s) : bp_AM l G H0 (0, 0, false, false) M_Rd_failAt h c s [.ref (A 0), .int x, .int y] Q := by
  refine bp_of (ls := [some (.ref (A 0)), some (.int x), some (.int y)]) (by decide) dt_Rd_failAt (Nat.le_of_ble_eq_true rfl) (fun q hq => hq) false ?_
  refine bp_aload_n (q := 1) 0 rfl rfl rfl rfl ?_
  refine bp_iload_n (q := 2) 1 rfl rfl rfl rfl ?_
  refine bp_putI (q := 5) (ci := 6) (j := 14) 2 rfl rfl fl_Rd_19_6 cl6 hB0.kb (fun r hr => by cases hr; rfl) (by decide) rfl rfl ?_
  refine bp_nx (X := fun h1 => TrX A P T h0 h1 i x me ip ot rs hl ed sy sz co L ps th nu ne) (hB0.s14 rfl) (fun h1 hB1 => ?_)
  refine bp_aload_n (q := 6) 3 rfl rfl rfl rfl ?_
  refine bp_iload_n (q := 7) 4 rfl rfl rfl rfl ?_
  refine bp_putI (q := 10) (ci := 6) (j := 15) 5 rfl rfl fl_Rd_23_6 cl6 hB1.kb (fun r hr => by cases hr; rfl) (by decide) rfl rfl ?_
  refine bp_nx (X := fun h2 => TrX A P T h0 h2 i x y ip ot rs hl ed sy sz co L ps th nu ne) (hB1.s15 rfl) (fun h2 hB2 => ?_)
  exact bp_vret 6 rfl rfl  ⟨_, rfl, hQ _ hB2⟩
set_option maxRecDepth 100000 in
set_option maxHeartbeats 4000000 in
theorem s_TR_fault {ro : Bool}  (hB0 : TrX A P T h0 h i fa me ip ot rs hl ed sy sz co L ps th nu ne) (hQ : Q (some (.int fa)) h c s) : bp_AM l G H0 (0, 0, ro, ro) M_Rd_fault h c s [.ref (A 0)] Q := by
  refine bp_of (ls := [some (.ref (A 0))]) (by decide) dt_Rd_fault (Nat.le_of_ble_eq_true rfl) (fun q hq => hq) ro ?_
  refine bp_aload_n (q := 1) 0 rfl rfl rfl rfl ?_
  refine bp_getI (q := 4) (ci := 6) (j := 14) 1 rfl rfl fl_Rd_19_6 hB0.kb rfl ?_
  rw [hB0.i14]
  exact bp_iret 2 rfl rfl rfl ⟨_, rfl, hQ⟩
set_option maxRecDepth 100000 in
set_option maxHeartbeats 4000000 in
theorem s_TR_met {ro : Bool}  (hB0 : TrX A P T h0 h i fa me ip ot rs hl ed sy sz co L ps th nu ne) (hQ : Q (some (.int me)) h c s) : bp_AM l G H0 (0, 0, ro, ro) M_Rd_met h c s [.ref (A 0)] Q := by
  refine bp_of (ls := [some (.ref (A 0))]) (by decide) dt_Rd_met (Nat.le_of_ble_eq_true rfl) (fun q hq => hq) ro ?_
  refine bp_aload_n (q := 1) 0 rfl rfl rfl rfl ?_
  refine bp_getI (q := 4) (ci := 6) (j := 15) 1 rfl rfl fl_Rd_23_6 hB0.kb rfl ?_
  rw [hB0.i15]
  exact bp_iret 2 rfl rfl rfl ⟨_, rfl, hQ⟩
set_option maxRecDepth 100000 in
set_option maxHeartbeats 4000000 in
theorem s_TR_isOver {ro : Bool}  (hQ : Q (some (.int 0)) h c s) : bp_AM l G H0 (0, 0, ro, ro) M_TR_isOver h c s [.ref (A 0)] Q := by
  refine bp_of (ls := [some (.ref (A 0))]) (by decide) dt_TR_isOver (Nat.le_of_ble_eq_true rfl) (fun q hq => hq) ro ?_
  refine bp_iconst (v := 0) (q := 1) 0 rfl rfl (by decide) ?_
  exact bp_iret 1 rfl rfl (by first | rfl | assumption) ⟨_, rfl, hQ⟩
set_option maxRecDepth 100000 in
set_option maxHeartbeats 4000000 in
theorem s_TR_endRun  (hB0 : TrX A P T h0 h i fa me ip ot rs hl ed sy sz co L ps th nu ne) (hQ : ∀ h', TrX A P T h0 h' i fa me ip 0 rs false false 0 12 0 L ps th nu ne → Q none h' c s) : bp_AM l G H0 (0, 0, false, false) M_TR_endRun h c s [.ref (A 0)] Q := by
  refine bp_of (ls := [some (.ref (A 0))]) (by decide) dt_TR_endRun (Nat.le_of_ble_eq_true rfl) (fun q hq => hq) false ?_
  refine bp_aload_n (q := 1) 0 rfl rfl rfl rfl ?_
  refine bp_iconst (v := 0) (q := 2) 1 rfl rfl (by decide) ?_
  refine bp_putI (q := 5) (ci := 6) (j := 1) 2 rfl rfl fl_TR_54_6 cl6 hB0.kb (fun r hr => by cases hr; rfl) (by decide) rfl rfl ?_
  refine bp_nx (X := fun h1 => TrX A P T h0 h1 i fa me ip 0 rs hl ed sy sz co L ps th nu ne) (hB0.s1 rfl) (fun h1 hB1 => ?_)
  refine bp_aload_n (q := 6) 3 rfl rfl rfl rfl ?_
  refine bp_iconst (v := 0) (q := 7) 4 rfl rfl (by decide) ?_
  refine bp_putI (q := 10) (ci := 6) (j := 3) 5 rfl rfl fl_TR_57_6 cl6 hB1.kb (fun r hr => by cases hr; rfl) (by decide) rfl rfl ?_
  refine bp_nx (X := fun h2 => TrX A P T h0 h2 i fa me ip 0 rs false ed sy sz co L ps th nu ne) (hB1.s3 rfl) (fun h2 hB2 => ?_)
  refine bp_aload_n (q := 11) 6 rfl rfl rfl rfl ?_
  refine bp_iconst (v := 0) (q := 12) 7 rfl rfl (by decide) ?_
  refine bp_putI (q := 15) (ci := 6) (j := 4) 8 rfl rfl fl_TR_60_6 cl6 hB2.kb (fun r hr => by cases hr; rfl) (by decide) rfl rfl ?_
  refine bp_nx (X := fun h3 => TrX A P T h0 h3 i fa me ip 0 rs false false sy sz co L ps th nu ne) (hB2.s4 rfl) (fun h3 hB3 => ?_)
  refine bp_aload_n (q := 16) 9 rfl rfl rfl rfl ?_
  refine bp_iconst (v := 0) (q := 17) 10 rfl rfl (by decide) ?_
  refine bp_putI (q := 20) (ci := 6) (j := 5) 11 rfl rfl fl_TR_63_6 cl6 hB3.kb (fun r hr => by cases hr; rfl) (by decide) rfl rfl ?_
  refine bp_nx (X := fun h4 => TrX A P T h0 h4 i fa me ip 0 rs false false 0 sz co L ps th nu ne) (hB3.s5 rfl) (fun h4 hB4 => ?_)
  refine bp_aload_n (q := 21) 12 rfl rfl rfl rfl ?_
  refine bp_bipush (v := 12) (q := 23) 13 rfl rfl (by decide) ?_
  refine bp_putI (q := 26) (ci := 6) (j := 6) 14 rfl rfl fl_TR_66_6 cl6 hB4.kb (fun r hr => by cases hr; rfl) (by decide) rfl rfl ?_
  refine bp_nx (X := fun h5 => TrX A P T h0 h5 i fa me ip 0 rs false false 0 12 co L ps th nu ne) (hB4.s6 rfl) (fun h5 hB5 => ?_)
  refine bp_aload_n (q := 27) 15 rfl rfl rfl rfl ?_
  refine bp_iconst (v := 0) (q := 28) 16 rfl rfl (by decide) ?_
  refine bp_putI (q := 31) (ci := 6) (j := 7) 17 rfl rfl fl_TR_68_6 cl6 hB5.kb (fun r hr => by cases hr; rfl) (by decide) rfl rfl ?_
  refine bp_nx (X := fun h6 => TrX A P T h0 h6 i fa me ip 0 rs false false 0 12 0 L ps th nu ne) (hB5.s7 rfl) (fun h6 hB6 => ?_)
  exact bp_vret 18 rfl rfl  ⟨_, rfl, hQ _ hB6⟩
set_option maxRecDepth 100000 in
set_option maxHeartbeats 4000000 in
theorem s_TR_start  (hB0 : TrX A P T h0 h i fa me ip ot rs hl ed sy sz co L ps th nu ne) (hQ : ∀ h', TrX A P T h0 h' i fa me false 0 rs false false 0 12 0 L ps th nu ne → Q none h' c s) : bp_AM l G H0 (1, 20, false, false) M_TR_start h c s [.ref (A 0)] Q := by
  refine bp_of (ls := [some (.ref (A 0))]) (by decide) dt_TR_start (Nat.le_of_ble_eq_true rfl) (fun q hq => hq) false ?_
  refine bp_aload_n (q := 1) 0 rfl rfl rfl rfl ?_
  refine bp_iconst (v := 0) (q := 2) 1 rfl rfl (by decide) ?_
  refine bp_putI (q := 5) (ci := 6) (j := 0) 2 rfl rfl fl_TR_9_6 cl6 hB0.kb (fun r hr => by cases hr; rfl) (by decide) rfl rfl ?_
  refine bp_nx (X := fun h1 => TrX A P T h0 h1 i fa me false ot rs hl ed sy sz co L ps th nu ne) (hB0.s0 rfl) (fun h1 hB1 => ?_)
  refine bp_aload_n (q := 6) 3 rfl rfl rfl rfl ?_
  refine bp_callV (q := 9) (ci := 6) 4 rfl rfl cw_TR_endRun lk_TR_15 rfl hB1.kb wd452 wd0 rfl rfl (Nat.le_of_ble_eq_true rfl) ⟨Nat.le_of_ble_eq_true rfl, Nat.le_of_ble_eq_true rfl⟩ (s_TR_endRun hB1 (fun h2 hB2 => ?_))
  exact bp_vret 5 rfl rfl  ⟨_, rfl, hQ _ hB2⟩
theorem tg_d : ∀ k, k < 128 → (k ≠ 98 ∧ k ≠ 99 ∧ k ≠ 105 ∧ k ≠ 115 ∧ k ≠ 117) → Op.lookupswitch.offset ([(98, 51), (99, 59), (105, 53), (115, 57), (117, 55)] : List (Int × Int)) 61 (nI k).toInt = 61 := by decide +kernel
set_option maxRecDepth 100000 in
set_option maxHeartbeats 4000000 in
theorem s_TR_tagOf {ro : Bool} {k : Nat} (hT : okT T) (hk : k < 1000000) (hQ : Q (some (.int (oI (tgO (tc T k))))) h c s) : bp_AM l G H0 (0, 0, ro, ro) M_TR_tagOf h c s [.int (rg T (nI k))] Q := by
  refine bp_of (ls := [some (.int (rg T (nI k)))]) (by decide) dt_TR_tagOf (Nat.le_of_ble_eq_true rfl) (fun q hq => hq) ro ?_
  by_cases y98 : tc T k = 98
  · rw [show rg T (nI k) = nI 98 from (rg_is hT hk (by decide) (by decide)).mpr y98]
    refine bp_iload_n (q := 1) 0 rfl rfl rfl rfl ?_
    refine bp_ls (tgt := 52) 1 rfl (by decide) rfl (by decide) ?_
    refine bp_iconst (v := 0) (q := 53) 2 rfl rfl (by decide) ?_
    exact bp_iret 3 rfl rfl rfl ⟨_, rfl, by rw [y98] at hQ; exact hQ⟩
  by_cases y105 : tc T k = 105
  · rw [show rg T (nI k) = nI 105 from (rg_is hT hk (by decide) (by decide)).mpr y105]
    refine bp_iload_n (q := 1) 0 rfl rfl rfl rfl ?_
    refine bp_ls (tgt := 54) 1 rfl (by decide) rfl (by decide) ?_
    refine bp_iconst (v := 1) (q := 55) 4 rfl rfl (by decide) ?_
    exact bp_iret 5 rfl rfl rfl ⟨_, rfl, by rw [y105] at hQ; exact hQ⟩
  by_cases y117 : tc T k = 117
  · rw [show rg T (nI k) = nI 117 from (rg_is hT hk (by decide) (by decide)).mpr y117]
    refine bp_iload_n (q := 1) 0 rfl rfl rfl rfl ?_
    refine bp_ls (tgt := 56) 1 rfl (by decide) rfl (by decide) ?_
    refine bp_iconst (v := 2) (q := 57) 6 rfl rfl (by decide) ?_
    exact bp_iret 7 rfl rfl rfl ⟨_, rfl, by rw [y117] at hQ; exact hQ⟩
  by_cases y115 : tc T k = 115
  · rw [show rg T (nI k) = nI 115 from (rg_is hT hk (by decide) (by decide)).mpr y115]
    refine bp_iload_n (q := 1) 0 rfl rfl rfl rfl ?_
    refine bp_ls (tgt := 58) 1 rfl (by decide) rfl (by decide) ?_
    refine bp_iconst (v := 3) (q := 59) 8 rfl rfl (by decide) ?_
    exact bp_iret 9 rfl rfl rfl ⟨_, rfl, by rw [y115] at hQ; exact hQ⟩
  by_cases y99 : tc T k = 99
  · rw [show rg T (nI k) = nI 99 from (rg_is hT hk (by decide) (by decide)).mpr y99]
    refine bp_iload_n (q := 1) 0 rfl rfl rfl rfl ?_
    refine bp_ls (tgt := 60) 1 rfl (by decide) rfl (by decide) ?_
    refine bp_iconst (v := 4) (q := 61) 10 rfl rfl (by decide) ?_
    exact bp_iret 11 rfl rfl rfl ⟨_, rfl, by rw [y99] at hQ; exact hQ⟩
  refine bp_iload_n (q := 1) 0 rfl rfl rfl rfl ?_
  refine bp_ls (off := 61) (tgt := 62) 1 rfl (by decide) ?_ (by decide) ?_
  · by_cases hkl : k < T.length
    · rw [rg_in hT hkl]
      exact tg_d _ (tc_lt hT k) ⟨y98, y99, y105, y115, y117⟩
    · rw [rg_out (by omega) hk]
      decide
  · refine bp_iconst (v := -1) (q := 63) 12 rfl rfl (by decide) ?_
    refine bp_iret 13 rfl rfl rfl ⟨_, rfl, ?_⟩
    rw [tgO, if_neg y98, if_neg y105, if_neg y117, if_neg y115, if_neg y99] at hQ
    exact hQ
set_option maxRecDepth 100000 in
set_option maxHeartbeats 4000000 in
theorem s_TR_alignmentAt {ro : Bool} {k : Nat} (hB0 : TrX A P T h0 h i fa me ip ot rs hl ed sy sz co L ps th nu ne) (hT : okT T) (hk : k < 10000) (hQ : Q (some (.int (nI (alA T k)))) h c s) : bp_AM l G H0 (1, 21, ro, ro) M_TR_alignmentAt h c s [.ref (A 0), .int (nI k)] Q := by
  refine bp_of (ls := [some (.ref (A 0)), some (.int (nI k))]) (by decide) dt_TR_alignmentAt (Nat.le_of_ble_eq_true rfl) (fun q hq => hq) ro ?_
  refine bp_aload_n (q := 1) 0 rfl rfl rfl rfl ?_
  refine bp_getR (x := A 1) (q := 4) (ci := 6) (j := 10) 1 rfl rfl fl_TR_19_6 hB0.kb rfl hB0.r10 ?_
  refine bp_iload_n (q := 5) 2 rfl rfl rfl rfl ?_
  refine bp_callV (q := 8) (ci := 1) 3 rfl rfl cw_Row_get lk_TR_27 rfl hB0.kx wd438 wd439 rfl rfl (Nat.le_of_ble_eq_true rfl) ⟨Nat.le_of_ble_eq_true rfl, Nat.le_of_ble_eq_true rfl⟩ (s_Row_get (ro := ro) hB0.tx ?_)
  refine bp_bipush (v := 67) (q := 10) 4 rfl rfl (by decide) ?_
  refine bp_icmp_ne (q := 13) (tgt := 15) 5 rfl rfl (by decide) (fun z10 => ?_) (fun z10 => ?_)
  · refine bp_aload_n (q := 16) 8 rfl rfl rfl rfl ?_
    refine bp_getR (x := A 1) (q := 19) (ci := 6) (j := 10) 9 rfl rfl fl_TR_19_6 hB0.kb rfl hB0.r10 ?_
    refine bp_iload_n (q := 20) 10 rfl rfl rfl rfl ?_
    refine bp_callV (q := 23) (ci := 1) 11 rfl rfl cw_Row_get lk_TR_27 rfl hB0.kx wd438 wd439 rfl rfl (Nat.le_of_ble_eq_true rfl) ⟨Nat.le_of_ble_eq_true rfl, Nat.le_of_ble_eq_true rfl⟩ (s_Row_get (ro := ro) hB0.tx ?_)
    refine bp_bipush (v := 82) (q := 25) 12 rfl rfl (by decide) ?_
    refine bp_icmp_ne (q := 28) (tgt := 32) 13 rfl rfl (by decide) (fun z25 => ?_) (fun z25 => ?_)
    · refine bp_iconst (v := 0) (q := 33) 16 rfl rfl (by decide) ?_
      refine bp_iret 17 rfl rfl rfl ⟨_, rfl, ?_⟩
      rw [alA, if_neg (mt (rg_is hT (k := k) (v := 67) (by omega) (by decide) (by decide)).mpr z10)] at hQ
      rw [if_neg (mt (rg_is hT (k := k) (v := 82) (by omega) (by decide) (by decide)).mpr z25)] at hQ
      exact hQ
    · refine bp_iconst (v := 2) (q := 29) 14 rfl rfl (by decide) ?_
      refine bp_goto (tgt := 33) 15 rfl (by decide) ?_
      refine bp_iret 17 rfl rfl rfl ⟨_, rfl, ?_⟩
      rw [alA, if_neg (mt (rg_is hT (k := k) (v := 67) (by omega) (by decide) (by decide)).mpr z10)] at hQ
      rw [if_pos ((rg_is hT (k := k) (v := 82) (by omega) (by decide) (by decide)).mp z25)] at hQ
      exact hQ
  · refine bp_iconst (v := 1) (q := 14) 6 rfl rfl (by decide) ?_
    refine bp_iret 7 rfl rfl rfl ⟨_, rfl, ?_⟩
    rw [alA, if_pos ((rg_is hT (k := k) (v := 67) (by omega) (by decide) (by decide)).mp z10)] at hQ
    exact hQ
set_option maxRecDepth 100000 in
set_option maxHeartbeats 4000000 in
theorem s_TR_indentAt {ro : Bool} {k : Nat} (hB0 : TrX A P T h0 h i fa me ip ot rs hl ed sy sz co L ps th nu ne) (hT : okT T) (hk : k < 10000) (hQ : Q (some (.int (nI (inA T k)))) h c s) : bp_AM l G H0 (1, 22, ro, ro) M_TR_indentAt h c s [.ref (A 0), .int (nI k)] Q := by
  refine bp_of (ls := [some (.ref (A 0)), some (.int (nI k))]) (by decide) dt_TR_indentAt (Nat.le_of_ble_eq_true rfl) (fun q hq => hq) ro ?_
  refine bp_aload_n (q := 1) 0 rfl rfl rfl rfl ?_
  refine bp_getR (x := A 1) (q := 4) (ci := 6) (j := 10) 1 rfl rfl fl_TR_19_6 hB0.kb rfl hB0.r10 ?_
  refine bp_iload_n (q := 5) 2 rfl rfl rfl rfl ?_
  refine bp_callV (q := 8) (ci := 1) 3 rfl rfl cw_Row_get lk_TR_27 rfl hB0.kx wd438 wd439 rfl rfl (Nat.le_of_ble_eq_true rfl) ⟨Nat.le_of_ble_eq_true rfl, Nat.le_of_ble_eq_true rfl⟩ (s_Row_get (ro := ro) hB0.tx ?_)
  refine bp_bipush (v := 49) (q := 10) 4 rfl rfl (by decide) ?_
  refine bp_bipush (v := 57) (q := 12) 5 rfl rfl (by decide) ?_
  refine bp_callS (q := 15) 6 rfl rfl cw_X_isWithin lk_TR_102 wd653 rfl rfl (Nat.le_of_ble_eq_true rfl) ⟨Nat.le_of_ble_eq_true rfl, Nat.le_of_ble_eq_true rfl⟩ (s_X_isWithin (ro := ro) ?_)
  refine bp_if_eq (q := 18) (tgt := 32) 7 rfl rfl (by decide) (fun z15 => ?_) (fun z15 => ?_)
  · refine bp_iconst (v := 0) (q := 33) 15 rfl rfl (by decide) ?_
    refine bp_iret 16 rfl rfl rfl ⟨_, rfl, ?_⟩
    have e := wi_rg hT (k := k) (a := 49) (b := 57) (by omega) (by decide) (by decide) (by decide)
    have y := e.symm.trans (bI0.mp z15)
    rw [Bool.and_eq_false_iff, decide_eq_false_iff_not, decide_eq_false_iff_not] at y
    rw [inA, if_neg (fun q => y.elim (fun r => r q.1) (fun r => r q.2))] at hQ
    exact hQ
  · refine bp_aload_n (q := 19) 8 rfl rfl rfl rfl ?_
    refine bp_getR (x := A 1) (q := 22) (ci := 6) (j := 10) 9 rfl rfl fl_TR_19_6 hB0.kb rfl hB0.r10 ?_
    refine bp_iload_n (q := 23) 10 rfl rfl rfl rfl ?_
    refine bp_callV (q := 26) (ci := 1) 11 rfl rfl cw_Row_get lk_TR_27 rfl hB0.kx wd438 wd439 rfl rfl (Nat.le_of_ble_eq_true rfl) ⟨Nat.le_of_ble_eq_true rfl, Nat.le_of_ble_eq_true rfl⟩ (s_Row_get (ro := ro) hB0.tx ?_)
    refine bp_bipush (v := 48) (q := 28) 12 rfl rfl (by decide) ?_
    refine bp_isub (q := 29) 13 rfl rfl ?_
    refine bp_goto (tgt := 33) 14 rfl (by decide) ?_
    refine bp_iret 16 rfl rfl rfl ⟨_, rfl, ?_⟩
    have e := wi_rg hT (k := k) (a := 49) (b := 57) (by omega) (by decide) (by decide) (by decide)
    have y := e.symm.trans (bI1 z15)
    rw [Bool.and_eq_true, decide_eq_true_eq, decide_eq_true_eq] at y
    rw [rg_in hT (tc_in (by omega)), hx_1 _ (tc_lt hT k) (by omega)]
    rw [inA, if_pos y] at hQ
    exact hQ
set_option maxRecDepth 100000 in
set_option maxHeartbeats 4000000 in
theorem s_TR_mayStand {ro : Bool}  (hB0 : TrX A P T h0 h i fa me ip ot rs hl ed sy sz co L ps th nu ne) (hQ : Q (some (.int (bI (ip && !ed)))) h c s) : bp_AM l G H0 (0, 0, ro, ro) M_TR_letterMayStand h c s [.ref (A 0)] Q := by
  refine bp_of (ls := [some (.ref (A 0))]) (by decide) dt_TR_letterMayStand (Nat.le_of_ble_eq_true rfl) (fun q hq => hq) ro ?_
  refine bp_aload_n (q := 1) 0 rfl rfl rfl rfl ?_
  refine bp_getI (q := 4) (ci := 6) (j := 0) 1 rfl rfl fl_TR_9_6 hB0.kb rfl ?_
  rw [hB0.i0]
  refine bp_if_eq (q := 7) (tgt := 18) 2 rfl rfl (by decide) (fun z4 => ?_) (fun z4 => ?_)
  · refine bp_iconst (v := 0) (q := 19) 8 rfl rfl (by decide) ?_
    refine bp_iret 9 rfl rfl (by first | rfl | assumption) ⟨_, rfl, ?_⟩
    rw [bI0.mp z4] at hQ
    exact hQ
  · refine bp_aload_n (q := 8) 3 rfl rfl rfl rfl ?_
    refine bp_getI (q := 11) (ci := 6) (j := 4) 4 rfl rfl fl_TR_60_6 hB0.kb rfl ?_
    rw [hB0.i4]
    refine bp_if_ne (q := 14) (tgt := 18) 5 rfl rfl (by decide) (fun z11 => ?_) (fun z11 => ?_)
    · refine bp_iconst (v := 0) (q := 19) 8 rfl rfl (by decide) ?_
      refine bp_iret 9 rfl rfl (by first | rfl | assumption) ⟨_, rfl, ?_⟩
      rw [bI1 z11, Bool.not_true, Bool.and_false] at hQ
      exact hQ
    · refine bp_iconst (v := 1) (q := 15) 6 rfl rfl (by decide) ?_
      refine bp_goto (tgt := 19) 7 rfl (by decide) ?_
      refine bp_iret 9 rfl rfl (by first | rfl | assumption) ⟨_, rfl, ?_⟩
      rw [bI1 z4, bI0.mp z11] at hQ
      exact hQ
theorem may0 {ip ed : Bool} (z : bI (ip && !ed) = 0) : ip = false ∨ ed = true := by
  have := bI0.mp z
  revert this
  cases ip <;> cases ed <;> simp
theorem may1 {ip ed : Bool} (z : ¬ bI (ip && !ed) = 0) : ip = true ∧ ed = false := by
  have := bI1 z
  revert this
  cases ip <;> cases ed <;> simp
theorem llk_lt {L : List (Nat × Nat)} {ps : List (Nat × Nat × Nat)} {k : Nat} (h : okP L ps) (e : llk L ps = some k) : k < 1000000 := by
  unfold llk at e
  split at e
  · cases e
    exact getD_lt (q := 1000000) (fun x hx => by
      obtain ⟨j, hj, rfl⟩ := List.getElem_of_mem hx
      have := (h.2.2.2 j (by rw [lkL_len] at hj; exact hj)).2
      rw [List.getD_eq_getElem?_getD, List.getElem?_eq_getElem hj] at this
      have q : (lkL L)[j] < 6400 := this
      omega) (by decide) _
  · cases e
set_option maxRecDepth 100000 in
set_option maxHeartbeats 4000000 in
theorem s_TR_readLetter {x y : Int32} {k j : Nat} (hB0 : TrX A P T h0 h i fa me ip ot rs hl ed sy sz co L ps th nu ne) (hx : x = nI k) (hy : y = nI j) (ok : okY T i fa ip ot rs sy sz co L ps) (h0_ : fa = 0) (hL : L.length < 400) (hQ : ∀ h' τ', Tr A P T h0 h' (tLetter th k j (i, fa, me, ip, ot, rs, hl, ed, sy, sz, co, L, ps)) τ' → Q none h' c s) : bp_AM l G H0 (5, 106, false, false) M_TR_readLetter h c s [.ref (A 0), .int x, .int y] Q := by
  refine bp_of (ls := [some (.ref (A 0)), some (.int x), some (.int y), none]) (by decide) dt_TR_readLetter (Nat.le_of_ble_eq_true rfl) (fun q hq => hq) false ?_
  refine bp_aload_n (q := 1) 0 rfl rfl rfl rfl ?_
  refine bp_callV (q := 4) (ci := 6) 1 rfl rfl cw_TR_letterMayStand lk_TR_147 rfl hB0.kb wd796 wd33 rfl rfl (Nat.le_of_ble_eq_true rfl) ⟨Nat.le_of_ble_eq_true rfl, Nat.le_of_ble_eq_true rfl⟩ (s_TR_mayStand (ro := false) hB0 ?_)
  refine bp_if_ne (q := 7) (tgt := 14) 2 rfl rfl (by decide) (fun z4 => ?_) (fun z4 => ?_)
  · refine bp_aload_n (q := 15) 7 rfl rfl rfl rfl ?_
    have y4 := may1 z4
    obtain ⟨qs, qa, qb, qe, rfl⟩ : ∃ qs qa qb qe, ps = qs ++ [(qa, qb, qe)] := by
      rcases nil_or_snoc ps with e | ⟨qs, ⟨a, b, e⟩, rfl⟩
      · exact absurd e (ok.2.2.2.2.2.1 y4.1)
      · exact ⟨qs, a, b, e, rfl⟩
    have hz := ok.2.2.2.2.1 h0_
    refine bp_getI (q := 18) (ci := 6) (j := 5) 8 rfl rfl fl_TR_63_6 hB0.kb rfl ?_
    rw [hB0.i5]
    refine bp_aload_n (q := 19) 9 rfl rfl rfl rfl ?_
    refine bp_getI (q := 22) (ci := 6) (j := 6) 10 rfl rfl fl_TR_66_6 hB0.kb rfl ?_
    rw [hB0.i6]
    refine bp_aload_n (q := 23) 11 rfl rfl rfl rfl ?_
    refine bp_getI (q := 26) (ci := 6) (j := 7) 12 rfl rfl fl_TR_68_6 hB0.kb rfl ?_
    rw [hB0.i7]
    refine bp_callS (q := 29) 13 rfl rfl cw_X_lookOf lk_TR_150 wd692 rfl rfl (Nat.le_of_ble_eq_true rfl) ⟨Nat.le_of_ble_eq_true rfl, Nat.le_of_ble_eq_true rfl⟩ (s_X_lookOf (ro := false) ok.2.2.2.1 hz.1 hz.2 ?_)
    refine bp_istore_n (q := 30) 14 rfl rfl rfl (by decide) (bp_up3 rfl) ?_
    refine bp_aload_n (q := 31) 15 rfl rfl rfl rfl ?_
    refine bp_getI (q := 34) (ci := 6) (j := 1) 16 rfl rfl fl_TR_54_6 hB0.kb rfl ?_
    rw [hB0.i1]
    refine bp_if_eq (q := 37) (tgt := 71) 17 rfl rfl (by decide) (fun z34 => ?_) (fun z34 => ?_)
    · refine bp_aload_n (q := 72) 35 rfl rfl rfl rfl ?_
      refine bp_getR (x := P 0) (q := 75) (ci := 6) (j := 11) 36 rfl rfl fl_TR_89_6 hB0.kb rfl hB0.r11 ?_
      refine bp_iload_n (q := 76) 37 rfl rfl rfl rfl ?_
      refine bp_iload_n (q := 77) 38 rfl rfl rfl rfl ?_
      refine bp_callV (q := 80) (ci := 2) 39 rfl rfl cw_Page_putInLast lk_TR_157 rfl hB0.kp wd820 wd821 rfl rfl (Nat.le_of_ble_eq_true rfl) ⟨Nat.le_of_ble_eq_true rfl, Nat.le_of_ble_eq_true rfl⟩ (s_Page_putInLast (u := k) (v := sy + 8 * co + 64 * sz) hx rfl hB0.pg hL (fun h1 hP1 f1 => ?_))
      have hB1 := hB0.p hP1 f1
      refine bp_aload_n (q := 81) 40 rfl rfl rfl rfl ?_
      refine bp_iload_n (q := 82) 41 rfl rfl rfl rfl ?_
      refine bp_putI (q := 85) (ci := 6) (j := 12) 42 rfl rfl fl_TR_23_6 cl6 hB1.kb (fun r hr => by cases hr; rfl) (by decide) rfl rfl ?_
      refine bp_nx (X := fun h2 => TrX A P T h0 h2 j fa me ip ot rs hl ed sy sz co (L ++ [(k, sy + 8 * co + 64 * sz)]) (qs ++ [(qa, qb, L.length + 1)]) th nu ne) (hB1.s12 hy) (fun h2 hB2 => ?_)
      refine bp_vret 43 rfl rfl  ⟨_, rfl, ?_⟩
      have y34 : ot = 0 := (nI_eq_iff (b := 0) (by have := ok.2.1; omega) (by decide)).mp z34
      have e_ : tLetter th k j (i, fa, me, ip, ot, rs, hl, ed, sy, sz, co, L, qs ++ [(qa, qb, qe)]) = (j, fa, me, ip, ot, rs, if ot ≠ 0 then true else hl, ed, sy, sz, co, L ++ [(k, sy + 8 * co + 64 * sz)], pLast (qs ++ [(qa, qb, qe)]) (L.length + 1)) := (if_neg (fun q => q.elim (fun z => by rw [y4.1] at z; cases z) (fun z => by rw [y4.2] at z; cases z))).trans (if_neg (fun q => q.1 y34))
      rw [pLast_sn, if_neg (fun q => q y34)] at e_
      exact hQ _ _ (Tr.cast (τ := (th, nu, ne)) e_ hB2)
    · refine bp_aload_n (q := 38) 18 rfl rfl rfl rfl ?_
      refine bp_getI (q := 41) (ci := 6) (j := 3) 19 rfl rfl fl_TR_57_6 hB0.kb rfl ?_
      rw [hB0.i3]
      refine bp_if_ne (q := 44) (tgt := 66) 20 rfl rfl (by decide) (fun z41 => ?_) (fun z41 => ?_)
      · refine bp_aload_n (q := 67) 32 rfl rfl rfl rfl ?_
        refine bp_iconst (v := 1) (q := 68) 33 rfl rfl (by decide) ?_
        refine bp_putI (q := 71) (ci := 6) (j := 3) 34 rfl rfl fl_TR_57_6 cl6 hB0.kb (fun r hr => by cases hr; rfl) (by decide) rfl rfl ?_
        refine bp_nx (X := fun h1 => TrX A P T h0 h1 i fa me ip ot rs true ed sy sz co L (qs ++ [(qa, qb, qe)]) th nu ne) (hB0.s3 rfl) (fun h1 hB1 => ?_)
        refine bp_aload_n (q := 72) 35 rfl rfl rfl rfl ?_
        refine bp_getR (x := P 0) (q := 75) (ci := 6) (j := 11) 36 rfl rfl fl_TR_89_6 hB1.kb rfl hB1.r11 ?_
        refine bp_iload_n (q := 76) 37 rfl rfl rfl rfl ?_
        refine bp_iload_n (q := 77) 38 rfl rfl rfl rfl ?_
        refine bp_callV (q := 80) (ci := 2) 39 rfl rfl cw_Page_putInLast lk_TR_157 rfl hB1.kp wd820 wd821 rfl rfl (Nat.le_of_ble_eq_true rfl) ⟨Nat.le_of_ble_eq_true rfl, Nat.le_of_ble_eq_true rfl⟩ (s_Page_putInLast (u := k) (v := sy + 8 * co + 64 * sz) hx rfl hB1.pg hL (fun h2 hP2 f2 => ?_))
        have hB2 := hB1.p hP2 f2
        refine bp_aload_n (q := 81) 40 rfl rfl rfl rfl ?_
        refine bp_iload_n (q := 82) 41 rfl rfl rfl rfl ?_
        refine bp_putI (q := 85) (ci := 6) (j := 12) 42 rfl rfl fl_TR_23_6 cl6 hB2.kb (fun r hr => by cases hr; rfl) (by decide) rfl rfl ?_
        refine bp_nx (X := fun h3 => TrX A P T h0 h3 j fa me ip ot rs true ed sy sz co (L ++ [(k, sy + 8 * co + 64 * sz)]) (qs ++ [(qa, qb, L.length + 1)]) th nu ne) (hB2.s12 hy) (fun h3 hB3 => ?_)
        refine bp_vret 43 rfl rfl  ⟨_, rfl, ?_⟩
        have y34 : ot ≠ 0 := fun q => z34 (by rw [q]; rfl)
        have e_ : tLetter th k j (i, fa, me, ip, ot, rs, hl, ed, sy, sz, co, L, qs ++ [(qa, qb, qe)]) = (j, fa, me, ip, ot, rs, if ot ≠ 0 then true else hl, ed, sy, sz, co, L ++ [(k, sy + 8 * co + 64 * sz)], pLast (qs ++ [(qa, qb, qe)]) (L.length + 1)) := (if_neg (fun q => q.elim (fun z => by rw [y4.1] at z; cases z) (fun z => by rw [y4.2] at z; cases z))).trans (if_neg (fun q => by rw [bI1 z41] at q; exact absurd q.2.1 (by decide)))
        rw [pLast_sn, if_pos y34] at e_
        exact hQ _ _ (Tr.cast (τ := (th, nu, ne)) e_ hB3)
      · refine bp_iload_n (q := 45) 21 rfl rfl rfl rfl ?_
        refine bp_aload_n (q := 46) 22 rfl rfl rfl rfl ?_
        refine bp_getR (x := P 0) (q := 49) (ci := 6) (j := 11) 23 rfl rfl fl_TR_89_6 hB0.kb rfl hB0.r11 ?_
        refine bp_callV (q := 52) (ci := 2) 24 rfl rfl cw_Page_latestLook lk_TR_154 rfl hB0.kp wd800 wd801 rfl rfl (Nat.le_of_ble_eq_true rfl) ⟨Nat.le_of_ble_eq_true rfl, Nat.le_of_ble_eq_true rfl⟩ (s_Page_latestLook (ro := false) hB0.pg ?_)
        rw [ll_eq ok.2.2.2.2.2.2.2.2 (by simp)]
        refine bp_icmp_ne (q := 55) (tgt := 66) 25 rfl rfl (by decide) (fun z52 => ?_) (fun z52 => ?_)
        · refine bp_aload_n (q := 67) 32 rfl rfl rfl rfl ?_
          refine bp_iconst (v := 1) (q := 68) 33 rfl rfl (by decide) ?_
          refine bp_putI (q := 71) (ci := 6) (j := 3) 34 rfl rfl fl_TR_57_6 cl6 hB0.kb (fun r hr => by cases hr; rfl) (by decide) rfl rfl ?_
          refine bp_nx (X := fun h1 => TrX A P T h0 h1 i fa me ip ot rs true ed sy sz co L (qs ++ [(qa, qb, qe)]) th nu ne) (hB0.s3 rfl) (fun h1 hB1 => ?_)
          refine bp_aload_n (q := 72) 35 rfl rfl rfl rfl ?_
          refine bp_getR (x := P 0) (q := 75) (ci := 6) (j := 11) 36 rfl rfl fl_TR_89_6 hB1.kb rfl hB1.r11 ?_
          refine bp_iload_n (q := 76) 37 rfl rfl rfl rfl ?_
          refine bp_iload_n (q := 77) 38 rfl rfl rfl rfl ?_
          refine bp_callV (q := 80) (ci := 2) 39 rfl rfl cw_Page_putInLast lk_TR_157 rfl hB1.kp wd820 wd821 rfl rfl (Nat.le_of_ble_eq_true rfl) ⟨Nat.le_of_ble_eq_true rfl, Nat.le_of_ble_eq_true rfl⟩ (s_Page_putInLast (u := k) (v := sy + 8 * co + 64 * sz) hx rfl hB1.pg hL (fun h2 hP2 f2 => ?_))
          have hB2 := hB1.p hP2 f2
          refine bp_aload_n (q := 81) 40 rfl rfl rfl rfl ?_
          refine bp_iload_n (q := 82) 41 rfl rfl rfl rfl ?_
          refine bp_putI (q := 85) (ci := 6) (j := 12) 42 rfl rfl fl_TR_23_6 cl6 hB2.kb (fun r hr => by cases hr; rfl) (by decide) rfl rfl ?_
          refine bp_nx (X := fun h3 => TrX A P T h0 h3 j fa me ip ot rs true ed sy sz co (L ++ [(k, sy + 8 * co + 64 * sz)]) (qs ++ [(qa, qb, L.length + 1)]) th nu ne) (hB2.s12 hy) (fun h3 hB3 => ?_)
          refine bp_vret 43 rfl rfl  ⟨_, rfl, ?_⟩
          have y34 : ot ≠ 0 := fun q => z34 (by rw [q]; rfl)
          have e_ : tLetter th k j (i, fa, me, ip, ot, rs, hl, ed, sy, sz, co, L, qs ++ [(qa, qb, qe)]) = (j, fa, me, ip, ot, rs, if ot ≠ 0 then true else hl, ed, sy, sz, co, L ++ [(k, sy + 8 * co + 64 * sz)], pLast (qs ++ [(qa, qb, qe)]) (L.length + 1)) := (if_neg (fun q => q.elim (fun z => by rw [y4.1] at z; cases z) (fun z => by rw [y4.2] at z; cases z))).trans (if_neg (fun q => z52 (by rw [q.2.2]; rfl)))
          rw [pLast_sn, if_pos y34] at e_
          exact hQ _ _ (Tr.cast (τ := (th, nu, ne)) e_ hB3)
        · refine bp_aload_n (q := 56) 26 rfl rfl rfl rfl ?_
          refine bp_bipush (v := -10) (q := 58) 27 rfl rfl (by decide) ?_
          refine bp_aload_n (q := 59) 28 rfl rfl rfl rfl ?_
          refine bp_getI (q := 62) (ci := 6) (j := 2) 29 rfl rfl fl_TR_122_6 hB0.kb rfl ?_
          rw [hB0.i2]
          refine bp_callU (q := 65) (ci := 6) (owner := "BracedPages$Reader") 30 rfl rfl cw_Rd_failAt wd816 wd817 (Or.inr rfl) ⟨by decide, by decide⟩ rfl rfl hB0.kb wd445 wd818 rfl rfl (Nat.le_of_ble_eq_true rfl) ⟨Nat.le_of_ble_eq_true rfl, Nat.le_of_ble_eq_true rfl⟩ (s_TR_failAt hB0 (fun h1 hB1 => ?_))
          refine bp_vret 31 rfl rfl  ⟨_, rfl, ?_⟩
          have y34 : ot ≠ 0 := fun q => z34 (by rw [q]; rfl)
          have y52 : llk L (qs ++ [(qa, qb, qe)]) = some (sy + 8 * co + 64 * sz) := (oI_is (fun x hx => llk_lt ok.2.2.2.2.2.2.2.2 hx) (by have := ok.2.2.2.1; omega)).mp z52.symm
          have e_ : tLetter th k j (i, fa, me, ip, ot, rs, hl, ed, sy, sz, co, L, qs ++ [(qa, qb, qe)]) = (i, -10, nI rs, ip, ot, rs, hl, ed, sy, sz, co, L, qs ++ [(qa, qb, qe)]) := (if_neg (fun q => q.elim (fun z => by rw [y4.1] at z; cases z) (fun z => by rw [y4.2] at z; cases z))).trans (if_pos ⟨y34, bI0.mp z41, y52⟩)
          exact hQ _ _ (Tr.cast (τ := (th, nu, ne)) e_ hB1)
  · refine bp_aload_n (q := 8) 3 rfl rfl rfl rfl ?_
    refine bp_bipush (v := -9) (q := 10) 4 rfl rfl (by decide) ?_
    refine bp_callU (q := 13) (ci := 6) (owner := "BracedPages$Reader") 5 rfl rfl cw_Rd_fail wd747 wd748 (Or.inr rfl) ⟨by decide, by decide⟩ rfl rfl hB0.kb wd594 wd749 rfl rfl (Nat.le_of_ble_eq_true rfl) ⟨Nat.le_of_ble_eq_true rfl, Nat.le_of_ble_eq_true rfl⟩ (s_TR_fail hB0 (fun h1 hB1 => ?_))
    refine bp_vret 6 rfl rfl  ⟨_, rfl, ?_⟩
    have e_ : tLetter th k j (i, fa, me, ip, ot, rs, hl, ed, sy, sz, co, L, ps) = (i, -9, nI th, ip, ot, rs, hl, ed, sy, sz, co, L, ps) := if_pos (may0 z4)
    exact hQ _ _ (Tr.cast (τ := (th, nu, ne)) e_ hB1)
set_option maxRecDepth 100000 in
set_option maxHeartbeats 4000000 in
theorem tl_TR_num {k x j : Nat} (hT : okT T) (hB0 : TrX A P T h0 h i fa me ip ot rs hl ed sy sz co L ps th nu ne) (hkj : k ≤ j) (hj : j < 100000) (hQ : ∀ h', TrX A P T h0 h' i fa me ip ot rs hl ed sy sz co L ps th (if tc T k = 48 then 4294967295 else x) j → Q (some (.int (bI (decide (k < j) && decide (j ≤ k + 5))))) h' c s) : bp_A l G H0 (1, 22, false, false) M_TR_readNumber h c s 48 [some (.ref (A 0)), some (.int (nI k)), some (.int (nI x)), some (.int (nI j))] [] (fun o h' c' s' => ∃ v, o = .returned v ∧ Q v h' c' s') := by
  refine bp_aload_n (q := 49) 28 rfl rfl rfl rfl ?_
  refine bp_aload_n (q := 50) 29 rfl rfl rfl rfl ?_
  refine bp_getR (x := A 1) (q := 53) (ci := 6) (j := 10) 30 rfl rfl fl_TR_19_6 hB0.kb rfl hB0.r10 ?_
  refine bp_iload_n (q := 54) 31 rfl rfl rfl rfl ?_
  refine bp_callV (q := 57) (ci := 1) 32 rfl rfl cw_Row_get lk_TR_27 rfl hB0.kx wd438 wd439 rfl rfl (Nat.le_of_ble_eq_true rfl) ⟨Nat.le_of_ble_eq_true rfl, Nat.le_of_ble_eq_true rfl⟩ (s_Row_get (ro := false) hB0.tx ?_)
  refine bp_bipush (v := 48) (q := 59) 33 rfl rfl (by decide) ?_
  refine bp_icmp_ne (q := 62) (tgt := 66) 34 rfl rfl (by decide) (fun z59 => ?_) (fun z59 => ?_)
  · refine bp_iload_n (q := 67) 37 rfl rfl rfl rfl ?_
    refine bp_putI (q := 70) (ci := 6) (j := 8) 38 rfl rfl fl_TR_131_6 cl6 hB0.kb (fun r hr => by cases hr; rfl) (by decide) rfl rfl ?_
    refine bp_nx (X := fun h1 => TrX A P T h0 h1 i fa me ip ot rs hl ed sy sz co L ps th x ne) (hB0.s8 rfl) (fun h1 hB1 => ?_)
    refine bp_aload_n (q := 71) 39 rfl rfl rfl rfl ?_
    refine bp_iload_n (q := 72) 40 rfl rfl rfl rfl ?_
    refine bp_putI (q := 75) (ci := 6) (j := 9) 41 rfl rfl fl_TR_128_6 cl6 hB1.kb (fun r hr => by cases hr; rfl) (by decide) rfl rfl ?_
    refine bp_nx (X := fun h2 => TrX A P T h0 h2 i fa me ip ot rs hl ed sy sz co L ps th x j) (hB1.s9 rfl) (fun h2 hB2 => ?_)
    refine bp_iload_n (q := 76) 42 rfl rfl rfl rfl ?_
    refine bp_iload_n (q := 77) 43 rfl rfl rfl rfl ?_
    refine bp_isub (q := 78) 44 rfl rfl ?_
    rw [nI_sub hkj]
    refine bp_iconst (v := 1) (q := 79) 45 rfl rfl (by decide) ?_
    refine bp_iconst (v := 5) (q := 80) 46 rfl rfl (by decide) ?_
    refine bp_callS (q := 83) 47 rfl rfl cw_X_isWithin lk_TR_102 wd653 rfl rfl (Nat.le_of_ble_eq_true rfl) ⟨Nat.le_of_ble_eq_true rfl, Nat.le_of_ble_eq_true rfl⟩ (s_X_isWithin (ro := false) ?_)
    refine bp_iret 48 rfl rfl (bI_nar _) ⟨_, rfl, ?_⟩
    rw [wi_d hkj hj]
    refine hQ _ ?_
    rw [if_neg (mt (rg_is hT (k := k) (v := 48) (by omega) (by decide) (by decide)).mpr z59)]
    exact hB2
  · refine bp_iconst (v := -1) (q := 63) 35 rfl rfl (by decide) ?_
    refine bp_goto (tgt := 67) 36 rfl (by decide) ?_
    refine bp_putI (q := 70) (ci := 6) (j := 8) 38 rfl rfl fl_TR_131_6 cl6 hB0.kb (fun r hr => by cases hr; rfl) (by decide) rfl rfl ?_
    refine bp_nx (X := fun h1 => TrX A P T h0 h1 i fa me ip ot rs hl ed sy sz co L ps th 4294967295 ne) (hB0.s8 m1_nI.symm) (fun h1 hB1 => ?_)
    refine bp_aload_n (q := 71) 39 rfl rfl rfl rfl ?_
    refine bp_iload_n (q := 72) 40 rfl rfl rfl rfl ?_
    refine bp_putI (q := 75) (ci := 6) (j := 9) 41 rfl rfl fl_TR_128_6 cl6 hB1.kb (fun r hr => by cases hr; rfl) (by decide) rfl rfl ?_
    refine bp_nx (X := fun h2 => TrX A P T h0 h2 i fa me ip ot rs hl ed sy sz co L ps th 4294967295 j) (hB1.s9 rfl) (fun h2 hB2 => ?_)
    refine bp_iload_n (q := 76) 42 rfl rfl rfl rfl ?_
    refine bp_iload_n (q := 77) 43 rfl rfl rfl rfl ?_
    refine bp_isub (q := 78) 44 rfl rfl ?_
    rw [nI_sub hkj]
    refine bp_iconst (v := 1) (q := 79) 45 rfl rfl (by decide) ?_
    refine bp_iconst (v := 5) (q := 80) 46 rfl rfl (by decide) ?_
    refine bp_callS (q := 83) 47 rfl rfl cw_X_isWithin lk_TR_102 wd653 rfl rfl (Nat.le_of_ble_eq_true rfl) ⟨Nat.le_of_ble_eq_true rfl, Nat.le_of_ble_eq_true rfl⟩ (s_X_isWithin (ro := false) ?_)
    refine bp_iret 48 rfl rfl (bI_nar _) ⟨_, rfl, ?_⟩
    rw [wi_d hkj hj]
    refine hQ _ ?_
    rw [if_pos ((rg_is hT (k := k) (v := 48) (by omega) (by decide) (by decide)).mp z59)]
    exact hB2
set_option maxRecDepth 100000 in
set_option maxHeartbeats 4000000 in
theorem lp_TR_num {k : Nat} (hT : okT T) (hB0 : TrX A P T h0 h i fa me ip ot rs hl ed sy sz co L ps th nu ne) (hk : k < 1000) : ∀ (m j x : Nat), m + j = k + 6 → k ≤ j → (∀ h', TrX A P T h0 h' i fa me ip ot rs hl ed sy sz co L ps th ((if tc T k = 48 then 4294967295 else (dgT T m j x).2)) ((dgT T m j x).1) → Q (some (.int (bI (decide (k < (dgT T m j x).1) && decide ((dgT T m j x).1 ≤ k + 5))))) h' c s) → bp_A l G H0 (1, 22, false, false) M_TR_readNumber h c s 4 [some (.ref (A 0)), some (.int (nI k)), some (.int (nI x)), some (.int (nI j))] [] (fun o h' c' s' => ∃ v, o = .returned v ∧ Q v h' c' s') := by
  intro m
  induction m with
  | zero =>
    intro j x hm hkj hQ
    refine bp_iload_n (q := 5) 4 rfl rfl rfl rfl ?_
    refine bp_iload_n (q := 6) 5 rfl rfl rfl rfl ?_
    refine bp_isub (q := 7) 6 rfl rfl ?_
    rw [nI_sub hkj]
    refine bp_iconst (v := 5) (q := 8) 7 rfl rfl (by decide) ?_
    refine bp_icmp_gt (q := 11) (tgt := 48) 8 rfl rfl (by decide) (fun z8 => ?_) (fun z8 => ?_)
    · exact tl_TR_num hT hB0 hkj (by omega) hQ
    · exact absurd (nI_lt (a := 5) (b := j - k) (by omega) (by omega)) z8
  | succ m ih =>
    intro j x hm hkj hQ
    refine bp_iload_n (q := 5) 4 rfl rfl rfl rfl ?_
    refine bp_iload_n (q := 6) 5 rfl rfl rfl rfl ?_
    refine bp_isub (q := 7) 6 rfl rfl ?_
    rw [nI_sub hkj]
    refine bp_iconst (v := 5) (q := 8) 7 rfl rfl (by decide) ?_
    refine bp_icmp_gt (q := 11) (tgt := 48) 8 rfl rfl (by decide) (fun z8 => ?_) (fun z8 => ?_)
    · exact absurd z8 (nI_nlt (a := 5) (b := j - k) (by omega) (by decide))
    · refine bp_aload_n (q := 12) 9 rfl rfl rfl rfl ?_
      refine bp_getR (x := A 1) (q := 15) (ci := 6) (j := 10) 10 rfl rfl fl_TR_19_6 hB0.kb rfl hB0.r10 ?_
      refine bp_iload_n (q := 16) 11 rfl rfl rfl rfl ?_
      refine bp_callV (q := 19) (ci := 1) 12 rfl rfl cw_Row_get lk_TR_27 rfl hB0.kx wd438 wd439 rfl rfl (Nat.le_of_ble_eq_true rfl) ⟨Nat.le_of_ble_eq_true rfl, Nat.le_of_ble_eq_true rfl⟩ (s_Row_get (ro := false) hB0.tx ?_)
      refine bp_callS (q := 22) 13 rfl rfl cw_X_isDigit lk_TR_134 wd638 rfl rfl (Nat.le_of_ble_eq_true rfl) ⟨Nat.le_of_ble_eq_true rfl, Nat.le_of_ble_eq_true rfl⟩ (s_X_isDigit (ro := false) ?_)
      refine bp_if_eq (q := 25) (tgt := 48) 14 rfl rfl (by decide) (fun z22 => ?_) (fun z22 => ?_)
      · have yd := bI0.mp z22
        rw [dgL_rg hT (by omega)] at yd
        refine tl_TR_num hT hB0 hkj (by omega) (fun h9 hB9 => ?_)
        have eD : dgT T (m + 1) j x = (j, x) := by rw [dgT, if_neg (by rw [yd]; decide)]
        have q := hQ h9
        rw [eD] at q
        exact q hB9
      · refine bp_bipush (v := 10) (q := 27) 15 rfl rfl (by decide) ?_
        have yd := bI1 z22
        rw [dgL_rg hT (by omega)] at yd
        have hkl := dg_in yd
        have hd48 : 48 ≤ tc T j := by unfold dgL at yd; simp at yd; exact yd.1
        refine bp_iload_n (q := 28) 16 rfl rfl rfl rfl ?_
        refine bp_imul (q := 29) 17 rfl rfl ?_
        refine bp_aload_n (q := 30) 18 rfl rfl rfl rfl ?_
        refine bp_getR (x := A 1) (q := 33) (ci := 6) (j := 10) 19 rfl rfl fl_TR_19_6 hB0.kb rfl hB0.r10 ?_
        refine bp_iload_n (q := 34) 20 rfl rfl rfl rfl ?_
        refine bp_callV (q := 37) (ci := 1) 21 rfl rfl cw_Row_get lk_TR_27 rfl hB0.kx wd438 wd439 rfl rfl (Nat.le_of_ble_eq_true rfl) ⟨Nat.le_of_ble_eq_true rfl, Nat.le_of_ble_eq_true rfl⟩ (s_Row_get (ro := false) hB0.tx ?_)
        rw [rg_in hT hkl]
        refine bp_iadd (q := 38) 22 rfl rfl ?_
        refine bp_bipush (v := 48) (q := 40) 23 rfl rfl (by decide) ?_
        refine bp_isub (q := 41) 24 rfl rfl ?_
        rw [dg_val hd48]
        refine bp_istore_n (q := 42) 25 rfl rfl rfl (by decide) (bp_up2 rfl) ?_
        refine bp_iinc (v := nI (j + 1)) (q := 45) 26 rfl rfl rfl (nI_1 j) (by decide) (bp_up3 rfl) ?_
        refine bp_goto (tgt := 4) 27 rfl (by decide) ?_
        refine ih (j + 1) _ (by omega) (by omega) (fun h9 hB9 => ?_)
        have q := hQ h9
        rw [dgT, if_pos yd] at q
        exact q hB9
set_option maxRecDepth 100000 in
set_option maxHeartbeats 4000000 in
theorem s_TR_readNumber {k : Nat} (hB0 : TrX A P T h0 h i fa me ip ot rs hl ed sy sz co L ps th nu ne) (hT : okT T) (hk : k < 1000) (hQ : ∀ h', TrX A P T h0 h' i fa me ip ot rs hl ed sy sz co L ps th (tnV T k) (tnE T k) → Q (some (.int (bI (tnOk T k)))) h' c s) : bp_AM l G H0 (1, 22, false, false) M_TR_readNumber h c s [.ref (A 0), .int (nI k)] Q := by
  refine bp_of (ls := [some (.ref (A 0)), some (.int (nI k)), none, none]) (by decide) dt_TR_readNumber (Nat.le_of_ble_eq_true rfl) (fun q hq => hq) false ?_
  refine bp_iconst (v := 0) (q := 1) 0 rfl rfl (by decide) ?_
  refine bp_istore_n (q := 2) 1 rfl rfl rfl (by decide) (bp_up2 rfl) ?_
  refine bp_iload_n (q := 3) 2 rfl rfl rfl rfl ?_
  refine bp_istore_n (q := 4) 3 rfl rfl rfl (by decide) (bp_up3 rfl) ?_
  exact lp_TR_num hT hB0 hk 6 k 0 (by omega) (Nat.le_refl _) hQ
end TR1
