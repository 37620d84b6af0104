/-! the braced reader: its end, its start, the whole reading -/
theorem p_stN' {ps : List (Nat × Nat × Nat)} {p : Nat} (hn : ps.length ≤ 16) (hp : p ≤ ps.length) : p_st ps (nI p) = nI (pst ps p) := by
  unfold p_st pst
  by_cases e : p = 0
  · subst e
    rw [if_pos (Or.inl (by decide)), if_pos rfl]; rfl
  · obtain ⟨m, rfl⟩ : ∃ m, p = m + 1 := ⟨p - 1, by omega⟩
    rw [nI_pred, if_neg (fun z => z.elim (nI_pos (by omega)) (nI_ge (by omega) (by omega))), if_neg e, nI_clamp (by omega), Nat.add_sub_cancel]
section BR5
variable {l : Launch} {G : bp_G} {H0 : Heap} {mx c0 s0 : Nat} {A P : Nat → Nat} {T : List Nat} {h0 : bp_H} {na0 : Nat} {h : bp_H} {na i : Nat} {fa me : Int32} {lv : Nat} {fr it en : Bool} {v : Nat → Nat} {nt : List (Nat → Nat)} {tb nm : List Nat} {L : List (Nat × Nat)} {ps : List (Nat × Nat × Nat)} {th w : Nat} {n : Int32} {d c s : Nat} {Q : Option Value → bp_H → Nat → Nat → Prop}
set_option maxRecDepth 100000 in
set_option maxHeartbeats 4000000 in
theorem tl_BR_fin {kk : Option Value} (hB0 : BrX mx c0 s0 A P T h0 na0 h na i fa me lv fr it en v nt tb nm L ps th w n d c s) (okp : okP L ps) (hQ : ∀ h' τ', Br mx c0 s0 A P T h0 na0 h' na (if pst ps ps.length < L.length then bPar T.length 0 0 (i, fa, me, lv, fr, it, en, v, nt, tb, nm, L, ps) else (i, fa, me, lv, fr, it, en, v, nt, tb, nm, L, ps)) τ' c s → Q none h' c s) : bp_A l G H0 (3, 64, false, false) M_BR_finish h c s 64 [some (.ref (A 0)), kk] [] (fun o h' c' s' => ∃ v, o = .returned v ∧ Q v h' c' s') := by
  refine bp_aload_n (q := 65) 31 rfl rfl rfl rfl ?_
  refine bp_getR (x := P 0) (q := 68) (ci := 3) (j := 12) 32 rfl rfl fl_BR_90_3 hB0.kb rfl hB0.r12 ?_
  refine bp_callV (q := 71) (ci := 2) 33 rfl rfl cw_Page_hasLooseLetters lk_BR_94 rfl hB0.kp wd832 wd833 rfl rfl (Nat.le_of_ble_eq_true rfl) ⟨Nat.le_of_ble_eq_true rfl, Nat.le_of_ble_eq_true rfl⟩ (s_Page_hasLoose (ro := false) hB0.pg ?_)
  refine bp_if_eq (q := 74) (tgt := 91) 34 rfl rfl (by decide) (fun z71 => ?_) (fun z71 => ?_)
  · refine bp_vret 44 rfl rfl  ⟨_, rfl, ?_⟩
    rw [p_stN' okp.2.1 (Nat.le_refl _)] at z71
    have y : ¬ pst ps ps.length < L.length := fun q => by rw [if_neg (nI_ge q (by have := okp.1; omega))] at z71; exact absurd z71 (by decide)
    exact hQ _ _ (Br.cast (τ := (th, w, n, d)) (if_neg y) hB0)
  · refine bp_aload_n (q := 75) 35 rfl rfl rfl rfl ?_
    refine bp_aload_n (q := 76) 36 rfl rfl rfl rfl ?_
    refine bp_getR (x := A 6) (q := 79) (ci := 3) (j := 11) 37 rfl rfl fl_BR_52_3 hB0.kb rfl hB0.r11 ?_
    refine bp_callV (q := 82) (ci := 1) 38 rfl rfl cw_Row_size lk_BR_86 rfl hB0.kx wd455 wd456 rfl rfl (Nat.le_of_ble_eq_true rfl) ⟨Nat.le_of_ble_eq_true rfl, Nat.le_of_ble_eq_true rfl⟩ (s_Row_size (ro := false) hB0.tx ?_)
    refine bp_putI (q := 85) (ci := 3) (j := 14) 39 rfl rfl fl_BR_100_3 cl3 hB0.kb (fun r hr => by cases hr; rfl) (by decide) rfl rfl ?_
    refine bp_nx (X := fun h1 => BrX mx c0 s0 A P T h0 na0 h1 na i fa me lv fr it en v nt tb nm L ps T.length w n d c s) (hB0.s14 rfl) (fun h1 hB1 => ?_)
    refine bp_aload_n (q := 86) 40 rfl rfl rfl rfl ?_
    refine bp_iconst (v := 0) (q := 87) 41 rfl rfl (by decide) ?_
    refine bp_iconst (v := 0) (q := 88) 42 rfl rfl (by decide) ?_
    refine bp_callV (q := 91) (ci := 3) 43 rfl rfl cw_BR_endParagraph lk_BR_103 rfl hB1.kb wd675 wd14 rfl rfl (Nat.le_of_ble_eq_true rfl) ⟨Nat.le_of_ble_eq_true rfl, Nat.le_of_ble_eq_true rfl⟩ (s_BR_endParagraph (x := 0) (y := 0) hB1 (fun h2 hX => ?_))
    refine bp_vret 44 rfl rfl  ⟨_, rfl, ?_⟩
    rw [p_stN' okp.2.1 (Nat.le_refl _)] at z71
    have y : pst ps ps.length < L.length := Nat.not_le.mp (fun q => by rw [if_pos (nI_le q (by have := okp.1; have := pst_le okp (Nat.le_refl _); omega))] at z71; exact z71 rfl)
    exact hQ _ _ (Br.cast (if_pos y) hX)
set_option maxRecDepth 100000 in
set_option maxHeartbeats 4000000 in
theorem lp_BR_fin (hT : okT T) (hB0 : BrX mx c0 s0 A P T h0 na0 h na i fa me lv fr it en v nt tb nm L ps th w n d c s) (okp : okP L ps) : ∀ (m k : Nat), T.length ≤ m + k → k ≤ T.length + 1 → (∀ h' τ', Br mx c0 s0 A P T h0 na0 h' na (if nlE T m k < T.length then (i, -3, nI (nlE T m k), lv, fr, it, en, v, nt, tb, nm, L, ps) else (if pst ps ps.length < L.length then bPar T.length 0 0 (i, fa, me, lv, fr, it, en, v, nt, tb, nm, L, ps) else (i, fa, me, lv, fr, it, en, v, nt, tb, nm, L, ps))) τ' c s → Q none h' c s) → bp_A l G H0 (3, 64, false, false) M_BR_finish h c s 26 [some (.ref (A 0)), some (.int (nI k))] [] (fun o h' c' s' => ∃ v, o = .returned v ∧ Q v h' c' s') := by
  have hT1 := hT.1
  intro m
  induction m with
  | zero =>
    intro k hm hk hQ
    refine bp_iload_n (q := 27) 13 rfl rfl rfl rfl ?_
    refine bp_aload_n (q := 28) 14 rfl rfl rfl rfl ?_
    refine bp_getR (x := A 6) (q := 31) (ci := 3) (j := 11) 15 rfl rfl fl_BR_52_3 hB0.kb rfl hB0.r11 ?_
    refine bp_callV (q := 34) (ci := 1) 16 rfl rfl cw_Row_size lk_BR_86 rfl hB0.kx wd455 wd456 rfl rfl (Nat.le_of_ble_eq_true rfl) ⟨Nat.le_of_ble_eq_true rfl, Nat.le_of_ble_eq_true rfl⟩ (s_Row_size (ro := false) hB0.tx ?_)
    refine bp_icmp_ge (q := 37) (tgt := 64) 17 rfl rfl (by decide) (fun z34 => ?_) (fun z34 => ?_)
    · refine tl_BR_fin hB0 okp (fun h9 τ9 hB9 => hQ h9 τ9 ?_)
      exact Br.cast (if_neg (by show ¬ k < T.length; omega)) hB9
    · exact absurd (nI_le (by omega) (by omega)) z34
  | succ m ih =>
    intro k hm hk hQ
    refine bp_iload_n (q := 27) 13 rfl rfl rfl rfl ?_
    refine bp_aload_n (q := 28) 14 rfl rfl rfl rfl ?_
    refine bp_getR (x := A 6) (q := 31) (ci := 3) (j := 11) 15 rfl rfl fl_BR_52_3 hB0.kb rfl hB0.r11 ?_
    refine bp_callV (q := 34) (ci := 1) 16 rfl rfl cw_Row_size lk_BR_86 rfl hB0.kx wd455 wd456 rfl rfl (Nat.le_of_ble_eq_true rfl) ⟨Nat.le_of_ble_eq_true rfl, Nat.le_of_ble_eq_true rfl⟩ (s_Row_size (ro := false) hB0.tx ?_)
    refine bp_icmp_ge (q := 37) (tgt := 64) 17 rfl rfl (by decide) (fun z34 => ?_) (fun z34 => ?_)
    · have y := (nI_le_iff (by omega) (by omega)).mp z34
      refine tl_BR_fin hB0 okp (fun h9 τ9 hB9 => hQ h9 τ9 ?_)
      have es : nlE T (m + 1) k = k := by rw [nlE, if_neg (by rw [tc_out y]; decide)]
      rw [es]
      exact Br.cast (if_neg (by omega)) hB9
    · refine bp_aload_n (q := 38) 18 rfl rfl rfl rfl ?_
      refine bp_getR (x := A 6) (q := 41) (ci := 3) (j := 11) 19 rfl rfl fl_BR_52_3 hB0.kb rfl hB0.r11 ?_
      refine bp_iload_n (q := 42) 20 rfl rfl rfl rfl ?_
      refine bp_callV (q := 45) (ci := 1) 21 rfl rfl cw_Row_get lk_BR_56 rfl hB0.kx wd438 wd439 rfl rfl (Nat.le_of_ble_eq_true rfl) ⟨Nat.le_of_ble_eq_true rfl, Nat.le_of_ble_eq_true rfl⟩ (s_Row_get (ro := false) hB0.tx ?_)
      rw [rg_in hT (Nat.not_le.mp (mt (nI_le_iff (by omega) (by omega)).mpr z34))]
      refine bp_bipush (v := 10) (q := 47) 22 rfl rfl (by decide) ?_
      refine bp_icmp_eq (q := 50) (tgt := 58) 23 rfl rfl (by decide) (fun z47 => ?_) (fun z47 => ?_)
      · refine bp_iinc (v := nI (k + 1)) (q := 61) 29 rfl rfl rfl (nI_1 k) (by decide) (bp_up1 rfl) ?_
        refine bp_goto (tgt := 26) 30 rfl (by decide) ?_
        have y : tc T k = 10 := (nI_eq_iff (b := 10) (by have := tc_lt hT k; omega) (by decide)).mp z47
        have hk0 : ¬ T.length ≤ k := mt (nI_le_iff (by omega) (by omega)).mpr z34
        refine ih (k + 1) (by omega) (by omega) (fun h9 τ9 hB9 => hQ h9 τ9 ?_)
        rw [nlE, if_pos y]
        exact hB9
      · refine bp_aload_n (q := 51) 24 rfl rfl rfl rfl ?_
        refine bp_bipush (v := -3) (q := 53) 25 rfl rfl (by decide) ?_
        refine bp_iload_n (q := 54) 26 rfl rfl rfl rfl ?_
        refine bp_callU (q := 57) (ci := 3) (owner := "BracedPages$Reader") 27 rfl rfl cw_Rd_failAt wd441 wd442 (Or.inr rfl) ⟨by decide, by decide⟩ rfl rfl hB0.kb wd445 wd444 rfl rfl (Nat.le_of_ble_eq_true rfl) ⟨Nat.le_of_ble_eq_true rfl, Nat.le_of_ble_eq_true rfl⟩ (s_BR_failAt hB0 (fun h1 hB1 => ?_))
        refine bp_vret 28 rfl rfl  ⟨_, rfl, hQ _ (th, w, n, d) ?_⟩
        have y : ¬ tc T k = 10 := fun q => z47 (by rw [q]; rfl)
        have hk0 : ¬ T.length ≤ k := mt (nI_le_iff (by omega) (by omega)).mpr z34
        rw [nlE, if_neg y, if_pos (by omega)]
        exact hB1
set_option maxRecDepth 100000 in
set_option maxHeartbeats 4000000 in
theorem s_BR_finish  (hB0 : BrX mx c0 s0 A P T h0 na0 h na i fa me lv fr it en v nt tb nm L ps th w n d c s) (hT : okT T) (okp : okP L ps) (hi : i ≤ T.length + 1) (hQ : ∀ h' τ', Br mx c0 s0 A P T h0 na0 h' na (bFin T (i, fa, me, lv, fr, it, en, v, nt, tb, nm, L, ps)) τ' c s → Q none h' c s) : bp_AM l G H0 (3, 64, false, false) M_BR_finish h c s [.ref (A 0)] Q := by
  refine bp_of (ls := [some (.ref (A 0)), none]) (by decide) dt_BR_finish (Nat.le_of_ble_eq_true rfl) (fun q hq => hq) false ?_
  refine bp_aload_n (q := 1) 0 rfl rfl rfl rfl ?_
  refine bp_getI (q := 4) (ci := 3) (j := 4) 1 rfl rfl fl_BR_39_3 hB0.kb rfl ?_
  rw [hB0.i4]
  refine bp_if_ne (q := 7) (tgt := 21) 2 rfl rfl (by decide) (fun z4 => ?_) (fun z4 => ?_)
  · refine bp_aload_n (q := 22) 10 rfl rfl rfl rfl ?_
    refine bp_getI (q := 25) (ci := 3) (j := 13) 11 rfl rfl fl_BR_66_3 hB0.kb rfl ?_
    rw [hB0.i13]
    refine bp_istore_n (q := 26) 12 rfl rfl rfl (by decide) (bp_up1 rfl) ?_
    have y : en = true := bI1 z4
    refine lp_BR_fin hT hB0 okp (T.length - i) i (by omega) hi (fun h9 τ9 hB9 => hQ h9 τ9 ?_)
    have e_ : bFin T (i, fa, me, lv, fr, it, en, v, nt, tb, nm, L, ps) = (if nlE T (T.length - i) i < T.length then (i, -3, nI (nlE T (T.length - i) i), lv, fr, it, en, v, nt, tb, nm, L, ps) else (if pst ps ps.length < L.length then bPar T.length 0 0 (i, fa, me, lv, fr, it, en, v, nt, tb, nm, L, ps) else (i, fa, me, lv, fr, it, en, v, nt, tb, nm, L, ps))) := if_neg (by rw [y]; decide)
    rw [e_]
    exact hB9
  · refine bp_aload_n (q := 8) 3 rfl rfl rfl rfl ?_
    refine bp_bipush (v := -2) (q := 10) 4 rfl rfl (by decide) ?_
    refine bp_aload_n (q := 11) 5 rfl rfl rfl rfl ?_
    refine bp_getR (x := A 6) (q := 14) (ci := 3) (j := 11) 6 rfl rfl fl_BR_52_3 hB0.kb rfl hB0.r11 ?_
    refine bp_callV (q := 17) (ci := 1) 7 rfl rfl cw_Row_size lk_BR_86 rfl hB0.kx wd455 wd456 rfl rfl (Nat.le_of_ble_eq_true rfl) ⟨Nat.le_of_ble_eq_true rfl, Nat.le_of_ble_eq_true rfl⟩ (s_Row_size (ro := false) hB0.tx ?_)
    refine bp_callU (q := 20) (ci := 3) (owner := "BracedPages$Reader") 8 rfl rfl cw_Rd_failAt wd441 wd442 (Or.inr rfl) ⟨by decide, by decide⟩ rfl rfl hB0.kb wd445 wd444 rfl rfl (Nat.le_of_ble_eq_true rfl) ⟨Nat.le_of_ble_eq_true rfl, Nat.le_of_ble_eq_true rfl⟩ (s_BR_failAt hB0 (fun h1 hB1 => ?_))
    refine bp_vret 9 rfl rfl  ⟨_, rfl, hQ _ (th, w, n, d) ?_⟩
    have y : en = false := bI0.mp z4
    have e_ : bFin T (i, fa, me, lv, fr, it, en, v, nt, tb, nm, L, ps) = (i, -2, nI T.length, lv, fr, it, en, v, nt, tb, nm, L, ps) := if_pos y
    rw [e_]
    exact hB1
set_option maxRecDepth 100000 in
set_option maxHeartbeats 4000000 in
theorem s_BR_start  (hB0 : BrX mx c0 s0 A P T h0 na0 h na 0 0 (-1) lv fr it en v nt tb nm [] [] th w n d c s) (hT : okT T) (hQ : ∀ h', Br mx c0 s0 A P T h0 na0 h' na (bStart T nm) (th, w, n, d) c s → Q none h' c s) : bp_AM l G H0 (2, 40, false, false) M_BR_start h c s [.ref (A 0)] Q := by
  refine bp_of (ls := [some (.ref (A 0))]) (by decide) dt_BR_start (Nat.le_of_ble_eq_true rfl) (fun q hq => hq) false ?_
  refine bp_aload_n (q := 1) 0 rfl rfl rfl rfl ?_
  refine bp_getR (x := A 1) (q := 4) (ci := 3) (j := 0) 1 rfl rfl fl_BR_14_3 hB0.kb rfl hB0.r0 ?_
  refine bp_callV (q := 7) (ci := 4) 2 rfl rfl cw_St_reset lk_BR_31 rfl hB0.ko wd426 wd427 rfl rfl (Nat.le_of_ble_eq_true rfl) ⟨Nat.le_of_ble_eq_true rfl, Nat.le_of_ble_eq_true rfl⟩ (s_St_reset hB0.so (fun h1 hS1 f1 => ?_))
  have hB1 := hB0.o hS1 f1
  refine bp_aload_n (q := 8) 3 rfl rfl rfl rfl ?_
  refine bp_getR (x := A 3) (q := 11) (ci := 3) (j := 2) 4 rfl rfl fl_BR_27_3 hB1.kb rfl hB1.r2 ?_
  refine bp_callV (q := 14) (ci := 5) 5 rfl rfl cw_CT_reset lk_BR_34 rfl hB1.kt wd434 wd435 rfl rfl (Nat.le_of_ble_eq_true rfl) ⟨Nat.le_of_ble_eq_true rfl, Nat.le_of_ble_eq_true rfl⟩ (s_CT_reset hB1.ct (fun h2 hC2 f2 => ?_))
  have hB2 := hB1.t hC2 (f2.wk (fun x z => z.elim Or.inl (fun y => Or.inr (Or.inl y))))
  refine bp_aload_n (q := 15) 6 rfl rfl rfl rfl ?_
  refine bp_iconst (v := 0) (q := 16) 7 rfl rfl (by decide) ?_
  refine bp_putI (q := 19) (ci := 3) (j := 3) 8 rfl rfl fl_BR_35_3 cl3 hB2.kb (fun r hr => by cases hr; rfl) (by decide) rfl rfl ?_
  refine bp_nx (X := fun h3 => BrX mx c0 s0 A P T h0 na0 h3 na 0 0 (-1) lv fr it en vStart [] [0] nm [] [] th w n d c s) (hB2.clr rfl) (fun h3 hB3 => ?_)
  refine bp_aload_n (q := 20) 9 rfl rfl rfl rfl ?_
  refine bp_iconst (v := 0) (q := 21) 10 rfl rfl (by decide) ?_
  refine bp_putI (q := 24) (ci := 3) (j := 4) 11 rfl rfl fl_BR_39_3 cl3 hB3.kb (fun r hr => by cases hr; rfl) (by decide) rfl rfl ?_
  refine bp_nx (X := fun h4 => BrX mx c0 s0 A P T h0 na0 h4 na 0 0 (-1) lv fr it false vStart [] [0] nm [] [] th w n d c s) (hB3.s4 rfl) (fun h4 hB4 => ?_)
  refine bp_aload_n (q := 25) 12 rfl rfl rfl rfl ?_
  refine bp_iconst (v := 0) (q := 26) 13 rfl rfl (by decide) ?_
  refine bp_putI (q := 29) (ci := 3) (j := 5) 14 rfl rfl fl_BR_43_3 cl3 hB4.kb (fun r hr => by cases hr; rfl) (by decide) rfl rfl ?_
  refine bp_nx (X := fun h5 => BrX mx c0 s0 A P T h0 na0 h5 na 0 0 (-1) lv false it false vStart [] [0] nm [] [] th w n d c s) (hB4.s5 rfl) (fun h5 hB5 => ?_)
  refine bp_aload_n (q := 30) 15 rfl rfl rfl rfl ?_
  refine bp_iconst (v := 0) (q := 31) 16 rfl rfl (by decide) ?_
  refine bp_putI (q := 34) (ci := 3) (j := 6) 17 rfl rfl fl_BR_46_3 cl3 hB5.kb (fun r hr => by cases hr; rfl) (by decide) rfl rfl ?_
  refine bp_nx (X := fun h6 => BrX mx c0 s0 A P T h0 na0 h6 na 0 0 (-1) 0 false it false vStart [] [0] nm [] [] th w n d c s) (hB5.s6 rfl) (fun h6 hB6 => ?_)
  refine bp_aload_n (q := 35) 18 rfl rfl rfl rfl ?_
  refine bp_iconst (v := 0) (q := 36) 19 rfl rfl (by decide) ?_
  refine bp_putI (q := 39) (ci := 3) (j := 7) 20 rfl rfl fl_BR_49_3 cl3 hB6.kb (fun r hr => by cases hr; rfl) (by decide) rfl rfl ?_
  refine bp_nx (X := fun h7 => BrX mx c0 s0 A P T h0 na0 h7 na 0 0 (-1) 0 false false false vStart [] [0] nm [] [] th w n d c s) (hB6.s7 rfl) (fun h7 hB7 => ?_)
  refine bp_aload_n (q := 40) 21 rfl rfl rfl rfl ?_
  refine bp_getR (x := A 6) (q := 43) (ci := 3) (j := 11) 22 rfl rfl fl_BR_52_3 hB7.kb rfl hB7.r11 ?_
  refine bp_iconst (v := 0) (q := 44) 23 rfl rfl (by decide) ?_
  refine bp_callV (q := 47) (ci := 1) 24 rfl rfl cw_Row_get lk_BR_56 rfl hB7.kx wd438 wd439 rfl rfl (Nat.le_of_ble_eq_true rfl) ⟨Nat.le_of_ble_eq_true rfl, Nat.le_of_ble_eq_true rfl⟩ (s_Row_get (ro := false) hB7.tx ?_)
  refine bp_bipush (v := 123) (q := 49) 25 rfl rfl (by decide) ?_
  refine bp_icmp_eq (q := 52) (tgt := 59) 26 rfl rfl (by decide) (fun z49 => ?_) (fun z49 => ?_)
  · refine bp_vret 31 rfl rfl  ⟨_, rfl, hQ _ ?_⟩
    have y : tc T 0 = 123 := (rg_is hT (k := 0) (v := 123) (by decide) (by decide) (by decide)).mp z49
    rw [bStart, if_pos y]
    exact hB7
  · refine bp_aload_n (q := 53) 27 rfl rfl rfl rfl ?_
    refine bp_bipush (v := -2) (q := 55) 28 rfl rfl (by decide) ?_
    refine bp_iconst (v := 0) (q := 56) 29 rfl rfl (by decide) ?_
    refine bp_callU (q := 59) (ci := 3) (owner := "BracedPages$Reader") 30 rfl rfl cw_Rd_failAt wd441 wd442 (Or.inr rfl) ⟨by decide, by decide⟩ rfl rfl hB7.kb wd445 wd444 rfl rfl (Nat.le_of_ble_eq_true rfl) ⟨Nat.le_of_ble_eq_true rfl, Nat.le_of_ble_eq_true rfl⟩ (s_BR_failAt hB7 (fun h8 hB8 => ?_))
    refine bp_vret 31 rfl rfl  ⟨_, rfl, hQ _ ?_⟩
    have y : ¬ tc T 0 = 123 := mt (rg_is hT (k := 0) (v := 123) (by decide) (by decide) (by decide)).mpr z49
    rw [bStart, if_neg y]
    exact hB8
set_option maxRecDepth 100000 in
set_option maxHeartbeats 4000000 in
theorem tl_BR_read {kk : Option Value} (hB0 : BrX mx c0 s0 A P T h0 na0 h na i fa me lv fr it en v nt tb nm L ps th w n d c s) (hT : okT T) (okp : okP L ps) (hi : i ≤ T.length + 1) (hQ : ∀ h' na' τ' c' s', Br mx c0 s0 A P T h0 na0 h' na' (if fa = 0 then bFin T (i, fa, me, lv, fr, it, en, v, nt, tb, nm, L, ps) else (i, fa, me, lv, fr, it, en, v, nt, tb, nm, L, ps)) τ' c' s' → Q none h' c' s') : bp_A l G H0 (9, 198, false, false) M_Rd_read h c s 88 [some (.ref (A 0)), kk] [] (fun o h' c' s' => ∃ v, o = .returned v ∧ Q v h' c' s') := by
  refine bp_aload_n (q := 89) 42 rfl rfl rfl rfl ?_
  refine bp_getI (q := 92) (ci := 3) (j := 15) 43 rfl rfl fl_Rd_19_3 hB0.kb rfl ?_
  rw [hB0.i15]
  refine bp_if_ne (q := 95) (tgt := 99) 44 rfl rfl (by decide) (fun z92 => ?_) (fun z92 => ?_)
  · exact bp_vret 47 rfl rfl  ⟨_, rfl, hQ _ _ _ _ _ (Br.cast (τ := (th, w, n, d)) (if_neg z92) hB0)⟩
  · refine bp_aload_n (q := 96) 45 rfl rfl rfl rfl ?_
    refine bp_callU (q := 99) (ci := 3) (owner := "BracedPages$Reader") 46 rfl rfl cw_BR_finish wd825 wd827 (Or.inl wd826) ⟨by decide, by decide⟩ rfl rfl hB0.kb wd829 wd828 rfl rfl (Nat.le_of_ble_eq_true rfl) ⟨Nat.le_of_ble_eq_true rfl, Nat.le_of_ble_eq_true rfl⟩ (s_BR_finish hB0 hT okp hi (fun h1 τ1 hX => ?_))
    exact bp_vret 47 rfl rfl  ⟨_, rfl, hQ _ _ _ _ _ (Br.cast (if_pos z92) hX)⟩
set_option maxRecDepth 100000 in
set_option maxHeartbeats 4000000 in
theorem lp_BR_read (hT : okT T) (hmx4 : 400 < mx) (hmx : mx < 100000) : ∀ (m : Nat) {h : bp_H} {na c s : Nat} {τ : Nat × Nat × Int32 × Nat} (k : Nat) (σ : BS), m + k = T.length → Br mx c0 s0 A P T h0 na0 h na σ τ c s → okB T σ → (∀ h' na' τ' c' s', Br mx c0 s0 A P T h0 na0 h' na' (bRes T m σ) τ' c' s' → Q none h' c' s') → bp_A l G H0 (9, 198, false, false) M_Rd_read h c s 28 [some (.ref (A 0)), some (.int (nI k))] [] (fun o h' c' s' => ∃ v, o = .returned v ∧ Q v h' c' s') := by
  have hT1 := hT.1
  intro m
  induction m with
  | zero =>
    intro h na c s τ k σ hm hB ok hQ
    obtain ⟨i, fa, me, lv, fr, it, en, v, nt, tb, nm, L, ps⟩ := σ
    obtain ⟨th, w, n, d⟩ := τ
    have hB0 : BrX mx c0 s0 A P T h0 na0 h na i fa me lv fr it en v nt tb nm L ps th w n d c s := hB
    have ok : okX T i lv it v nt tb nm L ps := ok
    have hi1 := ok.1
    refine bp_iload_n (q := 29) 16 rfl rfl rfl rfl ?_
    refine bp_aload_n (q := 30) 17 rfl rfl rfl rfl ?_
    refine bp_getR (x := A 6) (q := 33) (ci := 3) (j := 11) 18 rfl rfl fl_Rd_9_3 hB0.kb rfl hB0.r11 ?_
    refine bp_callV (q := 36) (ci := 1) 19 rfl rfl cw_Row_size lk_Rd_37 rfl hB0.kx wd455 wd456 rfl rfl (Nat.le_of_ble_eq_true rfl) ⟨Nat.le_of_ble_eq_true rfl, Nat.le_of_ble_eq_true rfl⟩ (s_Row_size (ro := false) hB0.tx ?_)
    refine bp_icmp_ge (q := 39) (tgt := 88) 20 rfl rfl (by decide) (fun z36 => ?_) (fun z36 => ?_)
    · exact tl_BR_read hB0 hT ok.2.2.2.2.2.2.2.2 ok.1 hQ
    · exact absurd (nI_le (by omega) (by omega)) z36
  | succ m ih =>
    intro h na c s τ k σ hm hB ok hQ
    obtain ⟨i, fa, me, lv, fr, it, en, v, nt, tb, nm, L, ps⟩ := σ
    obtain ⟨th, w, n, d⟩ := τ
    have hB0 : BrX mx c0 s0 A P T h0 na0 h na i fa me lv fr it en v nt tb nm L ps th w n d c s := hB
    have ok : okX T i lv it v nt tb nm L ps := ok
    have hi1 := ok.1
    refine bp_iload_n (q := 29) 16 rfl rfl rfl rfl ?_
    refine bp_aload_n (q := 30) 17 rfl rfl rfl rfl ?_
    refine bp_getR (x := A 6) (q := 33) (ci := 3) (j := 11) 18 rfl rfl fl_Rd_9_3 hB0.kb rfl hB0.r11 ?_
    refine bp_callV (q := 36) (ci := 1) 19 rfl rfl cw_Row_size lk_Rd_37 rfl hB0.kx wd455 wd456 rfl rfl (Nat.le_of_ble_eq_true rfl) ⟨Nat.le_of_ble_eq_true rfl, Nat.le_of_ble_eq_true rfl⟩ (s_Row_size (ro := false) hB0.tx ?_)
    refine bp_icmp_ge (q := 39) (tgt := 88) 20 rfl rfl (by decide) (fun z36 => ?_) (fun z36 => ?_)
    · exact absurd ((nI_le_iff (by omega) (by omega)).mp z36) (by omega)
    · refine bp_aload_n (q := 40) 21 rfl rfl rfl rfl ?_
      refine bp_getI (q := 43) (ci := 3) (j := 15) 22 rfl rfl fl_Rd_19_3 hB0.kb rfl ?_
      rw [hB0.i15]
      refine bp_if_ne (q := 46) (tgt := 88) 23 rfl rfl (by decide) (fun z43 => ?_) (fun z43 => ?_)
      · refine tl_BR_read hB0 hT ok.2.2.2.2.2.2.2.2 ok.1 (fun h9 na9 τ9 c9 s9 hB9 => hQ h9 na9 τ9 c9 s9 ?_)
        have e_ : bRes T (m + 1) (i, fa, me, lv, fr, it, en, v, nt, tb, nm, L, ps) = _ := if_pos (Or.inl z43)
        rw [e_]
        exact hB9
      · refine bp_aload_n (q := 47) 24 rfl rfl rfl rfl ?_
        refine bp_getI (q := 50) (ci := 3) (j := 13) 25 rfl rfl fl_Rd_31_3 hB0.kb rfl ?_
        rw [hB0.i13]
        refine bp_aload_n (q := 51) 26 rfl rfl rfl rfl ?_
        refine bp_getR (x := A 6) (q := 54) (ci := 3) (j := 11) 27 rfl rfl fl_Rd_9_3 hB0.kb rfl hB0.r11 ?_
        refine bp_callV (q := 57) (ci := 1) 28 rfl rfl cw_Row_size lk_Rd_37 rfl hB0.kx wd455 wd456 rfl rfl (Nat.le_of_ble_eq_true rfl) ⟨Nat.le_of_ble_eq_true rfl, Nat.le_of_ble_eq_true rfl⟩ (s_Row_size (ro := false) hB0.tx ?_)
        refine bp_icmp_ge (q := 60) (tgt := 88) 29 rfl rfl (by decide) (fun z57 => ?_) (fun z57 => ?_)
        · refine tl_BR_read hB0 hT ok.2.2.2.2.2.2.2.2 ok.1 (fun h9 na9 τ9 c9 s9 hB9 => hQ h9 na9 τ9 c9 s9 ?_)
          have e_ : bRes T (m + 1) (i, fa, me, lv, fr, it, en, v, nt, tb, nm, L, ps) = _ := if_pos (Or.inr (Or.inl ((nI_le_iff (by omega) (by omega)).mp z57)))
          rw [e_]
          exact hB9
        · refine bp_aload_n (q := 61) 30 rfl rfl rfl rfl ?_
          refine bp_callU (q := 64) (ci := 3) (owner := "BracedPages$Reader") 31 rfl rfl cw_BR_isOver wd458 wd460 (Or.inl wd459) ⟨by decide, by decide⟩ rfl rfl hB0.kb wd462 wd461 rfl rfl (Nat.le_of_ble_eq_true rfl) ⟨Nat.le_of_ble_eq_true rfl, Nat.le_of_ble_eq_true rfl⟩ (s_BR_isOver (ro := false) hB0 ?_)
          refine bp_if_eq (q := 67) (tgt := 70) 32 rfl rfl (by decide) (fun z64 => ?_) (fun z64 => ?_)
          · refine bp_aload_n (q := 71) 34 rfl rfl rfl rfl ?_
            refine bp_aload_n (q := 72) 35 rfl rfl rfl rfl ?_
            refine bp_getI (q := 75) (ci := 3) (j := 13) 36 rfl rfl fl_Rd_31_3 hB0.kb rfl ?_
            rw [hB0.i13]
            refine bp_putI (q := 78) (ci := 3) (j := 14) 37 rfl rfl fl_Rd_47_3 cl3 hB0.kb (fun r hr => by cases hr; rfl) (by decide) rfl rfl ?_
            refine bp_nx (X := fun h1 => BrX mx c0 s0 A P T h0 na0 h1 na i fa me lv fr it en v nt tb nm L ps i w n d c s) (hB0.s14 rfl) (fun h1 hB1 => ?_)
            refine bp_aload_n (q := 79) 38 rfl rfl rfl rfl ?_
            have hi : i < T.length := Nat.not_le.mp (mt (nI_le_iff (by omega) (by omega)).mpr z57)
            refine bp_callU (q := 82) (ci := 3) (owner := "BracedPages$Reader") 39 rfl rfl cw_BR_readThing wd467 wd469 (Or.inl wd468) ⟨by decide, by decide⟩ rfl rfl hB1.kb wd471 wd470 rfl rfl (Nat.le_of_ble_eq_true rfl) ⟨Nat.le_of_ble_eq_true rfl, Nat.le_of_ble_eq_true rfl⟩ (s_BR_readThing hB1 hT hi ok hmx4 hmx (fun h2 na2 τ2 c2 s2 hX => ?_))
            refine bp_iinc (v := nI (k + 1)) (q := 85) 40 rfl rfl rfl (nI_1 k) (by decide) (bp_up1 rfl) ?_
            refine bp_goto (tgt := 28) 41 rfl (by decide) ?_
            have e_ : bRes T (m + 1) (i, fa, me, lv, fr, it, en, v, nt, tb, nm, L, ps) = bRes T m (bThing T (i, fa, me, lv, fr, it, en, v, nt, tb, nm, L, ps)) := if_neg (fun q => q.elim (fun q => q z43) (fun q => q.elim (fun q => absurd hi (Nat.not_lt.mpr q)) (fun q => by have y := bI0.mp z64; rw [show en = true from q] at y; cases y)))
            rw [e_] at hQ
            exact ih (k + 1) (bThing T (i, fa, me, lv, fr, it, en, v, nt, tb, nm, L, ps)) (by omega) hX (okB_thing hT (σ := (i, fa, me, lv, fr, it, en, v, nt, tb, nm, L, ps)) ok hi).1 hQ
          · refine bp_goto (tgt := 88) 33 rfl (by decide) ?_
            refine tl_BR_read hB0 hT ok.2.2.2.2.2.2.2.2 ok.1 (fun h9 na9 τ9 c9 s9 hB9 => hQ h9 na9 τ9 c9 s9 ?_)
            have e_ : bRes T (m + 1) (i, fa, me, lv, fr, it, en, v, nt, tb, nm, L, ps) = _ := if_pos (Or.inr (Or.inr (bI1 z64)))
            rw [e_]
            exact hB9
theorem okB_start {T nm : List Nat} (h1 : nm.length ≤ 400) (h2 : ∀ x ∈ nm, x < 128) : okB T (bStart T nm) := by
  have h : okX T 0 0 false vStart [] [0] nm [] [] := ⟨Nat.zero_le _, by decide, okV_start, fun u hu => absurd hu List.not_mem_nil, by decide, ⟨by decide, fun x hx => by rw [List.mem_singleton] at hx; subst hx; decide, fun _ q => nomatch q⟩, ⟨(fun z => nomatch z), h1, h2⟩, ⟨Nat.zero_le _, Nat.zero_le _⟩, ⟨by decide, by decide, fun j hj => absurd hj (Nat.not_lt_zero j), fun k hk => absurd hk (Nat.not_lt_zero k)⟩⟩
  unfold bStart
  split <;> exact h
set_option maxRecDepth 100000 in
set_option maxHeartbeats 4000000 in
theorem s_BR_read  (hB0 : BrX mx c0 s0 A P T h0 na0 h na i fa me lv fr it en v nt tb nm L ps th w n d c s) (hT : okT T) (hmx4 : 400 < mx) (hmx : mx < 100000) (hn1 : nm.length ≤ 400) (hn2 : ∀ x ∈ nm, x < 128) (hQ : ∀ h' na' τ' c' s', Br mx c0 s0 A P T h0 na0 h' na' (bRes T T.length (bStart T nm)) τ' c' s' → Q none h' c' s') : bp_AM l G H0 (9, 198, false, false) M_Rd_read h c s [.ref (A 0)] Q := by
  refine bp_of (ls := [some (.ref (A 0)), none]) (by decide) dt_Rd_read (Nat.le_of_ble_eq_true rfl) (fun q hq => hq) false ?_
  refine bp_aload_n (q := 1) 0 rfl rfl rfl rfl ?_
  refine bp_getR (x := P 0) (q := 4) (ci := 3) (j := 12) 1 rfl rfl fl_Rd_15_3 hB0.kb rfl hB0.r12 ?_
  refine bp_callV (q := 7) (ci := 2) 2 rfl rfl cw_Page_empty lk_Rd_26 rfl hB0.kp wd415 wd416 rfl rfl (Nat.le_of_ble_eq_true rfl) ⟨Nat.le_of_ble_eq_true rfl, Nat.le_of_ble_eq_true rfl⟩ (s_Page_empty hB0.pg (fun h1 hP1 f1 => ?_))
  have hB1 := hB0.p hP1 f1
  refine bp_aload_n (q := 8) 3 rfl rfl rfl rfl ?_
  refine bp_iconst (v := 0) (q := 9) 4 rfl rfl (by decide) ?_
  refine bp_putI (q := 12) (ci := 3) (j := 13) 5 rfl rfl fl_Rd_31_3 cl3 hB1.kb (fun r hr => by cases hr; rfl) (by decide) rfl rfl ?_
  refine bp_nx (X := fun h2 => BrX mx c0 s0 A P T h0 na0 h2 na 0 fa me lv fr it en v nt tb nm [] [] th w n d c s) (hB1.s13 rfl) (fun h2 hB2 => ?_)
  refine bp_aload_n (q := 13) 6 rfl rfl rfl rfl ?_
  refine bp_iconst (v := 0) (q := 14) 7 rfl rfl (by decide) ?_
  refine bp_putI (q := 17) (ci := 3) (j := 15) 8 rfl rfl fl_Rd_19_3 cl3 hB2.kb (fun r hr => by cases hr; rfl) (by decide) rfl rfl ?_
  refine bp_nx (X := fun h3 => BrX mx c0 s0 A P T h0 na0 h3 na 0 0 me lv fr it en v nt tb nm [] [] th w n d c s) (hB2.s15 rfl) (fun h3 hB3 => ?_)
  refine bp_aload_n (q := 18) 9 rfl rfl rfl rfl ?_
  refine bp_iconst (v := -1) (q := 19) 10 rfl rfl (by decide) ?_
  refine bp_putI (q := 22) (ci := 3) (j := 16) 11 rfl rfl fl_Rd_23_3 cl3 hB3.kb (fun r hr => by cases hr; rfl) (by decide) rfl rfl ?_
  refine bp_nx (X := fun h4 => BrX mx c0 s0 A P T h0 na0 h4 na 0 0 (-1) lv fr it en v nt tb nm [] [] th w n d c s) (hB3.s16 rfl) (fun h4 hB4 => ?_)
  refine bp_aload_n (q := 23) 12 rfl rfl rfl rfl ?_
  refine bp_callU (q := 26) (ci := 3) (owner := "BracedPages$Reader") 13 rfl rfl cw_BR_start wd419 wd421 (Or.inl wd420) ⟨by decide, by decide⟩ rfl rfl hB4.kb wd423 wd422 rfl rfl (Nat.le_of_ble_eq_true rfl) ⟨Nat.le_of_ble_eq_true rfl, Nat.le_of_ble_eq_true rfl⟩ (s_BR_start hB4 hT (fun h5 hX => ?_))
  refine bp_iconst (v := 0) (q := 27) 14 rfl rfl (by decide) ?_
  refine bp_istore_n (q := 28) 15 rfl rfl rfl (by decide) (bp_up1 rfl) ?_
  exact lp_BR_read hT hmx4 hmx T.length 0 (bStart T nm) rfl hX (okB_start hn1 hn2) hQ
end BR5
