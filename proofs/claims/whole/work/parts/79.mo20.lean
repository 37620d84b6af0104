/-! the reference's table of colours: its loop -/
theorem ok8_sn {nm : List Nat} {c : Nat} (h : ok8 nm) (hc : 1 ≤ c ∧ c < 256) : ok8 (nm ++ [c]) := fun x hx => by
  rcases List.mem_append.mp hx with q | q
  · exact h x q
  · rw [List.mem_singleton] at q; rw [q]; exact hc
section MO20
variable {l : Launch} {G : bp_G} {H0 : Heap} {M : Nat → Nat} {h0 h : bp_H} {tw : Int32} {i : Nat} {fa : Int32} {fm : Int32} {tl : Int32} {lk : Nat} {al : Nat} {ind : Nat} {sk : Nat} {dp : Nat} {lv : Nat} {fr : Bool} {en : Nat} {nf : Nat} {nn : Nat} {dg : Nat} {nu : Int32} {kd : Nat} {pn : Int32} {pe : Nat} {T : List Nat} {xs : List Nat} {L : List (Nat × Nat)} {ps : List (Nat × Nat × Nat)} {L1 : List (Nat × Nat)} {p1 : List (Nat × Nat × Nat)} {nt : List (Nat → Nat)} {tb : List Nat} {fd : List Nat} {c s : Nat} {Q : Option Value → bp_H → Nat → Nat → Prop} {v : Nat → Nat} {j : Nat}
theorem okX_tab {k lv : Nat} {nt : List (Nat → Nat)} {fd nm : List Nat} {L1 : List (Nat × Nat)} {p1 : List (Nat × Nat × Nat)} (hok : okX T k lv true v nt fd nm L1 p1) : okX T k lv false v nt (if fd = [] then [0] else fd) [] L1 p1 := by
  refine hok.sTb ⟨?_, fun x hx => ?_, fun _ => ?_⟩ ⟨(fun z => nomatch z), Nat.zero_le _, (fun x hx => nomatch hx)⟩
  · by_cases e : fd = []
    · rw [if_pos e]; decide
    · rw [if_neg e]; exact hok.2.2.2.2.2.1.1
  · by_cases e : fd = []
    · rw [if_pos e, List.mem_singleton] at hx; omega
    · rw [if_neg e] at hx; exact hok.2.2.2.2.2.1.2.1 x hx
  · by_cases e : fd = []
    · rw [if_pos e]; decide
    · rw [if_neg e]; exact e
set_option maxRecDepth 100000 in
set_option maxHeartbeats 4000000 in
theorem lp_tableE {k : Nat} {fd nm : List Nat} {x : Int64} {lo5 lo6 : Option Value} (hT : okT T) (hfr : fr = false) (hnt : ¬ nt = []) (hk0 : T.length ≤ k) (hok : okX T k lv true v nt fd nm L1 p1) (hB0 : MoX M h0 h tw k 0 fm tl (mlV v) (v 3) (v 4) (v 5) nt.length lv fr tb.length nf nn dg nu kd pn pe T xs L ps L1 p1 nt tb fd) (hj : j < k) (hQ : ∀ h', OUTB M h0 h' tw tl kd pn pe T xs L ps (k, 0, -1, lv, false, true, false, v, nt, fd, nm, L1, p1) j → Q none h' c s) : bp_A l G H0 (2, 45, false, false) M_Mo_readTable h c s 7 [some (.ref (M 0)), some (.int (nI fd.length)), some (.long x), none, some (.int (nI nm.length)), lo5, lo6] [] (fun o h' c' s' => ∃ v, o = .returned v ∧ Q v h' c' s') := by
  have hT4 := hT.1
  have hki := hok.1
  refine bp_aload_n (q := 8) 6 rfl rfl rfl rfl ?_
  refine bp_getI (q := 11) (ci := 9) (j := 13) 7 rfl rfl fl_Mo_69_9 hB0.kb rfl ?_
  rw [hB0.i13]
  refine bp_if_ne (q := 14) (tgt := 242) 8 rfl rfl (by decide) (fun z => absurd z (by decide)) (fun z11 => ?_)
  refine bp_aload_n (q := 15) 9 rfl rfl rfl rfl ?_
  refine bp_aload_n (q := 16) 10 rfl rfl rfl rfl ?_
  refine bp_getI (q := 19) (ci := 9) (j := 12) 11 rfl rfl fl_Mo_90_9 hB0.kb rfl ?_
  rw [hB0.i12]
  refine bp_callV (q := 22) (ci := 9) 12 rfl rfl cw_Mo_charAt lk_Mo_83 rfl hB0.kb wd1445 wd43 rfl rfl (Nat.le_of_ble_eq_true rfl) ⟨Nat.le_of_ble_eq_true rfl, Nat.le_of_ble_eq_true rfl⟩ (s_Mo_charAt (ro := false) hB0 hT (by omega) ?_)
  refine bp_bipush (v := 125) (q := 24) 13 rfl rfl (by decide) ?_
  refine bp_icmp_eq (q := 27) (tgt := 242) 14 rfl rfl (by decide) (fun z24 => ?_) (fun z24 => ?_)
  · exact absurd z24 (by rw [tc_out hk0]; decide)
  · refine bp_aload_n (q := 28) 15 rfl rfl rfl rfl ?_
    refine bp_aload_n (q := 29) 16 rfl rfl rfl rfl ?_
    refine bp_getI (q := 32) (ci := 9) (j := 12) 17 rfl rfl fl_Mo_90_9 hB0.kb rfl ?_
    rw [hB0.i12]
    refine bp_callV (q := 35) (ci := 9) 18 rfl rfl cw_Mo_charAt lk_Mo_83 rfl hB0.kb wd1445 wd43 rfl rfl (Nat.le_of_ble_eq_true rfl) ⟨Nat.le_of_ble_eq_true rfl, Nat.le_of_ble_eq_true rfl⟩ (s_Mo_charAt (ro := false) hB0 hT (by omega) ?_)
    refine bp_istore (q := 37) 19 rfl rfl (by decide) (bp_up5 rfl) ?_
    refine bp_aload_n (q := 38) 20 rfl rfl rfl rfl ?_
    refine bp_aload_n (q := 39) 21 rfl rfl rfl rfl ?_
    refine bp_getI (q := 42) (ci := 9) (j := 12) 22 rfl rfl fl_Mo_90_9 hB0.kb rfl ?_
    rw [hB0.i12]
    refine bp_aload_n (q := 43) 23 rfl rfl rfl rfl ?_
    refine bp_getI (q := 46) (ci := 9) (j := 1) 24 rfl rfl fl_Mo_63_9 hB0.kb rfl ?_
    rw [hB0.i1]
    refine bp_icmp_lt (q := 49) (tgt := 53) 25 rfl rfl (by decide) (fun z46 => ?_) (fun z46 => ?_)
    · exact absurd ((nI_lt_iff (by omega) (by omega)).mp z46) (by omega)
    · refine bp_iconst (v := 1) (q := 50) 26 rfl rfl (by decide) ?_
      refine bp_goto (tgt := 54) 27 rfl (by decide) ?_
      refine bp_bipush (v := -2) (q := 56) 29 rfl rfl (by decide) ?_
      refine bp_aload_n (q := 57) 30 rfl rfl rfl rfl ?_
      refine bp_getI (q := 60) (ci := 9) (j := 1) 31 rfl rfl fl_Mo_63_9 hB0.kb rfl ?_
      rw [hB0.i1]
      refine bp_callV (q := 63) (ci := 9) 32 rfl rfl cw_Mo_failIf lk_Mo_118 rfl hB0.kb wd1449 wd44 rfl rfl (Nat.le_of_ble_eq_true rfl) ⟨Nat.le_of_ble_eq_true rfl, Nat.le_of_ble_eq_true rfl⟩ (s_Mo_failIf0 hB0 (by decide) rfl (fun h1 hB1 => ?_))
      refine bp_aload_n (q := 64) 33 rfl rfl rfl rfl ?_
      refine bp_iload (q := 66) 34 rfl rfl rfl ?_
      refine bp_bipush (v := 10) (q := 68) 35 rfl rfl (by decide) ?_
      refine bp_icmp_eq (q := 71) (tgt := 90) 36 rfl rfl (by decide) (fun z68 => ?_) (fun z68 => ?_)
      · exact absurd z68 (by rw [tc_out hk0]; decide)
      · refine bp_iload (q := 73) 37 rfl rfl rfl ?_
        refine bp_bipush (v := 59) (q := 75) 38 rfl rfl (by decide) ?_
        refine bp_icmp_eq (q := 78) (tgt := 90) 39 rfl rfl (by decide) (fun z75 => ?_) (fun z75 => ?_)
        · exact absurd z75 (by rw [tc_out hk0]; decide)
        · refine bp_iload (q := 80) 40 rfl rfl rfl ?_
          refine bp_callS (q := 83) 41 rfl rfl cw_Mo_small lk_Mo_162 wd1472 rfl rfl (Nat.le_of_ble_eq_true rfl) ⟨Nat.le_of_ble_eq_true rfl, Nat.le_of_ble_eq_true rfl⟩ (s_Mo_small (ro := false) (by have := tc_lt hT k; omega) ?_)
          refine bp_if_ne (q := 86) (tgt := 90) 42 rfl rfl (by decide) (fun z83 => ?_) (fun z83 => ?_)
          · exact absurd (bI1 z83) (by rw [tc_out hk0]; decide)
          · refine bp_iconst (v := 1) (q := 87) 43 rfl rfl (by decide) ?_
            refine bp_goto (tgt := 91) 44 rfl (by decide) ?_
            refine bp_bipush (v := -6) (q := 93) 46 rfl rfl (by decide) ?_
            refine bp_aload_n (q := 94) 47 rfl rfl rfl rfl ?_
            refine bp_getI (q := 97) (ci := 9) (j := 12) 48 rfl rfl fl_Mo_90_9 hB1.kb rfl ?_
            rw [hB1.i12]
            refine bp_callV (q := 100) (ci := 9) 49 rfl rfl cw_Mo_failIf lk_Mo_118 rfl hB1.kb wd1449 wd44 rfl rfl (Nat.le_of_ble_eq_true rfl) ⟨Nat.le_of_ble_eq_true rfl, Nat.le_of_ble_eq_true rfl⟩ (s_Mo_failIf1 hB1 (by decide) ?_)
            refine bp_iload (q := 102) 50 rfl rfl rfl ?_
            refine bp_callS (q := 105) 51 rfl rfl cw_Mo_small lk_Mo_162 wd1472 rfl rfl (Nat.le_of_ble_eq_true rfl) ⟨Nat.le_of_ble_eq_true rfl, Nat.le_of_ble_eq_true rfl⟩ (s_Mo_small (ro := false) (by have := tc_lt hT k; omega) ?_)
            refine bp_if_eq (q := 108) (tgt := 137) 52 rfl rfl (by decide) (fun z105 => ?_) (fun z105 => ?_)
            · refine bp_iload (q := 139) 69 rfl rfl rfl ?_
              refine bp_bipush (v := 59) (q := 141) 70 rfl rfl (by decide) ?_
              refine bp_icmp_ne (q := 144) (tgt := 229) 71 rfl rfl (by decide) (fun z141 => ?_) (fun z141 => ?_)
              · refine bp_aload_n (q := 230) 115 rfl rfl rfl rfl ?_
                refine bp_dup (q := 231) 116 rfl rfl rfl ?_
                refine bp_getI (q := 234) (ci := 9) (j := 12) 117 rfl rfl fl_Mo_90_9 hB1.kb rfl ?_
                rw [hB1.i12]
                refine bp_iconst (v := 1) (q := 235) 118 rfl rfl (by decide) ?_
                refine bp_iadd (q := 236) 119 rfl rfl ?_
                refine bp_putI (q := 239) (ci := 9) (j := 12) 120 rfl rfl fl_Mo_90_9 cl9 hB1.kb (fun r hr => by cases hr; rfl) (by decide) rfl rfl ?_
                refine bp_nx (X := fun h2 => MoX M h0 h2 tw (k + 1) (-2) (nI T.length) tl (mlV v) (v 3) (v 4) (v 5) nt.length lv fr tb.length nf nn dg nu kd pn pe T xs L ps L1 p1 nt tb fd) (hB1.s12 (nI_1 k)) (fun h2 hB2 => ?_)
                refine bp_goto (tgt := 7) 121 rfl (by decide) ?_
                have y46 : T.length ≤ k := Nat.not_lt.mp (fun e => z46 ((nI_lt_iff (by omega) (by omega)).mpr e))
                refine lp_tableF (by decide) hB2 ?_
                have e9 : RR T (k, 0, -1, lv, false, true, false, v, nt, fd, nm, L1, p1) = bFin T (k, 0, -1, lv, false, true, false, v, nt, fd, nm, L1, p1) := RR_fin rfl (Or.inl y46)
                have e8 : bFin T (k, 0, -1, lv, false, true, false, v, nt, fd, nm, L1, p1) = (k, -2, nI T.length, lv, false, true, false, v, nt, fd, nm, L1, p1) := rfl
                exact hQ _ (OUTB.bad2 hB2 (by rw [e9, e8]) (by rw [e9, e8]) (by decide))
              · exact absurd z141 (by rw [tc_out hk0]; decide)
            · exact absurd (bI1 z105) (by rw [tc_out hk0]; decide)
set_option maxRecDepth 100000 in
set_option maxHeartbeats 4000000 in
theorem lp_table (hT : okT T) (hfr : fr = false) (hnt : ¬ nt = []) : ∀ (n k : Nat) (fd nm : List Nat) (x : Int64) (h : bp_H) (lo5 lo6 : Option Value), T.length ≤ n + k → okX T k lv true v nt fd nm L1 p1 → ok8 nm → (nm.length ≤ 7 → x.toBitVec.toNat = lvl nm) → MoX M h0 h tw k 0 fm tl (mlV v) (v 3) (v 4) (v 5) nt.length lv fr tb.length nf nn dg nu kd pn pe T xs L ps L1 p1 nt tb fd → j < k → (∀ h', OUTB M h0 h' tw tl kd pn pe T xs L ps (k, 0, -1, lv, false, true, false, v, nt, fd, nm, L1, p1) j → Q none h' c s) → bp_A l G H0 (2, 45, false, false) M_Mo_readTable h c s 7 [some (.ref (M 0)), some (.int (nI fd.length)), some (.long x), none, some (.int (nI nm.length)), lo5, lo6] [] (fun o h' c' s' => ∃ v, o = .returned v ∧ Q v h' c' s') := by
  have hT4 := hT.1
  intro n
  induction n with
  | zero =>
    intro k fd nm x h lo5 lo6 hn hok h8 hx hB0 hj hQ
    exact lp_tableE hT hfr hnt (by omega) hok hB0 hj hQ
  | succ n ih =>
    intro k fd nm x h lo5 lo6 hn hok h8 hx hB0 hj hQ
    by_cases hkT : T.length ≤ k
    · exact lp_tableE hT hfr hnt hkT hok hB0 hj hQ
    have hkT := Nat.not_le.mp hkT
    have hki := hok.1
    have hfl := hok.2.2.2.2.2.1.1
    have hnl := hok.2.2.2.2.2.2.1.2.1
    refine bp_aload_n (q := 8) 6 rfl rfl rfl rfl ?_
    refine bp_getI (q := 11) (ci := 9) (j := 13) 7 rfl rfl fl_Mo_69_9 hB0.kb rfl ?_
    rw [hB0.i13]
    refine bp_if_ne (q := 14) (tgt := 242) 8 rfl rfl (by decide) (fun z => absurd z (by decide)) (fun z11 => ?_)
    refine bp_aload_n (q := 15) 9 rfl rfl rfl rfl ?_
    refine bp_aload_n (q := 16) 10 rfl rfl rfl rfl ?_
    refine bp_getI (q := 19) (ci := 9) (j := 12) 11 rfl rfl fl_Mo_90_9 hB0.kb rfl ?_
    rw [hB0.i12]
    refine bp_callV (q := 22) (ci := 9) 12 rfl rfl cw_Mo_charAt lk_Mo_83 rfl hB0.kb wd1445 wd43 rfl rfl (Nat.le_of_ble_eq_true rfl) ⟨Nat.le_of_ble_eq_true rfl, Nat.le_of_ble_eq_true rfl⟩ (s_Mo_charAt (ro := false) hB0 hT (by omega) ?_)
    refine bp_bipush (v := 125) (q := 24) 13 rfl rfl (by decide) ?_
    refine bp_icmp_eq (q := 27) (tgt := 242) 14 rfl rfl (by decide) (fun z24 => ?_) (fun z24 => ?_)
    · refine bp_aload_n (q := 243) 122 rfl rfl rfl rfl ?_
      refine bp_iload (q := 245) 123 rfl rfl rfl ?_
      refine bp_if_le (q := 248) (tgt := 252) 124 rfl rfl (by decide) (fun z245 => ?_) (fun z245 => ?_)
      · refine bp_iconst (v := 0) (q := 253) 127 rfl rfl (by decide) ?_
        refine bp_bipush (v := -6) (q := 255) 128 rfl rfl (by decide) ?_
        refine bp_aload_n (q := 256) 129 rfl rfl rfl rfl ?_
        refine bp_getI (q := 259) (ci := 9) (j := 12) 130 rfl rfl fl_Mo_90_9 hB0.kb rfl ?_
        rw [hB0.i12]
        refine bp_callV (q := 262) (ci := 9) 131 rfl rfl cw_Mo_failIf lk_Mo_118 rfl hB0.kb wd1449 wd44 rfl rfl (Nat.le_of_ble_eq_true rfl) ⟨Nat.le_of_ble_eq_true rfl, Nat.le_of_ble_eq_true rfl⟩ (s_Mo_failIfN hB0 rfl ?_)
        refine bp_aload_n (q := 263) 132 rfl rfl rfl rfl ?_
        refine bp_getI (q := 266) (ci := 9) (j := 13) 133 rfl rfl fl_Mo_69_9 hB0.kb rfl ?_
        rw [hB0.i13]
        refine bp_if_ne (q := 269) (tgt := 322) 134 rfl rfl (by decide) (fun z => absurd z (by decide)) (fun z266 => ?_)
        refine bp_iconst (v := 0) (q := 270) 135 rfl rfl (by decide) ?_
        refine bp_istore (q := 272) 136 rfl rfl (by decide) (bp_up5 rfl) ?_
        have y125 := (nI_eq_iff (a := tc T k) (b := 125) (by have := tc_lt hT k; omega) (by decide)).mp (by first | exact z24 | exact Classical.not_not.mp z24)
        have hk := tc_in' y125 (by decide)
        have yn : nm = [] := List.eq_nil_of_length_eq_zero (by have := (nI_le_iff (b := 0) (by omega) (by decide)).mp z245; omega)
        subst yn
        have hS := RR_step (σ := (k, 0, -1, lv, false, true, false, v, nt, fd, [], L1, p1)) hT hok rfl hk rfl
        have e1 : (0 : Nat) = 0 := rfl
        have ok9 : okX T k lv false v nt (if fd = [] then [0] else fd) [] L1 p1 := okX_tab hok
        refine lp_tableC hok.2.2.2.2.2.1.1 8 0 _ rfl (hB0.arr25 (tb' := []) ⟨rfl, rfl, rfl, fun _ _ _ => rfl⟩ ⟨by decide, fun q hq => absurd hq (Nat.not_lt_zero q)⟩) (fun q hq => absurd hq (Nat.not_lt_zero q)) (fun h' hB9 => hQ _ (Or.inl ⟨k, lv, false, v, nt, (if fd = [] then [0] else fd), [], L1, p1, _, _, _, _, _, _, by rw [hfr] at hB9; exact hB9, ok9, hj, ?_⟩))
        rw [show decide (nt = []) = false from decide_eq_false hnt, hS, bt_125 y125]
        exact (RR_step (σ := (k, 0, -1, lv, false, false, false, v, nt, (if fd = [] then [0] else fd), [], L1, p1)) hT ok9 rfl hk rfl).symm
      · refine bp_iconst (v := 1) (q := 249) 125 rfl rfl (by decide) ?_
        refine bp_goto (tgt := 253) 126 rfl (by decide) ?_
        refine bp_bipush (v := -6) (q := 255) 128 rfl rfl (by decide) ?_
        refine bp_aload_n (q := 256) 129 rfl rfl rfl rfl ?_
        refine bp_getI (q := 259) (ci := 9) (j := 12) 130 rfl rfl fl_Mo_90_9 hB0.kb rfl ?_
        rw [hB0.i12]
        refine bp_callV (q := 262) (ci := 9) 131 rfl rfl cw_Mo_failIf lk_Mo_118 rfl hB0.kb wd1449 wd44 rfl rfl (Nat.le_of_ble_eq_true rfl) ⟨Nat.le_of_ble_eq_true rfl, Nat.le_of_ble_eq_true rfl⟩ (s_Mo_failIf0 hB0 (by decide) rfl (fun h1 hB1 => ?_))
        refine bp_aload_n (q := 263) 132 rfl rfl rfl rfl ?_
        refine bp_getI (q := 266) (ci := 9) (j := 13) 133 rfl rfl fl_Mo_69_9 hB1.kb rfl ?_
        rw [hB1.i13]
        refine bp_if_ne (q := 269) (tgt := 322) 134 rfl rfl (by decide) (fun z266 => ?_) (fun z => absurd z (by decide))
        refine bp_vret 162 rfl rfl  ⟨_, rfl, ?_⟩
        have y125 := (nI_eq_iff (a := tc T k) (b := 125) (by have := tc_lt hT k; omega) (by decide)).mp (by first | exact z24 | exact Classical.not_not.mp z24)
        have hk := tc_in' y125 (by decide)
        have hS := RR_step (σ := (k, 0, -1, lv, false, true, false, v, nt, fd, nm, L1, p1)) hT hok rfl hk rfl
        have hO := okN_thing (fa := 0) (me := -1) (fr := false) (en := false) hT hok hk
        have yn : nm ≠ [] := fun e => z245 (by rw [e]; decide)
        refine hQ _ (OUTB.bad2 hB1 ?_ ?_ (by decide)) <;> (rw [hS, bt_125f y125 yn, RR_f (show (-6 : Int32) ≠ 0 by decide)])
    · refine bp_aload_n (q := 28) 15 rfl rfl rfl rfl ?_
      refine bp_aload_n (q := 29) 16 rfl rfl rfl rfl ?_
      refine bp_getI (q := 32) (ci := 9) (j := 12) 17 rfl rfl fl_Mo_90_9 hB0.kb rfl ?_
      rw [hB0.i12]
      refine bp_callV (q := 35) (ci := 9) 18 rfl rfl cw_Mo_charAt lk_Mo_83 rfl hB0.kb wd1445 wd43 rfl rfl (Nat.le_of_ble_eq_true rfl) ⟨Nat.le_of_ble_eq_true rfl, Nat.le_of_ble_eq_true rfl⟩ (s_Mo_charAt (ro := false) hB0 hT (by omega) ?_)
      refine bp_istore (q := 37) 19 rfl rfl (by decide) (bp_up5 rfl) ?_
      refine bp_aload_n (q := 38) 20 rfl rfl rfl rfl ?_
      refine bp_aload_n (q := 39) 21 rfl rfl rfl rfl ?_
      refine bp_getI (q := 42) (ci := 9) (j := 12) 22 rfl rfl fl_Mo_90_9 hB0.kb rfl ?_
      rw [hB0.i12]
      refine bp_aload_n (q := 43) 23 rfl rfl rfl rfl ?_
      refine bp_getI (q := 46) (ci := 9) (j := 1) 24 rfl rfl fl_Mo_63_9 hB0.kb rfl ?_
      rw [hB0.i1]
      refine bp_icmp_lt (q := 49) (tgt := 53) 25 rfl rfl (by decide) (fun z46 => ?_) (fun z46 => ?_)
      · refine bp_iconst (v := 0) (q := 54) 28 rfl rfl (by decide) ?_
        refine bp_bipush (v := -2) (q := 56) 29 rfl rfl (by decide) ?_
        refine bp_aload_n (q := 57) 30 rfl rfl rfl rfl ?_
        refine bp_getI (q := 60) (ci := 9) (j := 1) 31 rfl rfl fl_Mo_63_9 hB0.kb rfl ?_
        rw [hB0.i1]
        refine bp_callV (q := 63) (ci := 9) 32 rfl rfl cw_Mo_failIf lk_Mo_118 rfl hB0.kb wd1449 wd44 rfl rfl (Nat.le_of_ble_eq_true rfl) ⟨Nat.le_of_ble_eq_true rfl, Nat.le_of_ble_eq_true rfl⟩ (s_Mo_failIfN hB0 rfl ?_)
        refine bp_aload_n (q := 64) 33 rfl rfl rfl rfl ?_
        refine bp_iload (q := 66) 34 rfl rfl rfl ?_
        refine bp_bipush (v := 10) (q := 68) 35 rfl rfl (by decide) ?_
        refine bp_icmp_eq (q := 71) (tgt := 90) 36 rfl rfl (by decide) (fun z68 => ?_) (fun z68 => ?_)
        · refine bp_iconst (v := 0) (q := 91) 45 rfl rfl (by decide) ?_
          refine bp_bipush (v := -6) (q := 93) 46 rfl rfl (by decide) ?_
          refine bp_aload_n (q := 94) 47 rfl rfl rfl rfl ?_
          refine bp_getI (q := 97) (ci := 9) (j := 12) 48 rfl rfl fl_Mo_90_9 hB0.kb rfl ?_
          rw [hB0.i12]
          refine bp_callV (q := 100) (ci := 9) 49 rfl rfl cw_Mo_failIf lk_Mo_118 rfl hB0.kb wd1449 wd44 rfl rfl (Nat.le_of_ble_eq_true rfl) ⟨Nat.le_of_ble_eq_true rfl, Nat.le_of_ble_eq_true rfl⟩ (s_Mo_failIfN hB0 rfl ?_)
          refine bp_iload (q := 102) 50 rfl rfl rfl ?_
          refine bp_callS (q := 105) 51 rfl rfl cw_Mo_small lk_Mo_162 wd1472 rfl rfl (Nat.le_of_ble_eq_true rfl) ⟨Nat.le_of_ble_eq_true rfl, Nat.le_of_ble_eq_true rfl⟩ (s_Mo_small (ro := false) (by have := tc_lt hT k; omega) ?_)
          refine bp_if_eq (q := 108) (tgt := 137) 52 rfl rfl (by decide) (fun z105 => ?_) (fun z105 => ?_)
          · refine bp_iload (q := 139) 69 rfl rfl rfl ?_
            refine bp_bipush (v := 59) (q := 141) 70 rfl rfl (by decide) ?_
            refine bp_icmp_ne (q := 144) (tgt := 229) 71 rfl rfl (by decide) (fun z141 => ?_) (fun z141 => ?_)
            · refine bp_aload_n (q := 230) 115 rfl rfl rfl rfl ?_
              refine bp_dup (q := 231) 116 rfl rfl rfl ?_
              refine bp_getI (q := 234) (ci := 9) (j := 12) 117 rfl rfl fl_Mo_90_9 hB0.kb rfl ?_
              rw [hB0.i12]
              refine bp_iconst (v := 1) (q := 235) 118 rfl rfl (by decide) ?_
              refine bp_iadd (q := 236) 119 rfl rfl ?_
              refine bp_putI (q := 239) (ci := 9) (j := 12) 120 rfl rfl fl_Mo_90_9 cl9 hB0.kb (fun r hr => by cases hr; rfl) (by decide) rfl rfl ?_
              refine bp_nx (X := fun h1 => MoX M h0 h1 tw (k + 1) 0 fm tl (mlV v) (v 3) (v 4) (v 5) nt.length lv fr tb.length nf nn dg nu kd pn pe T xs L ps L1 p1 nt tb fd) (hB0.s12 (nI_1 k)) (fun h1 hB1 => ?_)
              refine bp_goto (tgt := 7) 121 rfl (by decide) ?_
              have hk : k < T.length := (nI_lt_iff (by omega) (by omega)).mp z46
              have hS := RR_step (σ := (k, 0, -1, lv, false, true, false, v, nt, fd, nm, L1, p1)) hT hok rfl hk rfl
              have hO := okN_thing (fa := 0) (me := -1) (fr := false) (en := false) hT hok hk
              have y10 := (nI_eq_iff (a := tc T k) (b := 10) (by have := tc_lt hT k; omega) (by decide)).mp (by first | exact z68 | exact Classical.not_not.mp z68)
              rw [bt_10 y10] at hS hO
              have _q := hn
              exact ih (k + 1) fd nm _ _ _ _ (by omega) hO.1 h8 hx hB1 (by omega) (fun h' ho => hQ h' (ho.tr hS))
            · have y10 := (nI_eq_iff (a := tc T k) (b := 10) (by have := tc_lt hT k; omega) (by decide)).mp (by first | exact z68 | exact Classical.not_not.mp z68)
              exact absurd (by first | exact z141 | exact Classical.not_not.mp z141) (by rw [y10]; decide)
          · have y10 := (nI_eq_iff (a := tc T k) (b := 10) (by have := tc_lt hT k; omega) (by decide)).mp (by first | exact z68 | exact Classical.not_not.mp z68)
            exact absurd (bI1 z105) (by rw [y10]; decide)
        · refine bp_iload (q := 73) 37 rfl rfl rfl ?_
          refine bp_bipush (v := 59) (q := 75) 38 rfl rfl (by decide) ?_
          refine bp_icmp_eq (q := 78) (tgt := 90) 39 rfl rfl (by decide) (fun z75 => ?_) (fun z75 => ?_)
          · refine bp_iconst (v := 0) (q := 91) 45 rfl rfl (by decide) ?_
            refine bp_bipush (v := -6) (q := 93) 46 rfl rfl (by decide) ?_
            refine bp_aload_n (q := 94) 47 rfl rfl rfl rfl ?_
            refine bp_getI (q := 97) (ci := 9) (j := 12) 48 rfl rfl fl_Mo_90_9 hB0.kb rfl ?_
            rw [hB0.i12]
            refine bp_callV (q := 100) (ci := 9) 49 rfl rfl cw_Mo_failIf lk_Mo_118 rfl hB0.kb wd1449 wd44 rfl rfl (Nat.le_of_ble_eq_true rfl) ⟨Nat.le_of_ble_eq_true rfl, Nat.le_of_ble_eq_true rfl⟩ (s_Mo_failIfN hB0 rfl ?_)
            refine bp_iload (q := 102) 50 rfl rfl rfl ?_
            refine bp_callS (q := 105) 51 rfl rfl cw_Mo_small lk_Mo_162 wd1472 rfl rfl (Nat.le_of_ble_eq_true rfl) ⟨Nat.le_of_ble_eq_true rfl, Nat.le_of_ble_eq_true rfl⟩ (s_Mo_small (ro := false) (by have := tc_lt hT k; omega) ?_)
            refine bp_if_eq (q := 108) (tgt := 137) 52 rfl rfl (by decide) (fun z105 => ?_) (fun z105 => ?_)
            · refine bp_iload (q := 139) 69 rfl rfl rfl ?_
              refine bp_bipush (v := 59) (q := 141) 70 rfl rfl (by decide) ?_
              refine bp_icmp_ne (q := 144) (tgt := 229) 71 rfl rfl (by decide) (fun z141 => ?_) (fun z141 => ?_)
              · have y59 := (nI_eq_iff (a := tc T k) (b := 59) (by have := tc_lt hT k; omega) (by decide)).mp (by first | exact z75 | exact Classical.not_not.mp z75)
                exact absurd (by rw [y59]; rfl) z141
              · refine bp_aload_n (q := 145) 72 rfl rfl rfl rfl ?_
                refine bp_getI (q := 148) (ci := 9) (j := 13) 73 rfl rfl fl_Mo_69_9 hB0.kb rfl ?_
                rw [hB0.i13]
                refine bp_if_ne (q := 151) (tgt := 229) 74 rfl rfl (by decide) (fun z => absurd z (by decide)) (fun z148 => ?_)
                refine bp_iload (q := 153) 75 rfl rfl rfl ?_
                refine bp_bipush (v := 7) (q := 155) 76 rfl rfl (by decide) ?_
                refine bp_icmp_le (q := 158) (tgt := 162) 77 rfl rfl (by decide) (fun z155 => ?_) (fun z155 => ?_)
                · refine bp_lload_n (q := 163) 80 rfl rfl rfl rfl ?_
                  refine bp_callS (q := 166) 81 rfl rfl cw_Mo_colourNamed lk_Mo_261 wd1531 rfl rfl (Nat.le_of_ble_eq_true rfl) ⟨Nat.le_of_ble_eq_true rfl, Nat.le_of_ble_eq_true rfl⟩ (s_Mo_colourNamed (ro := false) (hx ((nI_le_iff (b := 7) (by omega) (by decide)).mp z155)) h8 ?_)
                  refine bp_istore (q := 168) 82 rfl rfl (by decide) (bp_up6 rfl) ?_
                  refine bp_aload_n (q := 169) 83 rfl rfl rfl rfl ?_
                  refine bp_iload_n (q := 170) 84 rfl rfl rfl rfl ?_
                  refine bp_bipush (v := 8) (q := 172) 85 rfl rfl (by decide) ?_
                  refine bp_icmp_eq (q := 175) (tgt := 184) 86 rfl rfl (by decide) (fun z172 => ?_) (fun z172 => ?_)
                  · refine bp_iconst (v := 1) (q := 185) 91 rfl rfl (by decide) ?_
                    refine bp_goto (tgt := 189) 92 rfl (by decide) ?_
                    refine bp_bipush (v := -6) (q := 191) 94 rfl rfl (by decide) ?_
                    refine bp_aload_n (q := 192) 95 rfl rfl rfl rfl ?_
                    refine bp_getI (q := 195) (ci := 9) (j := 12) 96 rfl rfl fl_Mo_90_9 hB0.kb rfl ?_
                    rw [hB0.i12]
                    refine bp_callV (q := 198) (ci := 9) 97 rfl rfl cw_Mo_failIf lk_Mo_118 rfl hB0.kb wd1449 wd44 rfl rfl (Nat.le_of_ble_eq_true rfl) ⟨Nat.le_of_ble_eq_true rfl, Nat.le_of_ble_eq_true rfl⟩ (s_Mo_failIf0 hB0 (by decide) rfl (fun h1 hB1 => ?_))
                    refine bp_aload_n (q := 199) 98 rfl rfl rfl rfl ?_
                    refine bp_getI (q := 202) (ci := 9) (j := 13) 99 rfl rfl fl_Mo_69_9 hB1.kb rfl ?_
                    rw [hB1.i13]
                    refine bp_if_ne (q := 205) (tgt := 224) 100 rfl rfl (by decide) (fun z202 => ?_) (fun z => absurd z (by decide))
                    refine bp_lconst (v := 0) (q := 225) 111 rfl rfl (by decide) ?_
                    refine bp_lstore_n (q := 226) 112 rfl rfl rfl (by decide) (bp_uq2 rfl) ?_
                    refine bp_iconst (v := 0) (q := 227) 113 rfl rfl (by decide) ?_
                    refine bp_istore (q := 229) 114 rfl rfl (by decide) (bp_up4 rfl) ?_
                    refine bp_aload_n (q := 230) 115 rfl rfl rfl rfl ?_
                    refine bp_dup (q := 231) 116 rfl rfl rfl ?_
                    refine bp_getI (q := 234) (ci := 9) (j := 12) 117 rfl rfl fl_Mo_90_9 hB1.kb rfl ?_
                    rw [hB1.i12]
                    refine bp_iconst (v := 1) (q := 235) 118 rfl rfl (by decide) ?_
                    refine bp_iadd (q := 236) 119 rfl rfl ?_
                    refine bp_putI (q := 239) (ci := 9) (j := 12) 120 rfl rfl fl_Mo_90_9 cl9 hB1.kb (fun r hr => by cases hr; rfl) (by decide) rfl rfl ?_
                    refine bp_nx (X := fun h2 => MoX M h0 h2 tw (k + 1) (-6) (nI k) tl (mlV v) (v 3) (v 4) (v 5) nt.length lv fr tb.length nf nn dg nu kd pn pe T xs L ps L1 p1 nt tb fd) (hB1.s12 (nI_1 k)) (fun h2 hB2 => ?_)
                    refine bp_goto (tgt := 7) 121 rfl (by decide) ?_
                    have hk : k < T.length := (nI_lt_iff (by omega) (by omega)).mp z46
                    have hS := RR_step (σ := (k, 0, -1, lv, false, true, false, v, nt, fd, nm, L1, p1)) hT hok rfl hk rfl
                    have hO := okN_thing (fa := 0) (me := -1) (fr := false) (en := false) hT hok hk
                    have y59 := (nI_eq_iff (a := tc T k) (b := 59) (by have := tc_lt hT k; omega) (by decide)).mp (by first | exact z75 | exact Classical.not_not.mp z75)
                    have y8 : fd.length = 8 := (nI_eq_iff (b := 8) (by omega) (by decide)).mp z172
                    refine lp_tableF (by decide) hB2 ?_
                    refine hQ _ (OUTB.bad2 hB2 ?_ ?_ (by decide)) <;> (rw [hS, bt_59f y59 (Or.inr (by omega)), RR_f (show (-6 : Int32) ≠ 0 by decide)])
                  · refine bp_iload_n (q := 176) 87 rfl rfl rfl rfl ?_
                    refine bp_if_le (q := 179) (tgt := 188) 88 rfl rfl (by decide) (fun z176 => ?_) (fun z176 => ?_)
                    · refine bp_iconst (v := 0) (q := 189) 93 rfl rfl (by decide) ?_
                      refine bp_bipush (v := -6) (q := 191) 94 rfl rfl (by decide) ?_
                      refine bp_aload_n (q := 192) 95 rfl rfl rfl rfl ?_
                      refine bp_getI (q := 195) (ci := 9) (j := 12) 96 rfl rfl fl_Mo_90_9 hB0.kb rfl ?_
                      rw [hB0.i12]
                      refine bp_callV (q := 198) (ci := 9) 97 rfl rfl cw_Mo_failIf lk_Mo_118 rfl hB0.kb wd1449 wd44 rfl rfl (Nat.le_of_ble_eq_true rfl) ⟨Nat.le_of_ble_eq_true rfl, Nat.le_of_ble_eq_true rfl⟩ (s_Mo_failIfN hB0 rfl ?_)
                      refine bp_aload_n (q := 199) 98 rfl rfl rfl rfl ?_
                      refine bp_getI (q := 202) (ci := 9) (j := 13) 99 rfl rfl fl_Mo_69_9 hB0.kb rfl ?_
                      rw [hB0.i13]
                      refine bp_if_ne (q := 205) (tgt := 224) 100 rfl rfl (by decide) (fun z => absurd z (by decide)) (fun z202 => ?_)
                      refine bp_aload_n (q := 206) 101 rfl rfl rfl rfl ?_
                      refine bp_getR (x := M 26) (q := 209) (ci := 9) (j := 26) 102 rfl rfl fl_Mo_49_9 hB0.kb rfl hB0.r26 ?_
                      refine bp_iload_n (q := 210) 103 rfl rfl rfl rfl ?_
                      refine bp_iload_n (q := 211) 104 rfl rfl rfl rfl ?_
                      refine bp_if_ne (q := 214) (tgt := 218) 105 rfl rfl (by decide) (fun z211 => ?_) (fun z211 => ?_)
                      · have y0 : fd.length = 0 := by have := (nI_le_iff (b := 0) (by omega) (by decide)).mp z176; omega
                        exact absurd (by rw [y0]; rfl) z211
                      · refine bp_iconst (v := 0) (q := 215) 106 rfl rfl (by decide) ?_
                        refine bp_goto (tgt := 220) 107 rfl (by decide) ?_
                        refine bp_iast (q := 221) 109 rfl rfl hB0.k26 (vp_inL (N := 8) hB0.l26 (by have := hok.2.2.2.2.2.1.1; have q : ¬ fd.length = 8 := fun e => z172 (by rw [e]; rfl); omega) (by decide))  ?_
                        rw [nI_clamp (by omega)]
                        rw [show (0 : Int32) = nI 0 from rfl]
                        refine bp_nx (X := fun h1 => MoX M h0 h1 tw k 0 fm tl (mlV v) (v 3) (v 4) (v 5) nt.length lv fr tb.length nf nn dg nu kd pn pe T xs L ps L1 p1 nt tb (fd ++ [0])) (hB0.push26 (by have := hok.2.2.2.2.2.1.1; have q : ¬ fd.length = 8 := fun e => z172 (by rw [e]; rfl); omega)) (fun h1 hB1 => ?_)
                        refine bp_iinc (v := nI (fd.length + 1)) (q := 224) 110 rfl rfl rfl (nI_1 _) (by decide) (bp_up1 rfl) ?_
                        refine bp_lconst (v := 0) (q := 225) 111 rfl rfl (by decide) ?_
                        refine bp_lstore_n (q := 226) 112 rfl rfl rfl (by decide) (bp_uq2 rfl) ?_
                        refine bp_iconst (v := 0) (q := 227) 113 rfl rfl (by decide) ?_
                        refine bp_istore (q := 229) 114 rfl rfl (by decide) (bp_up4 rfl) ?_
                        refine bp_aload_n (q := 230) 115 rfl rfl rfl rfl ?_
                        refine bp_dup (q := 231) 116 rfl rfl rfl ?_
                        refine bp_getI (q := 234) (ci := 9) (j := 12) 117 rfl rfl fl_Mo_90_9 hB1.kb rfl ?_
                        rw [hB1.i12]
                        refine bp_iconst (v := 1) (q := 235) 118 rfl rfl (by decide) ?_
                        refine bp_iadd (q := 236) 119 rfl rfl ?_
                        refine bp_putI (q := 239) (ci := 9) (j := 12) 120 rfl rfl fl_Mo_90_9 cl9 hB1.kb (fun r hr => by cases hr; rfl) (by decide) rfl rfl ?_
                        refine bp_nx (X := fun h2 => MoX M h0 h2 tw (k + 1) 0 fm tl (mlV v) (v 3) (v 4) (v 5) nt.length lv fr tb.length nf nn dg nu kd pn pe T xs L ps L1 p1 nt tb (fd ++ [0])) (hB1.s12 (nI_1 k)) (fun h2 hB2 => ?_)
                        refine bp_goto (tgt := 7) 121 rfl (by decide) ?_
                        have hk : k < T.length := (nI_lt_iff (by omega) (by omega)).mp z46
                        have hS := RR_step (σ := (k, 0, -1, lv, false, true, false, v, nt, fd, nm, L1, p1)) hT hok rfl hk rfl
                        have hO := okN_thing (fa := 0) (me := -1) (fr := false) (en := false) hT hok hk
                        have y59 := (nI_eq_iff (a := tc T k) (b := 59) (by have := tc_lt hT k; omega) (by decide)).mp (by first | exact z75 | exact Classical.not_not.mp z75)
                        have y8 : fd.length < 8 := by have := hok.2.2.2.2.2.1.1; have q : ¬ fd.length = 8 := fun e => z172 (by rw [e]; rfl); omega
                        have y0 : fd = [] := List.eq_nil_of_length_eq_zero (by have := (nI_le_iff (b := 0) (by omega) (by decide)).mp z176; omega)
                        rw [bt_59 y59 (tC0 y0) y8] at hS hO
                        rw [show nI (fd.length + 1) = nI (fd ++ [0]).length from by rw [List.length_append]; rfl]
                        exact ih (k + 1) _ [] 0 _ _ _ (by omega) hO.1 (fun x hx => nomatch hx) (fun _ => rfl) hB2 (by omega) (fun h' ho => hQ h' (ho.tr hS))
                    · refine bp_iload (q := 181) 89 rfl rfl rfl ?_
                      refine bp_if_ge (q := 184) (tgt := 188) 90 rfl rfl (by decide) (fun z181 => ?_) (fun z181 => ?_)
                      · refine bp_iconst (v := 0) (q := 189) 93 rfl rfl (by decide) ?_
                        refine bp_bipush (v := -6) (q := 191) 94 rfl rfl (by decide) ?_
                        refine bp_aload_n (q := 192) 95 rfl rfl rfl rfl ?_
                        refine bp_getI (q := 195) (ci := 9) (j := 12) 96 rfl rfl fl_Mo_90_9 hB0.kb rfl ?_
                        rw [hB0.i12]
                        refine bp_callV (q := 198) (ci := 9) 97 rfl rfl cw_Mo_failIf lk_Mo_118 rfl hB0.kb wd1449 wd44 rfl rfl (Nat.le_of_ble_eq_true rfl) ⟨Nat.le_of_ble_eq_true rfl, Nat.le_of_ble_eq_true rfl⟩ (s_Mo_failIfN hB0 rfl ?_)
                        refine bp_aload_n (q := 199) 98 rfl rfl rfl rfl ?_
                        refine bp_getI (q := 202) (ci := 9) (j := 13) 99 rfl rfl fl_Mo_69_9 hB0.kb rfl ?_
                        rw [hB0.i13]
                        refine bp_if_ne (q := 205) (tgt := 224) 100 rfl rfl (by decide) (fun z => absurd z (by decide)) (fun z202 => ?_)
                        refine bp_aload_n (q := 206) 101 rfl rfl rfl rfl ?_
                        refine bp_getR (x := M 26) (q := 209) (ci := 9) (j := 26) 102 rfl rfl fl_Mo_49_9 hB0.kb rfl hB0.r26 ?_
                        refine bp_iload_n (q := 210) 103 rfl rfl rfl rfl ?_
                        refine bp_iload_n (q := 211) 104 rfl rfl rfl rfl ?_
                        refine bp_if_ne (q := 214) (tgt := 218) 105 rfl rfl (by decide) (fun z211 => ?_) (fun z211 => ?_)
                        · refine bp_iload (q := 220) 108 rfl rfl rfl ?_
                          refine bp_iast (q := 221) 109 rfl rfl hB0.k26 (vp_inL (N := 8) hB0.l26 (by have := hok.2.2.2.2.2.1.1; have q : ¬ fd.length = 8 := fun e => z172 (by rw [e]; rfl); omega) (by decide))  ?_
                          have y0_ : ¬ fd = [] := fun e => z176 (by rw [e]; decide)
                          obtain ⟨e8, h81, h82, he8⟩ : ∃ e, e < 8 ∧ (if nm = [] then 0 else scl nm 8 0) = nI e ∧ enC fd nm = some e := by
                            rcases tC1 (nm := nm) y0_ with q | q
                            · rw [q.1] at z181; exact absurd z181 (by decide)
                            · exact q
                          rw [nI_clamp (by omega), h82]
                          refine bp_nx (X := fun h1 => MoX M h0 h1 tw k 0 fm tl (mlV v) (v 3) (v 4) (v 5) nt.length lv fr tb.length nf nn dg nu kd pn pe T xs L ps L1 p1 nt tb (fd ++ [e8])) (hB0.push26 (by have := hok.2.2.2.2.2.1.1; have q : ¬ fd.length = 8 := fun e => z172 (by rw [e]; rfl); omega)) (fun h1 hB1 => ?_)
                          refine bp_iinc (v := nI (fd.length + 1)) (q := 224) 110 rfl rfl rfl (nI_1 _) (by decide) (bp_up1 rfl) ?_
                          refine bp_lconst (v := 0) (q := 225) 111 rfl rfl (by decide) ?_
                          refine bp_lstore_n (q := 226) 112 rfl rfl rfl (by decide) (bp_uq2 rfl) ?_
                          refine bp_iconst (v := 0) (q := 227) 113 rfl rfl (by decide) ?_
                          refine bp_istore (q := 229) 114 rfl rfl (by decide) (bp_up4 rfl) ?_
                          refine bp_aload_n (q := 230) 115 rfl rfl rfl rfl ?_
                          refine bp_dup (q := 231) 116 rfl rfl rfl ?_
                          refine bp_getI (q := 234) (ci := 9) (j := 12) 117 rfl rfl fl_Mo_90_9 hB1.kb rfl ?_
                          rw [hB1.i12]
                          refine bp_iconst (v := 1) (q := 235) 118 rfl rfl (by decide) ?_
                          refine bp_iadd (q := 236) 119 rfl rfl ?_
                          refine bp_putI (q := 239) (ci := 9) (j := 12) 120 rfl rfl fl_Mo_90_9 cl9 hB1.kb (fun r hr => by cases hr; rfl) (by decide) rfl rfl ?_
                          refine bp_nx (X := fun h2 => MoX M h0 h2 tw (k + 1) 0 fm tl (mlV v) (v 3) (v 4) (v 5) nt.length lv fr tb.length nf nn dg nu kd pn pe T xs L ps L1 p1 nt tb (fd ++ [e8])) (hB1.s12 (nI_1 k)) (fun h2 hB2 => ?_)
                          refine bp_goto (tgt := 7) 121 rfl (by decide) ?_
                          have hk : k < T.length := (nI_lt_iff (by omega) (by omega)).mp z46
                          have hS := RR_step (σ := (k, 0, -1, lv, false, true, false, v, nt, fd, nm, L1, p1)) hT hok rfl hk rfl
                          have hO := okN_thing (fa := 0) (me := -1) (fr := false) (en := false) hT hok hk
                          have y59 := (nI_eq_iff (a := tc T k) (b := 59) (by have := tc_lt hT k; omega) (by decide)).mp (by first | exact z75 | exact Classical.not_not.mp z75)
                          have y8 : fd.length < 8 := by have := hok.2.2.2.2.2.1.1; have q : ¬ fd.length = 8 := fun e => z172 (by rw [e]; rfl); omega
                          have y0 : ¬ fd = [] := fun e => z176 (by rw [e]; decide)
                          have y7 : nm.length ≤ 7 := (nI_le_iff (b := 7) (by omega) (by decide)).mp z155
                          rw [bt_59 y59 he8 y8] at hS hO
                          rw [show nI (fd.length + 1) = nI (fd ++ [e8]).length from by rw [List.length_append]; rfl]
                          exact ih (k + 1) _ [] 0 _ _ _ (by omega) hO.1 (fun x hx => nomatch hx) (fun _ => rfl) hB2 (by omega) (fun h' ho => hQ h' (ho.tr hS))
                        · exact absurd (List.eq_nil_of_length_eq_zero ((nI_eq_iff (a := fd.length) (b := 0) (by omega) (by decide)).mp (by first | exact z211 | exact Classical.not_not.mp z211))) (fun e => z176 (by rw [e]; decide))
                      · refine bp_iconst (v := 1) (q := 185) 91 rfl rfl (by decide) ?_
                        refine bp_goto (tgt := 189) 92 rfl (by decide) ?_
                        refine bp_bipush (v := -6) (q := 191) 94 rfl rfl (by decide) ?_
                        refine bp_aload_n (q := 192) 95 rfl rfl rfl rfl ?_
                        refine bp_getI (q := 195) (ci := 9) (j := 12) 96 rfl rfl fl_Mo_90_9 hB0.kb rfl ?_
                        rw [hB0.i12]
                        refine bp_callV (q := 198) (ci := 9) 97 rfl rfl cw_Mo_failIf lk_Mo_118 rfl hB0.kb wd1449 wd44 rfl rfl (Nat.le_of_ble_eq_true rfl) ⟨Nat.le_of_ble_eq_true rfl, Nat.le_of_ble_eq_true rfl⟩ (s_Mo_failIf0 hB0 (by decide) rfl (fun h1 hB1 => ?_))
                        refine bp_aload_n (q := 199) 98 rfl rfl rfl rfl ?_
                        refine bp_getI (q := 202) (ci := 9) (j := 13) 99 rfl rfl fl_Mo_69_9 hB1.kb rfl ?_
                        rw [hB1.i13]
                        refine bp_if_ne (q := 205) (tgt := 224) 100 rfl rfl (by decide) (fun z202 => ?_) (fun z => absurd z (by decide))
                        refine bp_lconst (v := 0) (q := 225) 111 rfl rfl (by decide) ?_
                        refine bp_lstore_n (q := 226) 112 rfl rfl rfl (by decide) (bp_uq2 rfl) ?_
                        refine bp_iconst (v := 0) (q := 227) 113 rfl rfl (by decide) ?_
                        refine bp_istore (q := 229) 114 rfl rfl (by decide) (bp_up4 rfl) ?_
                        refine bp_aload_n (q := 230) 115 rfl rfl rfl rfl ?_
                        refine bp_dup (q := 231) 116 rfl rfl rfl ?_
                        refine bp_getI (q := 234) (ci := 9) (j := 12) 117 rfl rfl fl_Mo_90_9 hB1.kb rfl ?_
                        rw [hB1.i12]
                        refine bp_iconst (v := 1) (q := 235) 118 rfl rfl (by decide) ?_
                        refine bp_iadd (q := 236) 119 rfl rfl ?_
                        refine bp_putI (q := 239) (ci := 9) (j := 12) 120 rfl rfl fl_Mo_90_9 cl9 hB1.kb (fun r hr => by cases hr; rfl) (by decide) rfl rfl ?_
                        refine bp_nx (X := fun h2 => MoX M h0 h2 tw (k + 1) (-6) (nI k) tl (mlV v) (v 3) (v 4) (v 5) nt.length lv fr tb.length nf nn dg nu kd pn pe T xs L ps L1 p1 nt tb fd) (hB1.s12 (nI_1 k)) (fun h2 hB2 => ?_)
                        refine bp_goto (tgt := 7) 121 rfl (by decide) ?_
                        have hk : k < T.length := (nI_lt_iff (by omega) (by omega)).mp z46
                        have hS := RR_step (σ := (k, 0, -1, lv, false, true, false, v, nt, fd, nm, L1, p1)) hT hok rfl hk rfl
                        have hO := okN_thing (fa := 0) (me := -1) (fr := false) (en := false) hT hok hk
                        have y59 := (nI_eq_iff (a := tc T k) (b := 59) (by have := tc_lt hT k; omega) (by decide)).mp (by first | exact z75 | exact Classical.not_not.mp z75)
                        have y8 : fd.length < 8 := by have := hok.2.2.2.2.2.1.1; have q : ¬ fd.length = 8 := fun e => z172 (by rw [e]; rfl); omega
                        have y0 : ¬ fd = [] := fun e => z176 (by rw [e]; decide)
                        have y7 : nm.length ≤ 7 := (nI_le_iff (b := 7) (by omega) (by decide)).mp z155
                        have hc : enC fd nm = none := by
                          rcases tC1 (nm := nm) y0 with q | ⟨e, h1, h2, h3⟩
                          · exact q.2
                          · rw [h2] at z181; exact absurd ((nI_le_iff (a := 0) (b := e) (by decide) (by omega)).mpr (Nat.zero_le e)) z181
                        refine lp_tableF (by decide) hB2 ?_
                        refine hQ _ (OUTB.bad2 hB2 ?_ ?_ (by decide)) <;> (rw [hS, bt_59f y59 (Or.inl hc), RR_f (show (-6 : Int32) ≠ 0 by decide)])
                · refine bp_iconst (v := -1) (q := 159) 78 rfl rfl (by decide) ?_
                  refine bp_goto (tgt := 166) 79 rfl (by decide) ?_
                  refine bp_istore (q := 168) 82 rfl rfl (by decide) (bp_up6 rfl) ?_
                  refine bp_aload_n (q := 169) 83 rfl rfl rfl rfl ?_
                  refine bp_iload_n (q := 170) 84 rfl rfl rfl rfl ?_
                  refine bp_bipush (v := 8) (q := 172) 85 rfl rfl (by decide) ?_
                  refine bp_icmp_eq (q := 175) (tgt := 184) 86 rfl rfl (by decide) (fun z172 => ?_) (fun z172 => ?_)
                  · refine bp_iconst (v := 1) (q := 185) 91 rfl rfl (by decide) ?_
                    refine bp_goto (tgt := 189) 92 rfl (by decide) ?_
                    refine bp_bipush (v := -6) (q := 191) 94 rfl rfl (by decide) ?_
                    refine bp_aload_n (q := 192) 95 rfl rfl rfl rfl ?_
                    refine bp_getI (q := 195) (ci := 9) (j := 12) 96 rfl rfl fl_Mo_90_9 hB0.kb rfl ?_
                    rw [hB0.i12]
                    refine bp_callV (q := 198) (ci := 9) 97 rfl rfl cw_Mo_failIf lk_Mo_118 rfl hB0.kb wd1449 wd44 rfl rfl (Nat.le_of_ble_eq_true rfl) ⟨Nat.le_of_ble_eq_true rfl, Nat.le_of_ble_eq_true rfl⟩ (s_Mo_failIf0 hB0 (by decide) rfl (fun h1 hB1 => ?_))
                    refine bp_aload_n (q := 199) 98 rfl rfl rfl rfl ?_
                    refine bp_getI (q := 202) (ci := 9) (j := 13) 99 rfl rfl fl_Mo_69_9 hB1.kb rfl ?_
                    rw [hB1.i13]
                    refine bp_if_ne (q := 205) (tgt := 224) 100 rfl rfl (by decide) (fun z202 => ?_) (fun z => absurd z (by decide))
                    refine bp_lconst (v := 0) (q := 225) 111 rfl rfl (by decide) ?_
                    refine bp_lstore_n (q := 226) 112 rfl rfl rfl (by decide) (bp_uq2 rfl) ?_
                    refine bp_iconst (v := 0) (q := 227) 113 rfl rfl (by decide) ?_
                    refine bp_istore (q := 229) 114 rfl rfl (by decide) (bp_up4 rfl) ?_
                    refine bp_aload_n (q := 230) 115 rfl rfl rfl rfl ?_
                    refine bp_dup (q := 231) 116 rfl rfl rfl ?_
                    refine bp_getI (q := 234) (ci := 9) (j := 12) 117 rfl rfl fl_Mo_90_9 hB1.kb rfl ?_
                    rw [hB1.i12]
                    refine bp_iconst (v := 1) (q := 235) 118 rfl rfl (by decide) ?_
                    refine bp_iadd (q := 236) 119 rfl rfl ?_
                    refine bp_putI (q := 239) (ci := 9) (j := 12) 120 rfl rfl fl_Mo_90_9 cl9 hB1.kb (fun r hr => by cases hr; rfl) (by decide) rfl rfl ?_
                    refine bp_nx (X := fun h2 => MoX M h0 h2 tw (k + 1) (-6) (nI k) tl (mlV v) (v 3) (v 4) (v 5) nt.length lv fr tb.length nf nn dg nu kd pn pe T xs L ps L1 p1 nt tb fd) (hB1.s12 (nI_1 k)) (fun h2 hB2 => ?_)
                    refine bp_goto (tgt := 7) 121 rfl (by decide) ?_
                    have hk : k < T.length := (nI_lt_iff (by omega) (by omega)).mp z46
                    have hS := RR_step (σ := (k, 0, -1, lv, false, true, false, v, nt, fd, nm, L1, p1)) hT hok rfl hk rfl
                    have hO := okN_thing (fa := 0) (me := -1) (fr := false) (en := false) hT hok hk
                    have y59 := (nI_eq_iff (a := tc T k) (b := 59) (by have := tc_lt hT k; omega) (by decide)).mp (by first | exact z75 | exact Classical.not_not.mp z75)
                    have y8 : fd.length = 8 := (nI_eq_iff (b := 8) (by omega) (by decide)).mp z172
                    refine lp_tableF (by decide) hB2 ?_
                    refine hQ _ (OUTB.bad2 hB2 ?_ ?_ (by decide)) <;> (rw [hS, bt_59f y59 (Or.inr (by omega)), RR_f (show (-6 : Int32) ≠ 0 by decide)])
                  · refine bp_iload_n (q := 176) 87 rfl rfl rfl rfl ?_
                    refine bp_if_le (q := 179) (tgt := 188) 88 rfl rfl (by decide) (fun z176 => ?_) (fun z176 => ?_)
                    · refine bp_iconst (v := 0) (q := 189) 93 rfl rfl (by decide) ?_
                      refine bp_bipush (v := -6) (q := 191) 94 rfl rfl (by decide) ?_
                      refine bp_aload_n (q := 192) 95 rfl rfl rfl rfl ?_
                      refine bp_getI (q := 195) (ci := 9) (j := 12) 96 rfl rfl fl_Mo_90_9 hB0.kb rfl ?_
                      rw [hB0.i12]
                      refine bp_callV (q := 198) (ci := 9) 97 rfl rfl cw_Mo_failIf lk_Mo_118 rfl hB0.kb wd1449 wd44 rfl rfl (Nat.le_of_ble_eq_true rfl) ⟨Nat.le_of_ble_eq_true rfl, Nat.le_of_ble_eq_true rfl⟩ (s_Mo_failIfN hB0 rfl ?_)
                      refine bp_aload_n (q := 199) 98 rfl rfl rfl rfl ?_
                      refine bp_getI (q := 202) (ci := 9) (j := 13) 99 rfl rfl fl_Mo_69_9 hB0.kb rfl ?_
                      rw [hB0.i13]
                      refine bp_if_ne (q := 205) (tgt := 224) 100 rfl rfl (by decide) (fun z => absurd z (by decide)) (fun z202 => ?_)
                      refine bp_aload_n (q := 206) 101 rfl rfl rfl rfl ?_
                      refine bp_getR (x := M 26) (q := 209) (ci := 9) (j := 26) 102 rfl rfl fl_Mo_49_9 hB0.kb rfl hB0.r26 ?_
                      refine bp_iload_n (q := 210) 103 rfl rfl rfl rfl ?_
                      refine bp_iload_n (q := 211) 104 rfl rfl rfl rfl ?_
                      refine bp_if_ne (q := 214) (tgt := 218) 105 rfl rfl (by decide) (fun z211 => ?_) (fun z211 => ?_)
                      · have y0 : fd.length = 0 := by have := (nI_le_iff (b := 0) (by omega) (by decide)).mp z176; omega
                        exact absurd (by rw [y0]; rfl) z211
                      · refine bp_iconst (v := 0) (q := 215) 106 rfl rfl (by decide) ?_
                        refine bp_goto (tgt := 220) 107 rfl (by decide) ?_
                        refine bp_iast (q := 221) 109 rfl rfl hB0.k26 (vp_inL (N := 8) hB0.l26 (by have := hok.2.2.2.2.2.1.1; have q : ¬ fd.length = 8 := fun e => z172 (by rw [e]; rfl); omega) (by decide))  ?_
                        rw [nI_clamp (by omega)]
                        rw [show (0 : Int32) = nI 0 from rfl]
                        refine bp_nx (X := fun h1 => MoX M h0 h1 tw k 0 fm tl (mlV v) (v 3) (v 4) (v 5) nt.length lv fr tb.length nf nn dg nu kd pn pe T xs L ps L1 p1 nt tb (fd ++ [0])) (hB0.push26 (by have := hok.2.2.2.2.2.1.1; have q : ¬ fd.length = 8 := fun e => z172 (by rw [e]; rfl); omega)) (fun h1 hB1 => ?_)
                        refine bp_iinc (v := nI (fd.length + 1)) (q := 224) 110 rfl rfl rfl (nI_1 _) (by decide) (bp_up1 rfl) ?_
                        refine bp_lconst (v := 0) (q := 225) 111 rfl rfl (by decide) ?_
                        refine bp_lstore_n (q := 226) 112 rfl rfl rfl (by decide) (bp_uq2 rfl) ?_
                        refine bp_iconst (v := 0) (q := 227) 113 rfl rfl (by decide) ?_
                        refine bp_istore (q := 229) 114 rfl rfl (by decide) (bp_up4 rfl) ?_
                        refine bp_aload_n (q := 230) 115 rfl rfl rfl rfl ?_
                        refine bp_dup (q := 231) 116 rfl rfl rfl ?_
                        refine bp_getI (q := 234) (ci := 9) (j := 12) 117 rfl rfl fl_Mo_90_9 hB1.kb rfl ?_
                        rw [hB1.i12]
                        refine bp_iconst (v := 1) (q := 235) 118 rfl rfl (by decide) ?_
                        refine bp_iadd (q := 236) 119 rfl rfl ?_
                        refine bp_putI (q := 239) (ci := 9) (j := 12) 120 rfl rfl fl_Mo_90_9 cl9 hB1.kb (fun r hr => by cases hr; rfl) (by decide) rfl rfl ?_
                        refine bp_nx (X := fun h2 => MoX M h0 h2 tw (k + 1) 0 fm tl (mlV v) (v 3) (v 4) (v 5) nt.length lv fr tb.length nf nn dg nu kd pn pe T xs L ps L1 p1 nt tb (fd ++ [0])) (hB1.s12 (nI_1 k)) (fun h2 hB2 => ?_)
                        refine bp_goto (tgt := 7) 121 rfl (by decide) ?_
                        have hk : k < T.length := (nI_lt_iff (by omega) (by omega)).mp z46
                        have hS := RR_step (σ := (k, 0, -1, lv, false, true, false, v, nt, fd, nm, L1, p1)) hT hok rfl hk rfl
                        have hO := okN_thing (fa := 0) (me := -1) (fr := false) (en := false) hT hok hk
                        have y59 := (nI_eq_iff (a := tc T k) (b := 59) (by have := tc_lt hT k; omega) (by decide)).mp (by first | exact z75 | exact Classical.not_not.mp z75)
                        have y8 : fd.length < 8 := by have := hok.2.2.2.2.2.1.1; have q : ¬ fd.length = 8 := fun e => z172 (by rw [e]; rfl); omega
                        have y0 : fd = [] := List.eq_nil_of_length_eq_zero (by have := (nI_le_iff (b := 0) (by omega) (by decide)).mp z176; omega)
                        rw [bt_59 y59 (tC0 y0) y8] at hS hO
                        rw [show nI (fd.length + 1) = nI (fd ++ [0]).length from by rw [List.length_append]; rfl]
                        exact ih (k + 1) _ [] 0 _ _ _ (by omega) hO.1 (fun x hx => nomatch hx) (fun _ => rfl) hB2 (by omega) (fun h' ho => hQ h' (ho.tr hS))
                    · refine bp_iload (q := 181) 89 rfl rfl rfl ?_
                      refine bp_if_ge (q := 184) (tgt := 188) 90 rfl rfl (by decide) (fun z => absurd z (by decide)) (fun z181 => ?_)
                      refine bp_iconst (v := 1) (q := 185) 91 rfl rfl (by decide) ?_
                      refine bp_goto (tgt := 189) 92 rfl (by decide) ?_
                      refine bp_bipush (v := -6) (q := 191) 94 rfl rfl (by decide) ?_
                      refine bp_aload_n (q := 192) 95 rfl rfl rfl rfl ?_
                      refine bp_getI (q := 195) (ci := 9) (j := 12) 96 rfl rfl fl_Mo_90_9 hB0.kb rfl ?_
                      rw [hB0.i12]
                      refine bp_callV (q := 198) (ci := 9) 97 rfl rfl cw_Mo_failIf lk_Mo_118 rfl hB0.kb wd1449 wd44 rfl rfl (Nat.le_of_ble_eq_true rfl) ⟨Nat.le_of_ble_eq_true rfl, Nat.le_of_ble_eq_true rfl⟩ (s_Mo_failIf0 hB0 (by decide) rfl (fun h1 hB1 => ?_))
                      refine bp_aload_n (q := 199) 98 rfl rfl rfl rfl ?_
                      refine bp_getI (q := 202) (ci := 9) (j := 13) 99 rfl rfl fl_Mo_69_9 hB1.kb rfl ?_
                      rw [hB1.i13]
                      refine bp_if_ne (q := 205) (tgt := 224) 100 rfl rfl (by decide) (fun z202 => ?_) (fun z => absurd z (by decide))
                      refine bp_lconst (v := 0) (q := 225) 111 rfl rfl (by decide) ?_
                      refine bp_lstore_n (q := 226) 112 rfl rfl rfl (by decide) (bp_uq2 rfl) ?_
                      refine bp_iconst (v := 0) (q := 227) 113 rfl rfl (by decide) ?_
                      refine bp_istore (q := 229) 114 rfl rfl (by decide) (bp_up4 rfl) ?_
                      refine bp_aload_n (q := 230) 115 rfl rfl rfl rfl ?_
                      refine bp_dup (q := 231) 116 rfl rfl rfl ?_
                      refine bp_getI (q := 234) (ci := 9) (j := 12) 117 rfl rfl fl_Mo_90_9 hB1.kb rfl ?_
                      rw [hB1.i12]
                      refine bp_iconst (v := 1) (q := 235) 118 rfl rfl (by decide) ?_
                      refine bp_iadd (q := 236) 119 rfl rfl ?_
                      refine bp_putI (q := 239) (ci := 9) (j := 12) 120 rfl rfl fl_Mo_90_9 cl9 hB1.kb (fun r hr => by cases hr; rfl) (by decide) rfl rfl ?_
                      refine bp_nx (X := fun h2 => MoX M h0 h2 tw (k + 1) (-6) (nI k) tl (mlV v) (v 3) (v 4) (v 5) nt.length lv fr tb.length nf nn dg nu kd pn pe T xs L ps L1 p1 nt tb fd) (hB1.s12 (nI_1 k)) (fun h2 hB2 => ?_)
                      refine bp_goto (tgt := 7) 121 rfl (by decide) ?_
                      have hk : k < T.length := (nI_lt_iff (by omega) (by omega)).mp z46
                      have hS := RR_step (σ := (k, 0, -1, lv, false, true, false, v, nt, fd, nm, L1, p1)) hT hok rfl hk rfl
                      have hO := okN_thing (fa := 0) (me := -1) (fr := false) (en := false) hT hok hk
                      have y59 := (nI_eq_iff (a := tc T k) (b := 59) (by have := tc_lt hT k; omega) (by decide)).mp (by first | exact z75 | exact Classical.not_not.mp z75)
                      have y8 : fd.length < 8 := by have := hok.2.2.2.2.2.1.1; have q : ¬ fd.length = 8 := fun e => z172 (by rw [e]; rfl); omega
                      have y0 : ¬ fd = [] := fun e => z176 (by rw [e]; decide)
                      have y7 : 7 < nm.length := Nat.not_le.mp (fun e => z155 ((nI_le_iff (b := 7) (by omega) (by decide)).mpr e))
                      have hc : enC fd nm = none := tC2 y0 y7
                      refine lp_tableF (by decide) hB2 ?_
                      refine hQ _ (OUTB.bad2 hB2 ?_ ?_ (by decide)) <;> (rw [hS, bt_59f y59 (Or.inl hc), RR_f (show (-6 : Int32) ≠ 0 by decide)])
            · have y59 := (nI_eq_iff (a := tc T k) (b := 59) (by have := tc_lt hT k; omega) (by decide)).mp (by first | exact z75 | exact Classical.not_not.mp z75)
              exact absurd (bI1 z105) (by rw [y59]; decide)
          · refine bp_iload (q := 80) 40 rfl rfl rfl ?_
            refine bp_callS (q := 83) 41 rfl rfl cw_Mo_small lk_Mo_162 wd1472 rfl rfl (Nat.le_of_ble_eq_true rfl) ⟨Nat.le_of_ble_eq_true rfl, Nat.le_of_ble_eq_true rfl⟩ (s_Mo_small (ro := false) (by have := tc_lt hT k; omega) ?_)
            refine bp_if_ne (q := 86) (tgt := 90) 42 rfl rfl (by decide) (fun z83 => ?_) (fun z83 => ?_)
            · refine bp_iconst (v := 0) (q := 91) 45 rfl rfl (by decide) ?_
              refine bp_bipush (v := -6) (q := 93) 46 rfl rfl (by decide) ?_
              refine bp_aload_n (q := 94) 47 rfl rfl rfl rfl ?_
              refine bp_getI (q := 97) (ci := 9) (j := 12) 48 rfl rfl fl_Mo_90_9 hB0.kb rfl ?_
              rw [hB0.i12]
              refine bp_callV (q := 100) (ci := 9) 49 rfl rfl cw_Mo_failIf lk_Mo_118 rfl hB0.kb wd1449 wd44 rfl rfl (Nat.le_of_ble_eq_true rfl) ⟨Nat.le_of_ble_eq_true rfl, Nat.le_of_ble_eq_true rfl⟩ (s_Mo_failIfN hB0 rfl ?_)
              refine bp_iload (q := 102) 50 rfl rfl rfl ?_
              refine bp_callS (q := 105) 51 rfl rfl cw_Mo_small lk_Mo_162 wd1472 rfl rfl (Nat.le_of_ble_eq_true rfl) ⟨Nat.le_of_ble_eq_true rfl, Nat.le_of_ble_eq_true rfl⟩ (s_Mo_small (ro := false) (by have := tc_lt hT k; omega) ?_)
              refine bp_if_eq (q := 108) (tgt := 137) 52 rfl rfl (by decide) (fun z105 => ?_) (fun z105 => ?_)
              · exact absurd z105 z83
              · refine bp_iload (q := 110) 53 rfl rfl rfl ?_
                refine bp_bipush (v := 8) (q := 112) 54 rfl rfl (by decide) ?_
                refine bp_icmp_ge (q := 115) (tgt := 129) 55 rfl rfl (by decide) (fun z112 => ?_) (fun z112 => ?_)
                · refine bp_lload_n (q := 130) 65 rfl rfl rfl rfl ?_
                  refine bp_lstore_n (q := 131) 66 rfl rfl rfl (by decide) (bp_uq2 rfl) ?_
                  refine bp_iinc (v := nI (nm ++ [tc T k]).length) (q := 134) 67 rfl rfl rfl (by rw [List.length_append]; exact nI_1 _) (by decide) (bp_up4 rfl) ?_
                  refine bp_goto (tgt := 229) 68 rfl (by decide) ?_
                  refine bp_aload_n (q := 230) 115 rfl rfl rfl rfl ?_
                  refine bp_dup (q := 231) 116 rfl rfl rfl ?_
                  refine bp_getI (q := 234) (ci := 9) (j := 12) 117 rfl rfl fl_Mo_90_9 hB0.kb rfl ?_
                  rw [hB0.i12]
                  refine bp_iconst (v := 1) (q := 235) 118 rfl rfl (by decide) ?_
                  refine bp_iadd (q := 236) 119 rfl rfl ?_
                  refine bp_putI (q := 239) (ci := 9) (j := 12) 120 rfl rfl fl_Mo_90_9 cl9 hB0.kb (fun r hr => by cases hr; rfl) (by decide) rfl rfl ?_
                  refine bp_nx (X := fun h1 => MoX M h0 h1 tw (k + 1) 0 fm tl (mlV v) (v 3) (v 4) (v 5) nt.length lv fr tb.length nf nn dg nu kd pn pe T xs L ps L1 p1 nt tb fd) (hB0.s12 (nI_1 k)) (fun h1 hB1 => ?_)
                  refine bp_goto (tgt := 7) 121 rfl (by decide) ?_
                  have hk : k < T.length := (nI_lt_iff (by omega) (by omega)).mp z46
                  have hS := RR_step (σ := (k, 0, -1, lv, false, true, false, v, nt, fd, nm, L1, p1)) hT hok rfl hk rfl
                  have hO := okN_thing (fa := 0) (me := -1) (fr := false) (en := false) hT hok hk
                  have ys := bI1 z105
                  have ysl : nm.length < T.length := by have := hok.2.2.2.2.2.2.1.1 rfl; omega
                  rw [bt_sm ys] at hS hO
                  have _q := hn
                  exact ih (k + 1) fd (nm ++ [tc T k]) _ _ _ _ (by omega) hO.1 (ok8_sn h8 (by have := tc_lt hT k; unfold smL at ys; simp at ys; omega)) (fun hl => by rw [List.length_append] at hl; simp at hl; have := (nI_le_iff (a := 8) (by decide) (by omega)).mp z112; omega) hB1 (by omega) (fun h' ho => hQ h' (ho.tr hS))
                · refine bp_lload_n (q := 116) 56 rfl rfl rfl rfl ?_
                  refine bp_iload (q := 118) 57 rfl rfl rfl ?_
                  refine bp_i2l (q := 119) 58 rfl rfl ?_
                  refine bp_bipush (v := 8) (q := 121) 59 rfl rfl (by decide) ?_
                  refine bp_iload (q := 123) 60 rfl rfl rfl ?_
                  refine bp_imul (q := 124) 61 rfl rfl ?_
                  refine bp_lshl (q := 125) 62 rfl rfl ?_
                  refine bp_lor (q := 126) 63 rfl rfl ?_
                  refine bp_goto (tgt := 130) 64 rfl (by decide) ?_
                  refine bp_lstore_n (q := 131) 66 rfl rfl rfl (by decide) (bp_uq2 rfl) ?_
                  refine bp_iinc (v := nI (nm ++ [tc T k]).length) (q := 134) 67 rfl rfl rfl (by rw [List.length_append]; exact nI_1 _) (by decide) (bp_up4 rfl) ?_
                  refine bp_goto (tgt := 229) 68 rfl (by decide) ?_
                  refine bp_aload_n (q := 230) 115 rfl rfl rfl rfl ?_
                  refine bp_dup (q := 231) 116 rfl rfl rfl ?_
                  refine bp_getI (q := 234) (ci := 9) (j := 12) 117 rfl rfl fl_Mo_90_9 hB0.kb rfl ?_
                  rw [hB0.i12]
                  refine bp_iconst (v := 1) (q := 235) 118 rfl rfl (by decide) ?_
                  refine bp_iadd (q := 236) 119 rfl rfl ?_
                  refine bp_putI (q := 239) (ci := 9) (j := 12) 120 rfl rfl fl_Mo_90_9 cl9 hB0.kb (fun r hr => by cases hr; rfl) (by decide) rfl rfl ?_
                  refine bp_nx (X := fun h1 => MoX M h0 h1 tw (k + 1) 0 fm tl (mlV v) (v 3) (v 4) (v 5) nt.length lv fr tb.length nf nn dg nu kd pn pe T xs L ps L1 p1 nt tb fd) (hB0.s12 (nI_1 k)) (fun h1 hB1 => ?_)
                  refine bp_goto (tgt := 7) 121 rfl (by decide) ?_
                  have hk : k < T.length := (nI_lt_iff (by omega) (by omega)).mp z46
                  have hS := RR_step (σ := (k, 0, -1, lv, false, true, false, v, nt, fd, nm, L1, p1)) hT hok rfl hk rfl
                  have hO := okN_thing (fa := 0) (me := -1) (fr := false) (en := false) hT hok hk
                  have ys := bI1 z105
                  have ysl : nm.length < T.length := by have := hok.2.2.2.2.2.2.1.1 rfl; omega
                  rw [bt_sm ys] at hS hO
                  have _q := hn
                  exact ih (k + 1) fd (nm ++ [tc T k]) _ _ _ _ (by omega) hO.1 (ok8_sn h8 (by have := tc_lt hT k; unfold smL at ys; simp at ys; omega)) (fun hl => by rw [List.length_append] at hl; simp at hl; exact lx_or (hx (by omega)) (by omega) h8 (tc_lt hT k)) hB1 (by omega) (fun h' ho => hQ h' (ho.tr hS))
            · refine bp_iconst (v := 1) (q := 87) 43 rfl rfl (by decide) ?_
              refine bp_goto (tgt := 91) 44 rfl (by decide) ?_
              refine bp_bipush (v := -6) (q := 93) 46 rfl rfl (by decide) ?_
              refine bp_aload_n (q := 94) 47 rfl rfl rfl rfl ?_
              refine bp_getI (q := 97) (ci := 9) (j := 12) 48 rfl rfl fl_Mo_90_9 hB0.kb rfl ?_
              rw [hB0.i12]
              refine bp_callV (q := 100) (ci := 9) 49 rfl rfl cw_Mo_failIf lk_Mo_118 rfl hB0.kb wd1449 wd44 rfl rfl (Nat.le_of_ble_eq_true rfl) ⟨Nat.le_of_ble_eq_true rfl, Nat.le_of_ble_eq_true rfl⟩ (s_Mo_failIf0 hB0 (by decide) rfl (fun h1 hB1 => ?_))
              refine bp_iload (q := 102) 50 rfl rfl rfl ?_
              refine bp_callS (q := 105) 51 rfl rfl cw_Mo_small lk_Mo_162 wd1472 rfl rfl (Nat.le_of_ble_eq_true rfl) ⟨Nat.le_of_ble_eq_true rfl, Nat.le_of_ble_eq_true rfl⟩ (s_Mo_small (ro := false) (by have := tc_lt hT k; omega) ?_)
              refine bp_if_eq (q := 108) (tgt := 137) 52 rfl rfl (by decide) (fun z105 => ?_) (fun z105 => ?_)
              · refine bp_iload (q := 139) 69 rfl rfl rfl ?_
                refine bp_bipush (v := 59) (q := 141) 70 rfl rfl (by decide) ?_
                refine bp_icmp_ne (q := 144) (tgt := 229) 71 rfl rfl (by decide) (fun z141 => ?_) (fun z141 => ?_)
                · refine bp_aload_n (q := 230) 115 rfl rfl rfl rfl ?_
                  refine bp_dup (q := 231) 116 rfl rfl rfl ?_
                  refine bp_getI (q := 234) (ci := 9) (j := 12) 117 rfl rfl fl_Mo_90_9 hB1.kb rfl ?_
                  rw [hB1.i12]
                  refine bp_iconst (v := 1) (q := 235) 118 rfl rfl (by decide) ?_
                  refine bp_iadd (q := 236) 119 rfl rfl ?_
                  refine bp_putI (q := 239) (ci := 9) (j := 12) 120 rfl rfl fl_Mo_90_9 cl9 hB1.kb (fun r hr => by cases hr; rfl) (by decide) rfl rfl ?_
                  refine bp_nx (X := fun h2 => MoX M h0 h2 tw (k + 1) (-6) (nI k) tl (mlV v) (v 3) (v 4) (v 5) nt.length lv fr tb.length nf nn dg nu kd pn pe T xs L ps L1 p1 nt tb fd) (hB1.s12 (nI_1 k)) (fun h2 hB2 => ?_)
                  refine bp_goto (tgt := 7) 121 rfl (by decide) ?_
                  have hk : k < T.length := (nI_lt_iff (by omega) (by omega)).mp z46
                  have hS := RR_step (σ := (k, 0, -1, lv, false, true, false, v, nt, fd, nm, L1, p1)) hT hok rfl hk rfl
                  have hO := okN_thing (fa := 0) (me := -1) (fr := false) (en := false) hT hok hk
                  have y10 : ¬ tc T k = 10 := (fun e => z68 (by rw [e]; rfl))
                  have y59 : ¬ tc T k = 59 := (fun e => z75 (by rw [e]; rfl))
                  have ysm : ¬ smL (tc T k) = true := by rw [(bI0 (b := smL (tc T k))).mp (by first | exact z83 | exact Classical.not_not.mp z83)]; decide
                  have y125 : ¬ tc T k = 125 := (fun e => z24 (by rw [e]; rfl))
                  refine lp_tableF (by decide) hB2 ?_
                  refine hQ _ (OUTB.bad2 hB2 ?_ ?_ (by decide)) <;> (rw [hS, bt_bad y10 ysm y59 y125, RR_f (show (-6 : Int32) ≠ 0 by decide)])
                · exact absurd (by first | exact z141 | exact Classical.not_not.mp z141) z75
              · exact absurd (by first | exact z83 | exact Classical.not_not.mp z83) z105
      · exact absurd ((nI_lt_iff (by omega) (by omega)).mpr hkT) z46
set_option maxRecDepth 100000 in
set_option maxHeartbeats 4000000 in
theorem s_Mo_readTable  (hB0 : MoX M h0 h tw i 0 fm tl (mlV v) (v 3) (v 4) (v 5) nt.length lv fr tb.length nf nn dg nu kd pn pe T xs L ps L1 p1 nt tb fd) (hT : okT T) (hfr : fr = false) (hnt : ¬ nt = []) (hok : okX T i lv true v nt [] [] L1 p1) (hj : j < i) (hQ : ∀ h', OUTB M h0 h' tw tl kd pn pe T xs L ps (i, 0, -1, lv, false, true, false, v, nt, [], [], L1, p1) j → Q none h' c s) : bp_AM l G H0 (2, 45, false, false) M_Mo_readTable h c s [.ref (M 0)] Q := by
  refine bp_of (ls := [some (.ref (M 0)), none, none, none, none, none, none]) (by decide) dt_Mo_readTable (Nat.le_of_ble_eq_true rfl) (fun q hq => hq) false ?_
  refine bp_iconst (v := 0) (q := 1) 0 rfl rfl (by decide) ?_
  refine bp_istore_n (q := 2) 1 rfl rfl rfl (by decide) (bp_up1 rfl) ?_
  refine bp_lconst (v := 0) (q := 3) 2 rfl rfl (by decide) ?_
  refine bp_lstore_n (q := 4) 3 rfl rfl rfl (by decide) (bp_uq2 rfl) ?_
  refine bp_iconst (v := 0) (q := 5) 4 rfl rfl (by decide) ?_
  refine bp_istore (q := 7) 5 rfl rfl (by decide) (bp_up4 rfl) ?_
  exact lp_table hT hfr hnt (T.length - i) i [] [] 0 _ _ _ (by omega) hok (fun x hx => nomatch hx) (fun _ => rfl) (hB0.arr26 (fd' := []) ⟨rfl, rfl, rfl, fun _ _ _ => rfl⟩ ⟨by decide, fun q hq => absurd hq (Nat.not_lt_zero q)⟩) hj hQ
end MO20
