/-! the reference looks ahead -/
def LAr (T : List Nat) (i k : Nat) (n : Int32) (e : Nat) : Prop := (k = 0 ∧ T.length ≤ i) ∨ (i < T.length ∧ ((k = 1 ∧ n = 0 ∧ e = i + 3 ∧ spl T i (i + 3) [60, 98, 62] = true) ∨ (k = 2 ∧ n = 0 ∧ e = i + 3 ∧ spl T i (i + 3) [60, 105, 62] = true) ∨ (k = 3 ∧ n = 0 ∧ e = i + 3 ∧ spl T i (i + 3) [60, 117, 62] = true) ∨ (k = 6 ∧ n = 0 ∧ e = i + 4 ∧ spl T i (i + 4) [60, 47, 98, 62] = true) ∨ (k = 7 ∧ n = 0 ∧ e = i + 4 ∧ spl T i (i + 4) [60, 47, 105, 62] = true) ∨ (k = 8 ∧ n = 0 ∧ e = i + 4 ∧ spl T i (i + 4) [60, 47, 117, 62] = true) ∨ (k = 9 ∧ n = 0 ∧ e = i + 4 ∧ spl T i (i + 4) [60, 47, 115, 62] = true) ∨ (k = 10 ∧ n = 0 ∧ e = i + 4 ∧ spl T i (i + 4) [60, 47, 99, 62] = true) ∨ (k = 11 ∧ n = 0 ∧ e = i + 4 ∧ spl T i (i + 4) [60, 47, 112, 62] = true) ∨ (k = 4 ∧ n = dgN T (i + 3) 1 99 12 ∧ e = tnE T (i + 3) + 1 ∧ spl T i (i + 3) [60, 115, 32] = true ∧ sDg T (i + 3) 62) ∨ (k = 5 ∧ n = dgN T (i + 3) 1 7 0 ∧ e = tnE T (i + 3) + 1 ∧ spl T i (i + 3) [60, 99, 32] = true ∧ sDg T (i + 3) 62) ∨ (k = 12 ∧ hdOk T i ∧ n = nI (10 * hdX T i + hdY T i) ∧ e = hdK T i + 1) ∨ (k = 13 ∧ ltR T i n e) ∨ (k = 14 ∧ (spl T i (i + 3) [60, 98, 62] = false ∧ spl T i (i + 3) [60, 105, 62] = false ∧ spl T i (i + 3) [60, 117, 62] = false ∧ spl T i (i + 4) [60, 47, 98, 62] = false ∧ spl T i (i + 4) [60, 47, 105, 62] = false ∧ spl T i (i + 4) [60, 47, 117, 62] = false ∧ spl T i (i + 4) [60, 47, 115, 62] = false ∧ spl T i (i + 4) [60, 47, 99, 62] = false ∧ spl T i (i + 4) [60, 47, 112, 62] = false) ∧ ¬ (spl T i (i + 3) [60, 115, 32] = true ∧ sDg T (i + 3) 62) ∧ ¬ (spl T i (i + 3) [60, 99, 32] = true ∧ sDg T (i + 3) 62) ∧ ¬ hdOk T i ∧ ltN T i)))
section MO27
variable {l : Launch} {G : bp_G} {H0 : Heap} {M : Nat → Nat} {h0 h : bp_H} {tw : Int32} {i : Nat} {fa : Int32} {fm : Int32} {tl : Int32} {lk : Nat} {al : Nat} {ind : Nat} {sk : Nat} {dp : Nat} {lv : Nat} {fr : Bool} {en : Nat} {nf : Nat} {nn : Nat} {dg : Nat} {nu : Int32} {kd : Nat} {pn : Int32} {pe : Nat} {T : List Nat} {xs : List Nat} {L : List (Nat × Nat)} {ps : List (Nat × Nat × Nat)} {L1 : List (Nat × Nat)} {p1 : List (Nat × Nat × Nat)} {nt : List (Nat → Nat)} {tb : List Nat} {fd : List Nat} {c s : Nat} {Q : Option Value → bp_H → Nat → Nat → Prop}
set_option maxRecDepth 100000 in
set_option maxHeartbeats 4000000 in
theorem s_Mo_partHead  (hB0 : MoX M h0 h tw i fa fm tl lk al ind sk dp lv fr en nf nn dg nu kd pn pe T xs L ps L1 p1 nt tb fd) (hT : okT T) (hi : i < 1000) (hQ1 : hdOk T i → ∀ h', MoX M h0 h' tw i fa fm tl lk al ind sk dp lv fr en nf nn dg nu kd (nI (10 * hdX T i + hdY T i)) (hdK T i + 1) T xs L ps L1 p1 nt tb fd → Q (some (.int 1)) h' c s) (hQ0 : ¬ hdOk T i → ∀ h' pn' pe', MoX M h0 h' tw i fa fm tl lk al ind sk dp lv fr en nf nn dg nu kd pn' pe' T xs L ps L1 p1 nt tb fd → Q (some (.int 0)) h' c s) : bp_AM l G H0 (3, 70, false, false) M_Mo_partHead h c s [.ref (M 0)] Q := by
  refine bp_of (ls := [some (.ref (M 0)), none, none, none, none]) (by decide) dt_Mo_partHead (Nat.le_of_ble_eq_true rfl) (fun q hq => hq) false ?_
  refine bp_aload_n (q := 1) 0 rfl rfl rfl rfl ?_
  refine bp_ldc2 (q := 4) 1 rfl rfl wd1605 ?_
  refine bp_callV (q := 7) (ci := 9) 2 rfl rfl cw_Mo_stands lk_Mo_264 rfl hB0.kb wd1585 wd66 rfl rfl (Nat.le_of_ble_eq_true rfl) ⟨Nat.le_of_ble_eq_true rfl, Nat.le_of_ble_eq_true rfl⟩ (s_Mo_stands (ro := false) hB0 hT lt_276 rfl (by omega) ?_)
  refine bp_if_ne (q := 10) (tgt := 12) 3 rfl rfl (by decide) (fun z7 => ?_) (fun z7 => ?_)
  · refine bp_aload_n (q := 13) 6 rfl rfl rfl rfl ?_
    refine bp_getI (q := 16) (ci := 9) (j := 12) 7 rfl rfl fl_Mo_90_9 hB0.kb rfl ?_
    rw [hB0.i12]
    refine bp_iconst (v := 2) (q := 17) 8 rfl rfl (by decide) ?_
    refine bp_iadd (q := 18) 9 rfl rfl ?_
    rw [show nI i + 2 = nI (i + 2) from nI_add i 2]
    refine bp_istore_n (q := 19) 10 rfl rfl rfl (by decide) (bp_up1 rfl) ?_
    refine bp_iconst (v := 0) (q := 20) 11 rfl rfl (by decide) ?_
    refine bp_istore_n (q := 21) 12 rfl rfl rfl (by decide) (bp_up2 rfl) ?_
    refine bp_aload_n (q := 22) 13 rfl rfl rfl rfl ?_
    refine bp_iload_n (q := 23) 14 rfl rfl rfl rfl ?_
    refine bp_callV (q := 26) (ci := 9) 15 rfl rfl cw_Mo_charAt lk_Mo_83 rfl hB0.kb wd1445 wd43 rfl rfl (Nat.le_of_ble_eq_true rfl) ⟨Nat.le_of_ble_eq_true rfl, Nat.le_of_ble_eq_true rfl⟩ (s_Mo_charAt (ro := false) hB0 hT (by omega) ?_)
    refine bp_bipush (v := 32) (q := 28) 16 rfl rfl (by decide) ?_
    refine bp_icmp_ne (q := 31) (tgt := 138) 17 rfl rfl (by decide) (fun z28 => ?_) (fun z28 => ?_)
    · refine bp_aload_n (q := 139) 79 rfl rfl rfl rfl ?_
      refine bp_iload_n (q := 140) 80 rfl rfl rfl rfl ?_
      refine bp_putI (q := 143) (ci := 9) (j := 32) 81 rfl rfl fl_Mo_273_9 cl9 hB0.kb (fun r hr => by cases hr; rfl) (by decide) rfl rfl ?_
      refine bp_nx (X := fun h1 => MoX M h0 h1 tw i fa fm tl lk al ind sk dp lv fr en nf nn dg nu kd (nI 0) pe T xs L ps L1 p1 nt tb fd) (hB0.s32 rfl) (fun h1 hB1 => ?_)
      refine bp_aload_n (q := 144) 82 rfl rfl rfl rfl ?_
      refine bp_iload_n (q := 145) 83 rfl rfl rfl rfl ?_
      refine bp_iconst (v := 1) (q := 146) 84 rfl rfl (by decide) ?_
      refine bp_iadd (q := 147) 85 rfl rfl ?_
      refine bp_putI (q := 150) (ci := 9) (j := 33) 86 rfl rfl fl_Mo_270_9 cl9 hB1.kb (fun r hr => by cases hr; rfl) (by decide) rfl rfl ?_
      refine bp_nx (X := fun h2 => MoX M h0 h2 tw i fa fm tl lk al ind sk dp lv fr en nf nn dg nu kd (nI 0) (i + 2 + 1) T xs L ps L1 p1 nt tb fd) (hB1.s33 (nI_1 _)) (fun h2 hB2 => ?_)
      refine bp_aload_n (q := 151) 87 rfl rfl rfl rfl ?_
      refine bp_iload_n (q := 152) 88 rfl rfl rfl rfl ?_
      refine bp_callV (q := 155) (ci := 9) 89 rfl rfl cw_Mo_charAt lk_Mo_83 rfl hB2.kb wd1445 wd43 rfl rfl (Nat.le_of_ble_eq_true rfl) ⟨Nat.le_of_ble_eq_true rfl, Nat.le_of_ble_eq_true rfl⟩ (s_Mo_charAt (ro := false) hB2 hT (by omega) ?_)
      refine bp_bipush (v := 62) (q := 157) 90 rfl rfl (by decide) ?_
      refine bp_icmp_ne (q := 160) (tgt := 164) 91 rfl rfl (by decide) (fun z157 => ?_) (fun z157 => ?_)
      · refine bp_iconst (v := 0) (q := 165) 94 rfl rfl (by decide) ?_
        refine bp_iret 95 rfl rfl (by first | rfl | assumption) ⟨_, rfl, ?_⟩
        have y1 : spl T i (i + 2) [60, 112] = true := bI1 z7
        have y2 : ¬ tc T (i + 2) = 32 := (fun e => z28 (by rw [e]; rfl))
        have eX : hdX T i = 0 := if_neg y2
        have eY : hdY T i = 0 := if_neg y2
        have eK : hdK T i = i + 2 := if_neg y2
        exact hQ0 (fun z => by have e := z.2.2; rw [eK] at e; exact z157 (by rw [e]; rfl)) _ _ _ hB2
      · refine bp_iconst (v := 1) (q := 161) 92 rfl rfl (by decide) ?_
        refine bp_goto (tgt := 165) 93 rfl (by decide) ?_
        refine bp_iret 95 rfl rfl (by first | rfl | assumption) ⟨_, rfl, ?_⟩
        have y1 : spl T i (i + 2) [60, 112] = true := bI1 z7
        have y2 : ¬ tc T (i + 2) = 32 := (fun e => z28 (by rw [e]; rfl))
        have eX : hdX T i = 0 := if_neg y2
        have eY : hdY T i = 0 := if_neg y2
        have eK : hdK T i = i + 2 := if_neg y2
        have z := hQ1 ⟨y1, fun q => by have h1 := q.1; have h2 := q.2.1; have h3 := q.2.2; rw [eX] at h2; rw [eY] at h3; exact y2 h1, by rw [eK]; exact (nI_eq_iff (a := tc T (i + 2)) (b := 62) (by have := tc_lt hT (i + 2); omega) (by decide)).mp (by first | exact z157 | exact Classical.not_not.mp z157)⟩
        rw [eX, eY, eK] at z
        exact z _ hB2
    · refine bp_iinc (v := nI (i + 3)) (q := 34) 18 rfl rfl rfl (nI_1 (i + 2)) (by decide) (bp_up1 rfl) ?_
      refine bp_aload_n (q := 35) 19 rfl rfl rfl rfl ?_
      refine bp_iload_n (q := 36) 20 rfl rfl rfl rfl ?_
      refine bp_callV (q := 39) (ci := 9) 21 rfl rfl cw_Mo_charAt lk_Mo_83 rfl hB0.kb wd1445 wd43 rfl rfl (Nat.le_of_ble_eq_true rfl) ⟨Nat.le_of_ble_eq_true rfl, Nat.le_of_ble_eq_true rfl⟩ (s_Mo_charAt (ro := false) hB0 hT (by omega) ?_)
      refine bp_bipush (v := 67) (q := 41) 22 rfl rfl (by decide) ?_
      refine bp_icmp_ne (q := 44) (tgt := 48) 23 rfl rfl (by decide) (fun z41 => ?_) (fun z41 => ?_)
      · refine bp_aload_n (q := 49) 26 rfl rfl rfl rfl ?_
        refine bp_iload_n (q := 50) 27 rfl rfl rfl rfl ?_
        refine bp_callV (q := 53) (ci := 9) 28 rfl rfl cw_Mo_charAt lk_Mo_83 rfl hB0.kb wd1445 wd43 rfl rfl (Nat.le_of_ble_eq_true rfl) ⟨Nat.le_of_ble_eq_true rfl, Nat.le_of_ble_eq_true rfl⟩ (s_Mo_charAt (ro := false) hB0 hT (by omega) ?_)
        refine bp_bipush (v := 82) (q := 55) 29 rfl rfl (by decide) ?_
        refine bp_icmp_ne (q := 58) (tgt := 62) 30 rfl rfl (by decide) (fun z55 => ?_) (fun z55 => ?_)
        · refine bp_iconst (v := 0) (q := 63) 33 rfl rfl (by decide) ?_
          refine bp_istore_n (q := 64) 34 rfl rfl rfl (by decide) (bp_up3 rfl) ?_
          refine bp_iload_n (q := 65) 35 rfl rfl rfl rfl ?_
          refine bp_iload_n (q := 66) 36 rfl rfl rfl rfl ?_
          refine bp_if_le (q := 69) (tgt := 73) 37 rfl rfl (by decide) (fun z66 => ?_) (fun z => absurd z (by decide))
          refine bp_iconst (v := 0) (q := 74) 40 rfl rfl (by decide) ?_
          refine bp_iadd (q := 75) 41 rfl rfl ?_
          rw [show nI (i + 3) + 0 = nI (i + 3) from nI_add (i + 3) 0]
          refine bp_istore_n (q := 76) 42 rfl rfl rfl (by decide) (bp_up1 rfl) ?_
          refine bp_aload_n (q := 77) 43 rfl rfl rfl rfl ?_
          refine bp_iload_n (q := 78) 44 rfl rfl rfl rfl ?_
          refine bp_callV (q := 81) (ci := 9) 45 rfl rfl cw_Mo_charAt lk_Mo_83 rfl hB0.kb wd1445 wd43 rfl rfl (Nat.le_of_ble_eq_true rfl) ⟨Nat.le_of_ble_eq_true rfl, Nat.le_of_ble_eq_true rfl⟩ (s_Mo_charAt (ro := false) hB0 hT (by omega) ?_)
          refine bp_callS (q := 84) 46 rfl rfl cw_Mo_digit lk_Mo_158 wd1479 rfl rfl (Nat.le_of_ble_eq_true rfl) ⟨Nat.le_of_ble_eq_true rfl, Nat.le_of_ble_eq_true rfl⟩ (s_Mo_digit (ro := false) (n := tc T (i + 3)) (by have := tc_lt hT (i + 3); omega) ?_)
          refine bp_if_eq (q := 87) (tgt := 108) 47 rfl rfl (by decide) (fun z84 => ?_) (fun z84 => ?_)
          · refine bp_iconst (v := 0) (q := 109) 59 rfl rfl (by decide) ?_
            refine bp_istore (q := 111) 60 rfl rfl (by decide) (bp_up4 rfl) ?_
            refine bp_iload_n (q := 112) 61 rfl rfl rfl rfl ?_
            refine bp_iload (q := 114) 62 rfl rfl rfl ?_
            refine bp_if_le (q := 117) (tgt := 121) 63 rfl rfl (by decide) (fun z114 => ?_) (fun z => absurd z (by decide))
            refine bp_iconst (v := 0) (q := 122) 66 rfl rfl (by decide) ?_
            refine bp_iadd (q := 123) 67 rfl rfl ?_
            rw [show nI (i + 3) + 0 = nI (i + 3) from nI_add (i + 3) 0]
            refine bp_istore_n (q := 124) 68 rfl rfl rfl (by decide) (bp_up1 rfl) ?_
            refine bp_bipush (v := 10) (q := 126) 69 rfl rfl (by decide) ?_
            refine bp_iload_n (q := 127) 70 rfl rfl rfl rfl ?_
            refine bp_imul (q := 128) 71 rfl rfl ?_
            refine bp_iload (q := 130) 72 rfl rfl rfl ?_
            refine bp_iadd (q := 131) 73 rfl rfl ?_
            rw [show (10 : Int32) * 0 + 0 = nI (10 * 0 + 0) from by decide]
            refine bp_istore_n (q := 132) 74 rfl rfl rfl (by decide) (bp_up2 rfl) ?_
            refine bp_iload_n (q := 133) 75 rfl rfl rfl rfl ?_
            refine bp_if_ne (q := 136) (tgt := 138) 76 rfl rfl (by decide) (fun z133 => ?_) (fun z133 => ?_)
            · exact absurd rfl z133
            · refine bp_iconst (v := 0) (q := 137) 77 rfl rfl (by decide) ?_
              refine bp_iret 78 rfl rfl (by first | rfl | assumption) ⟨_, rfl, ?_⟩
              have y1 : spl T i (i + 2) [60, 112] = true := bI1 z7
              have y2 := (nI_eq_iff (a := tc T (i + 2)) (b := 32) (by have := tc_lt hT (i + 2); omega) (by decide)).mp (by first | exact z28 | exact Classical.not_not.mp z28)
              have eA : alA T (i + 3) = 0 := (if_neg (fun e => z41 (by rw [e]; rfl))).trans (if_neg (fun e => z55 (by rw [e]; rfl)))
              have eI : inA T (i + 3) = 0 := if_neg (fun z => by have e := bI0.mp z84; rw [dgL_is.mpr (by omega)] at e; cases e)
              have eX : hdX T i = 0 := (if_pos y2).trans eA
              have eY : hdY T i = 0 := (if_pos y2).trans (by rw [eA]; exact eI)
              have eK : hdK T i = i + 3 := (if_pos y2).trans (by rw [eA]; show i + 3 + 0 + bn1 (inA T (i + 3)) = _; rw [eI]; rfl)
              exact hQ0 (fun z => z.2.1 ⟨y2, eX, eY⟩) _ _ _ hB0
          · refine bp_aload_n (q := 88) 48 rfl rfl rfl rfl ?_
            refine bp_iload_n (q := 89) 49 rfl rfl rfl rfl ?_
            refine bp_callV (q := 92) (ci := 9) 50 rfl rfl cw_Mo_charAt lk_Mo_83 rfl hB0.kb wd1445 wd43 rfl rfl (Nat.le_of_ble_eq_true rfl) ⟨Nat.le_of_ble_eq_true rfl, Nat.le_of_ble_eq_true rfl⟩ (s_Mo_charAt (ro := false) hB0 hT (by omega) ?_)
            refine bp_bipush (v := 48) (q := 94) 51 rfl rfl (by decide) ?_
            refine bp_icmp_eq (q := 97) (tgt := 108) 52 rfl rfl (by decide) (fun z94 => ?_) (fun z94 => ?_)
            · refine bp_iconst (v := 0) (q := 109) 59 rfl rfl (by decide) ?_
              refine bp_istore (q := 111) 60 rfl rfl (by decide) (bp_up4 rfl) ?_
              refine bp_iload_n (q := 112) 61 rfl rfl rfl rfl ?_
              refine bp_iload (q := 114) 62 rfl rfl rfl ?_
              refine bp_if_le (q := 117) (tgt := 121) 63 rfl rfl (by decide) (fun z114 => ?_) (fun z => absurd z (by decide))
              refine bp_iconst (v := 0) (q := 122) 66 rfl rfl (by decide) ?_
              refine bp_iadd (q := 123) 67 rfl rfl ?_
              rw [show nI (i + 3) + 0 = nI (i + 3) from nI_add (i + 3) 0]
              refine bp_istore_n (q := 124) 68 rfl rfl rfl (by decide) (bp_up1 rfl) ?_
              refine bp_bipush (v := 10) (q := 126) 69 rfl rfl (by decide) ?_
              refine bp_iload_n (q := 127) 70 rfl rfl rfl rfl ?_
              refine bp_imul (q := 128) 71 rfl rfl ?_
              refine bp_iload (q := 130) 72 rfl rfl rfl ?_
              refine bp_iadd (q := 131) 73 rfl rfl ?_
              rw [show (10 : Int32) * 0 + 0 = nI (10 * 0 + 0) from by decide]
              refine bp_istore_n (q := 132) 74 rfl rfl rfl (by decide) (bp_up2 rfl) ?_
              refine bp_iload_n (q := 133) 75 rfl rfl rfl rfl ?_
              refine bp_if_ne (q := 136) (tgt := 138) 76 rfl rfl (by decide) (fun z133 => ?_) (fun z133 => ?_)
              · exact absurd rfl z133
              · refine bp_iconst (v := 0) (q := 137) 77 rfl rfl (by decide) ?_
                refine bp_iret 78 rfl rfl (by first | rfl | assumption) ⟨_, rfl, ?_⟩
                have y1 : spl T i (i + 2) [60, 112] = true := bI1 z7
                have y2 := (nI_eq_iff (a := tc T (i + 2)) (b := 32) (by have := tc_lt hT (i + 2); omega) (by decide)).mp (by first | exact z28 | exact Classical.not_not.mp z28)
                have eA : alA T (i + 3) = 0 := (if_neg (fun e => z41 (by rw [e]; rfl))).trans (if_neg (fun e => z55 (by rw [e]; rfl)))
                have y0 := (nI_eq_iff (a := tc T (i + 3)) (b := 48) (by have := tc_lt hT (i + 3); omega) (by decide)).mp (by first | exact z94 | exact Classical.not_not.mp z94)
                have eI : inA T (i + 3) = 0 := if_neg (by omega)
                have eX : hdX T i = 0 := (if_pos y2).trans eA
                have eY : hdY T i = 0 := (if_pos y2).trans (by rw [eA]; exact eI)
                have eK : hdK T i = i + 3 := (if_pos y2).trans (by rw [eA]; show i + 3 + 0 + bn1 (inA T (i + 3)) = _; rw [eI]; rfl)
                exact hQ0 (fun z => z.2.1 ⟨y2, eX, eY⟩) _ _ _ hB0
            · refine bp_aload_n (q := 98) 53 rfl rfl rfl rfl ?_
              refine bp_iload_n (q := 99) 54 rfl rfl rfl rfl ?_
              refine bp_callV (q := 102) (ci := 9) 55 rfl rfl cw_Mo_charAt lk_Mo_83 rfl hB0.kb wd1445 wd43 rfl rfl (Nat.le_of_ble_eq_true rfl) ⟨Nat.le_of_ble_eq_true rfl, Nat.le_of_ble_eq_true rfl⟩ (s_Mo_charAt (ro := false) hB0 hT (by omega) ?_)
              refine bp_bipush (v := 48) (q := 104) 56 rfl rfl (by decide) ?_
              refine bp_isub (q := 105) 57 rfl rfl ?_
              have hdg := dgL_is.mp (bI1 z84)
              rw [show nI (tc T (i + 3)) - 48 = nI (tc T (i + 3) - 48) from nI_sub (b := 48) (by omega)]
              refine bp_goto (tgt := 109) 58 rfl (by decide) ?_
              refine bp_istore (q := 111) 60 rfl rfl (by decide) (bp_up4 rfl) ?_
              refine bp_iload_n (q := 112) 61 rfl rfl rfl rfl ?_
              refine bp_iload (q := 114) 62 rfl rfl rfl ?_
              refine bp_if_le (q := 117) (tgt := 121) 63 rfl rfl (by decide) (fun z114 => ?_) (fun z114 => ?_)
              · have := (nI_le_iff (b := 0) (by have := tc_lt hT (i + 3); omega) (by decide)).mp z114
                have y0 : ¬ tc T (i + 3) = 48 := (fun e => z94 (by rw [e]; rfl))
                omega
              · refine bp_iconst (v := 1) (q := 118) 64 rfl rfl (by decide) ?_
                refine bp_goto (tgt := 122) 65 rfl (by decide) ?_
                refine bp_iadd (q := 123) 67 rfl rfl ?_
                rw [show nI (i + 3) + 1 = nI (i + 4) from nI_add (i + 3) 1]
                refine bp_istore_n (q := 124) 68 rfl rfl rfl (by decide) (bp_up1 rfl) ?_
                refine bp_bipush (v := 10) (q := 126) 69 rfl rfl (by decide) ?_
                refine bp_iload_n (q := 127) 70 rfl rfl rfl rfl ?_
                refine bp_imul (q := 128) 71 rfl rfl ?_
                refine bp_iload (q := 130) 72 rfl rfl rfl ?_
                refine bp_iadd (q := 131) 73 rfl rfl ?_
                rw [show (10 : Int32) * 0 + nI (tc T (i + 3) - 48) = nI (10 * 0 + (tc T (i + 3) - 48)) from by rw [show (10 : Int32) * 0 = nI (10 * 0) from by decide, nI_add]]
                refine bp_istore_n (q := 132) 74 rfl rfl rfl (by decide) (bp_up2 rfl) ?_
                refine bp_iload_n (q := 133) 75 rfl rfl rfl rfl ?_
                refine bp_if_ne (q := 136) (tgt := 138) 76 rfl rfl (by decide) (fun z133 => ?_) (fun z133 => ?_)
                · refine bp_aload_n (q := 139) 79 rfl rfl rfl rfl ?_
                  refine bp_iload_n (q := 140) 80 rfl rfl rfl rfl ?_
                  refine bp_putI (q := 143) (ci := 9) (j := 32) 81 rfl rfl fl_Mo_273_9 cl9 hB0.kb (fun r hr => by cases hr; rfl) (by decide) rfl rfl ?_
                  refine bp_nx (X := fun h1 => MoX M h0 h1 tw i fa fm tl lk al ind sk dp lv fr en nf nn dg nu kd (nI (10 * 0 + (tc T (i + 3) - 48))) pe T xs L ps L1 p1 nt tb fd) (hB0.s32 rfl) (fun h1 hB1 => ?_)
                  refine bp_aload_n (q := 144) 82 rfl rfl rfl rfl ?_
                  refine bp_iload_n (q := 145) 83 rfl rfl rfl rfl ?_
                  refine bp_iconst (v := 1) (q := 146) 84 rfl rfl (by decide) ?_
                  refine bp_iadd (q := 147) 85 rfl rfl ?_
                  refine bp_putI (q := 150) (ci := 9) (j := 33) 86 rfl rfl fl_Mo_270_9 cl9 hB1.kb (fun r hr => by cases hr; rfl) (by decide) rfl rfl ?_
                  refine bp_nx (X := fun h2 => MoX M h0 h2 tw i fa fm tl lk al ind sk dp lv fr en nf nn dg nu kd (nI (10 * 0 + (tc T (i + 3) - 48))) (i + 4 + 1) T xs L ps L1 p1 nt tb fd) (hB1.s33 (nI_1 _)) (fun h2 hB2 => ?_)
                  refine bp_aload_n (q := 151) 87 rfl rfl rfl rfl ?_
                  refine bp_iload_n (q := 152) 88 rfl rfl rfl rfl ?_
                  refine bp_callV (q := 155) (ci := 9) 89 rfl rfl cw_Mo_charAt lk_Mo_83 rfl hB2.kb wd1445 wd43 rfl rfl (Nat.le_of_ble_eq_true rfl) ⟨Nat.le_of_ble_eq_true rfl, Nat.le_of_ble_eq_true rfl⟩ (s_Mo_charAt (ro := false) hB2 hT (by omega) ?_)
                  refine bp_bipush (v := 62) (q := 157) 90 rfl rfl (by decide) ?_
                  refine bp_icmp_ne (q := 160) (tgt := 164) 91 rfl rfl (by decide) (fun z157 => ?_) (fun z157 => ?_)
                  · refine bp_iconst (v := 0) (q := 165) 94 rfl rfl (by decide) ?_
                    refine bp_iret 95 rfl rfl (by first | rfl | assumption) ⟨_, rfl, ?_⟩
                    have y1 : spl T i (i + 2) [60, 112] = true := bI1 z7
                    have y2 := (nI_eq_iff (a := tc T (i + 2)) (b := 32) (by have := tc_lt hT (i + 2); omega) (by decide)).mp (by first | exact z28 | exact Classical.not_not.mp z28)
                    have eA : alA T (i + 3) = 0 := (if_neg (fun e => z41 (by rw [e]; rfl))).trans (if_neg (fun e => z55 (by rw [e]; rfl)))
                    have yd := dgL_is.mp (bI1 z84)
                    have y0 : ¬ tc T (i + 3) = 48 := (fun e => z94 (by rw [e]; rfl))
                    have eI : inA T (i + 3) = tc T (i + 3) - 48 := if_pos (by omega)
                    have eX : hdX T i = 0 := (if_pos y2).trans eA
                    have eY : hdY T i = (tc T (i + 3) - 48) := (if_pos y2).trans (by rw [eA]; exact eI)
                    have eK : hdK T i = i + 4 := (if_pos y2).trans (by rw [eA]; show i + 3 + 0 + bn1 (inA T (i + 3)) = _; rw [eI]; rw [show bn1 (tc T (i + 3) - 48) = 1 from if_neg (by omega)])
                    exact hQ0 (fun z => by have e := z.2.2; rw [eK] at e; exact z157 (by rw [e]; rfl)) _ _ _ hB2
                  · refine bp_iconst (v := 1) (q := 161) 92 rfl rfl (by decide) ?_
                    refine bp_goto (tgt := 165) 93 rfl (by decide) ?_
                    refine bp_iret 95 rfl rfl (by first | rfl | assumption) ⟨_, rfl, ?_⟩
                    have y1 : spl T i (i + 2) [60, 112] = true := bI1 z7
                    have y2 := (nI_eq_iff (a := tc T (i + 2)) (b := 32) (by have := tc_lt hT (i + 2); omega) (by decide)).mp (by first | exact z28 | exact Classical.not_not.mp z28)
                    have eA : alA T (i + 3) = 0 := (if_neg (fun e => z41 (by rw [e]; rfl))).trans (if_neg (fun e => z55 (by rw [e]; rfl)))
                    have yd := dgL_is.mp (bI1 z84)
                    have y0 : ¬ tc T (i + 3) = 48 := (fun e => z94 (by rw [e]; rfl))
                    have eI : inA T (i + 3) = tc T (i + 3) - 48 := if_pos (by omega)
                    have eX : hdX T i = 0 := (if_pos y2).trans eA
                    have eY : hdY T i = (tc T (i + 3) - 48) := (if_pos y2).trans (by rw [eA]; exact eI)
                    have eK : hdK T i = i + 4 := (if_pos y2).trans (by rw [eA]; show i + 3 + 0 + bn1 (inA T (i + 3)) = _; rw [eI]; rw [show bn1 (tc T (i + 3) - 48) = 1 from if_neg (by omega)])
                    have z := hQ1 ⟨y1, fun q => by have h1 := q.1; have h2 := q.2.1; have h3 := q.2.2; rw [eX] at h2; rw [eY] at h3; omega, by rw [eK]; exact (nI_eq_iff (a := tc T (i + 4)) (b := 62) (by have := tc_lt hT (i + 4); omega) (by decide)).mp (by first | exact z157 | exact Classical.not_not.mp z157)⟩
                    rw [eX, eY, eK] at z
                    exact z _ hB2
                · have y0 : ¬ tc T (i + 3) = 48 := (fun e => z94 (by rw [e]; rfl))
                  have := (nI_eq_iff (a := 10 * 0 + (tc T (i + 3) - 48)) (b := 0) (by have := tc_lt hT (i + 3); omega) (by decide)).mp (by first | exact z133 | exact Classical.not_not.mp z133)
                  omega
        · refine bp_iconst (v := 2) (q := 59) 31 rfl rfl (by decide) ?_
          refine bp_goto (tgt := 63) 32 rfl (by decide) ?_
          refine bp_istore_n (q := 64) 34 rfl rfl rfl (by decide) (bp_up3 rfl) ?_
          refine bp_iload_n (q := 65) 35 rfl rfl rfl rfl ?_
          refine bp_iload_n (q := 66) 36 rfl rfl rfl rfl ?_
          refine bp_if_le (q := 69) (tgt := 73) 37 rfl rfl (by decide) (fun z => absurd z (by decide)) (fun z66 => ?_)
          refine bp_iconst (v := 1) (q := 70) 38 rfl rfl (by decide) ?_
          refine bp_goto (tgt := 74) 39 rfl (by decide) ?_
          refine bp_iadd (q := 75) 41 rfl rfl ?_
          rw [show nI (i + 3) + 1 = nI (i + 4) from nI_add (i + 3) 1]
          refine bp_istore_n (q := 76) 42 rfl rfl rfl (by decide) (bp_up1 rfl) ?_
          refine bp_aload_n (q := 77) 43 rfl rfl rfl rfl ?_
          refine bp_iload_n (q := 78) 44 rfl rfl rfl rfl ?_
          refine bp_callV (q := 81) (ci := 9) 45 rfl rfl cw_Mo_charAt lk_Mo_83 rfl hB0.kb wd1445 wd43 rfl rfl (Nat.le_of_ble_eq_true rfl) ⟨Nat.le_of_ble_eq_true rfl, Nat.le_of_ble_eq_true rfl⟩ (s_Mo_charAt (ro := false) hB0 hT (by omega) ?_)
          refine bp_callS (q := 84) 46 rfl rfl cw_Mo_digit lk_Mo_158 wd1479 rfl rfl (Nat.le_of_ble_eq_true rfl) ⟨Nat.le_of_ble_eq_true rfl, Nat.le_of_ble_eq_true rfl⟩ (s_Mo_digit (ro := false) (n := tc T (i + 4)) (by have := tc_lt hT (i + 4); omega) ?_)
          refine bp_if_eq (q := 87) (tgt := 108) 47 rfl rfl (by decide) (fun z84 => ?_) (fun z84 => ?_)
          · refine bp_iconst (v := 0) (q := 109) 59 rfl rfl (by decide) ?_
            refine bp_istore (q := 111) 60 rfl rfl (by decide) (bp_up4 rfl) ?_
            refine bp_iload_n (q := 112) 61 rfl rfl rfl rfl ?_
            refine bp_iload (q := 114) 62 rfl rfl rfl ?_
            refine bp_if_le (q := 117) (tgt := 121) 63 rfl rfl (by decide) (fun z114 => ?_) (fun z => absurd z (by decide))
            refine bp_iconst (v := 0) (q := 122) 66 rfl rfl (by decide) ?_
            refine bp_iadd (q := 123) 67 rfl rfl ?_
            rw [show nI (i + 4) + 0 = nI (i + 4) from nI_add (i + 4) 0]
            refine bp_istore_n (q := 124) 68 rfl rfl rfl (by decide) (bp_up1 rfl) ?_
            refine bp_bipush (v := 10) (q := 126) 69 rfl rfl (by decide) ?_
            refine bp_iload_n (q := 127) 70 rfl rfl rfl rfl ?_
            refine bp_imul (q := 128) 71 rfl rfl ?_
            refine bp_iload (q := 130) 72 rfl rfl rfl ?_
            refine bp_iadd (q := 131) 73 rfl rfl ?_
            rw [show (10 : Int32) * 2 + 0 = nI (10 * 2 + 0) from by decide]
            refine bp_istore_n (q := 132) 74 rfl rfl rfl (by decide) (bp_up2 rfl) ?_
            refine bp_iload_n (q := 133) 75 rfl rfl rfl rfl ?_
            refine bp_if_ne (q := 136) (tgt := 138) 76 rfl rfl (by decide) (fun z133 => ?_) (fun z133 => ?_)
            · refine bp_aload_n (q := 139) 79 rfl rfl rfl rfl ?_
              refine bp_iload_n (q := 140) 80 rfl rfl rfl rfl ?_
              refine bp_putI (q := 143) (ci := 9) (j := 32) 81 rfl rfl fl_Mo_273_9 cl9 hB0.kb (fun r hr => by cases hr; rfl) (by decide) rfl rfl ?_
              refine bp_nx (X := fun h1 => MoX M h0 h1 tw i fa fm tl lk al ind sk dp lv fr en nf nn dg nu kd (nI (10 * 2 + 0)) pe T xs L ps L1 p1 nt tb fd) (hB0.s32 rfl) (fun h1 hB1 => ?_)
              refine bp_aload_n (q := 144) 82 rfl rfl rfl rfl ?_
              refine bp_iload_n (q := 145) 83 rfl rfl rfl rfl ?_
              refine bp_iconst (v := 1) (q := 146) 84 rfl rfl (by decide) ?_
              refine bp_iadd (q := 147) 85 rfl rfl ?_
              refine bp_putI (q := 150) (ci := 9) (j := 33) 86 rfl rfl fl_Mo_270_9 cl9 hB1.kb (fun r hr => by cases hr; rfl) (by decide) rfl rfl ?_
              refine bp_nx (X := fun h2 => MoX M h0 h2 tw i fa fm tl lk al ind sk dp lv fr en nf nn dg nu kd (nI (10 * 2 + 0)) (i + 4 + 1) T xs L ps L1 p1 nt tb fd) (hB1.s33 (nI_1 _)) (fun h2 hB2 => ?_)
              refine bp_aload_n (q := 151) 87 rfl rfl rfl rfl ?_
              refine bp_iload_n (q := 152) 88 rfl rfl rfl rfl ?_
              refine bp_callV (q := 155) (ci := 9) 89 rfl rfl cw_Mo_charAt lk_Mo_83 rfl hB2.kb wd1445 wd43 rfl rfl (Nat.le_of_ble_eq_true rfl) ⟨Nat.le_of_ble_eq_true rfl, Nat.le_of_ble_eq_true rfl⟩ (s_Mo_charAt (ro := false) hB2 hT (by omega) ?_)
              refine bp_bipush (v := 62) (q := 157) 90 rfl rfl (by decide) ?_
              refine bp_icmp_ne (q := 160) (tgt := 164) 91 rfl rfl (by decide) (fun z157 => ?_) (fun z157 => ?_)
              · refine bp_iconst (v := 0) (q := 165) 94 rfl rfl (by decide) ?_
                refine bp_iret 95 rfl rfl (by first | rfl | assumption) ⟨_, rfl, ?_⟩
                have y1 : spl T i (i + 2) [60, 112] = true := bI1 z7
                have y2 := (nI_eq_iff (a := tc T (i + 2)) (b := 32) (by have := tc_lt hT (i + 2); omega) (by decide)).mp (by first | exact z28 | exact Classical.not_not.mp z28)
                have eA : alA T (i + 3) = 2 := (if_neg (fun e => z41 (by rw [e]; rfl))).trans (if_pos ((nI_eq_iff (a := tc T (i + 3)) (b := 82) (by have := tc_lt hT (i + 3); omega) (by decide)).mp (by first | exact z55 | exact Classical.not_not.mp z55)))
                have eI : inA T (i + 4) = 0 := if_neg (fun z => by have e := bI0.mp z84; rw [dgL_is.mpr (by omega)] at e; cases e)
                have eX : hdX T i = 2 := (if_pos y2).trans eA
                have eY : hdY T i = 0 := (if_pos y2).trans (by rw [eA]; exact eI)
                have eK : hdK T i = i + 4 := (if_pos y2).trans (by rw [eA]; show i + 3 + 1 + bn1 (inA T (i + 4)) = _; rw [eI]; rfl)
                exact hQ0 (fun z => by have e := z.2.2; rw [eK] at e; exact z157 (by rw [e]; rfl)) _ _ _ hB2
              · refine bp_iconst (v := 1) (q := 161) 92 rfl rfl (by decide) ?_
                refine bp_goto (tgt := 165) 93 rfl (by decide) ?_
                refine bp_iret 95 rfl rfl (by first | rfl | assumption) ⟨_, rfl, ?_⟩
                have y1 : spl T i (i + 2) [60, 112] = true := bI1 z7
                have y2 := (nI_eq_iff (a := tc T (i + 2)) (b := 32) (by have := tc_lt hT (i + 2); omega) (by decide)).mp (by first | exact z28 | exact Classical.not_not.mp z28)
                have eA : alA T (i + 3) = 2 := (if_neg (fun e => z41 (by rw [e]; rfl))).trans (if_pos ((nI_eq_iff (a := tc T (i + 3)) (b := 82) (by have := tc_lt hT (i + 3); omega) (by decide)).mp (by first | exact z55 | exact Classical.not_not.mp z55)))
                have eI : inA T (i + 4) = 0 := if_neg (fun z => by have e := bI0.mp z84; rw [dgL_is.mpr (by omega)] at e; cases e)
                have eX : hdX T i = 2 := (if_pos y2).trans eA
                have eY : hdY T i = 0 := (if_pos y2).trans (by rw [eA]; exact eI)
                have eK : hdK T i = i + 4 := (if_pos y2).trans (by rw [eA]; show i + 3 + 1 + bn1 (inA T (i + 4)) = _; rw [eI]; rfl)
                have z := hQ1 ⟨y1, fun q => by have h1 := q.1; have h2 := q.2.1; have h3 := q.2.2; rw [eX] at h2; rw [eY] at h3; omega, by rw [eK]; exact (nI_eq_iff (a := tc T (i + 4)) (b := 62) (by have := tc_lt hT (i + 4); omega) (by decide)).mp (by first | exact z157 | exact Classical.not_not.mp z157)⟩
                rw [eX, eY, eK] at z
                exact z _ hB2
            · have := (nI_eq_iff (a := 10 * 2 + 0) (b := 0) (by have := tc_lt hT (i + 4); omega) (by decide)).mp (by first | exact z133 | exact Classical.not_not.mp z133)
              omega
          · refine bp_aload_n (q := 88) 48 rfl rfl rfl rfl ?_
            refine bp_iload_n (q := 89) 49 rfl rfl rfl rfl ?_
            refine bp_callV (q := 92) (ci := 9) 50 rfl rfl cw_Mo_charAt lk_Mo_83 rfl hB0.kb wd1445 wd43 rfl rfl (Nat.le_of_ble_eq_true rfl) ⟨Nat.le_of_ble_eq_true rfl, Nat.le_of_ble_eq_true rfl⟩ (s_Mo_charAt (ro := false) hB0 hT (by omega) ?_)
            refine bp_bipush (v := 48) (q := 94) 51 rfl rfl (by decide) ?_
            refine bp_icmp_eq (q := 97) (tgt := 108) 52 rfl rfl (by decide) (fun z94 => ?_) (fun z94 => ?_)
            · refine bp_iconst (v := 0) (q := 109) 59 rfl rfl (by decide) ?_
              refine bp_istore (q := 111) 60 rfl rfl (by decide) (bp_up4 rfl) ?_
              refine bp_iload_n (q := 112) 61 rfl rfl rfl rfl ?_
              refine bp_iload (q := 114) 62 rfl rfl rfl ?_
              refine bp_if_le (q := 117) (tgt := 121) 63 rfl rfl (by decide) (fun z114 => ?_) (fun z => absurd z (by decide))
              refine bp_iconst (v := 0) (q := 122) 66 rfl rfl (by decide) ?_
              refine bp_iadd (q := 123) 67 rfl rfl ?_
              rw [show nI (i + 4) + 0 = nI (i + 4) from nI_add (i + 4) 0]
              refine bp_istore_n (q := 124) 68 rfl rfl rfl (by decide) (bp_up1 rfl) ?_
              refine bp_bipush (v := 10) (q := 126) 69 rfl rfl (by decide) ?_
              refine bp_iload_n (q := 127) 70 rfl rfl rfl rfl ?_
              refine bp_imul (q := 128) 71 rfl rfl ?_
              refine bp_iload (q := 130) 72 rfl rfl rfl ?_
              refine bp_iadd (q := 131) 73 rfl rfl ?_
              rw [show (10 : Int32) * 2 + 0 = nI (10 * 2 + 0) from by decide]
              refine bp_istore_n (q := 132) 74 rfl rfl rfl (by decide) (bp_up2 rfl) ?_
              refine bp_iload_n (q := 133) 75 rfl rfl rfl rfl ?_
              refine bp_if_ne (q := 136) (tgt := 138) 76 rfl rfl (by decide) (fun z133 => ?_) (fun z133 => ?_)
              · refine bp_aload_n (q := 139) 79 rfl rfl rfl rfl ?_
                refine bp_iload_n (q := 140) 80 rfl rfl rfl rfl ?_
                refine bp_putI (q := 143) (ci := 9) (j := 32) 81 rfl rfl fl_Mo_273_9 cl9 hB0.kb (fun r hr => by cases hr; rfl) (by decide) rfl rfl ?_
                refine bp_nx (X := fun h1 => MoX M h0 h1 tw i fa fm tl lk al ind sk dp lv fr en nf nn dg nu kd (nI (10 * 2 + 0)) pe T xs L ps L1 p1 nt tb fd) (hB0.s32 rfl) (fun h1 hB1 => ?_)
                refine bp_aload_n (q := 144) 82 rfl rfl rfl rfl ?_
                refine bp_iload_n (q := 145) 83 rfl rfl rfl rfl ?_
                refine bp_iconst (v := 1) (q := 146) 84 rfl rfl (by decide) ?_
                refine bp_iadd (q := 147) 85 rfl rfl ?_
                refine bp_putI (q := 150) (ci := 9) (j := 33) 86 rfl rfl fl_Mo_270_9 cl9 hB1.kb (fun r hr => by cases hr; rfl) (by decide) rfl rfl ?_
                refine bp_nx (X := fun h2 => MoX M h0 h2 tw i fa fm tl lk al ind sk dp lv fr en nf nn dg nu kd (nI (10 * 2 + 0)) (i + 4 + 1) T xs L ps L1 p1 nt tb fd) (hB1.s33 (nI_1 _)) (fun h2 hB2 => ?_)
                refine bp_aload_n (q := 151) 87 rfl rfl rfl rfl ?_
                refine bp_iload_n (q := 152) 88 rfl rfl rfl rfl ?_
                refine bp_callV (q := 155) (ci := 9) 89 rfl rfl cw_Mo_charAt lk_Mo_83 rfl hB2.kb wd1445 wd43 rfl rfl (Nat.le_of_ble_eq_true rfl) ⟨Nat.le_of_ble_eq_true rfl, Nat.le_of_ble_eq_true rfl⟩ (s_Mo_charAt (ro := false) hB2 hT (by omega) ?_)
                refine bp_bipush (v := 62) (q := 157) 90 rfl rfl (by decide) ?_
                refine bp_icmp_ne (q := 160) (tgt := 164) 91 rfl rfl (by decide) (fun z157 => ?_) (fun z157 => ?_)
                · refine bp_iconst (v := 0) (q := 165) 94 rfl rfl (by decide) ?_
                  refine bp_iret 95 rfl rfl (by first | rfl | assumption) ⟨_, rfl, ?_⟩
                  have y1 : spl T i (i + 2) [60, 112] = true := bI1 z7
                  have y2 := (nI_eq_iff (a := tc T (i + 2)) (b := 32) (by have := tc_lt hT (i + 2); omega) (by decide)).mp (by first | exact z28 | exact Classical.not_not.mp z28)
                  have eA : alA T (i + 3) = 2 := (if_neg (fun e => z41 (by rw [e]; rfl))).trans (if_pos ((nI_eq_iff (a := tc T (i + 3)) (b := 82) (by have := tc_lt hT (i + 3); omega) (by decide)).mp (by first | exact z55 | exact Classical.not_not.mp z55)))
                  have y0 := (nI_eq_iff (a := tc T (i + 4)) (b := 48) (by have := tc_lt hT (i + 4); omega) (by decide)).mp (by first | exact z94 | exact Classical.not_not.mp z94)
                  have eI : inA T (i + 4) = 0 := if_neg (by omega)
                  have eX : hdX T i = 2 := (if_pos y2).trans eA
                  have eY : hdY T i = 0 := (if_pos y2).trans (by rw [eA]; exact eI)
                  have eK : hdK T i = i + 4 := (if_pos y2).trans (by rw [eA]; show i + 3 + 1 + bn1 (inA T (i + 4)) = _; rw [eI]; rfl)
                  exact hQ0 (fun z => by have e := z.2.2; rw [eK] at e; exact z157 (by rw [e]; rfl)) _ _ _ hB2
                · refine bp_iconst (v := 1) (q := 161) 92 rfl rfl (by decide) ?_
                  refine bp_goto (tgt := 165) 93 rfl (by decide) ?_
                  refine bp_iret 95 rfl rfl (by first | rfl | assumption) ⟨_, rfl, ?_⟩
                  have y1 : spl T i (i + 2) [60, 112] = true := bI1 z7
                  have y2 := (nI_eq_iff (a := tc T (i + 2)) (b := 32) (by have := tc_lt hT (i + 2); omega) (by decide)).mp (by first | exact z28 | exact Classical.not_not.mp z28)
                  have eA : alA T (i + 3) = 2 := (if_neg (fun e => z41 (by rw [e]; rfl))).trans (if_pos ((nI_eq_iff (a := tc T (i + 3)) (b := 82) (by have := tc_lt hT (i + 3); omega) (by decide)).mp (by first | exact z55 | exact Classical.not_not.mp z55)))
                  have y0 := (nI_eq_iff (a := tc T (i + 4)) (b := 48) (by have := tc_lt hT (i + 4); omega) (by decide)).mp (by first | exact z94 | exact Classical.not_not.mp z94)
                  have eI : inA T (i + 4) = 0 := if_neg (by omega)
                  have eX : hdX T i = 2 := (if_pos y2).trans eA
                  have eY : hdY T i = 0 := (if_pos y2).trans (by rw [eA]; exact eI)
                  have eK : hdK T i = i + 4 := (if_pos y2).trans (by rw [eA]; show i + 3 + 1 + bn1 (inA T (i + 4)) = _; rw [eI]; rfl)
                  have z := hQ1 ⟨y1, fun q => by have h1 := q.1; have h2 := q.2.1; have h3 := q.2.2; rw [eX] at h2; rw [eY] at h3; omega, by rw [eK]; exact (nI_eq_iff (a := tc T (i + 4)) (b := 62) (by have := tc_lt hT (i + 4); omega) (by decide)).mp (by first | exact z157 | exact Classical.not_not.mp z157)⟩
                  rw [eX, eY, eK] at z
                  exact z _ hB2
              · have := (nI_eq_iff (a := 10 * 2 + 0) (b := 0) (by have := tc_lt hT (i + 4); omega) (by decide)).mp (by first | exact z133 | exact Classical.not_not.mp z133)
                omega
            · refine bp_aload_n (q := 98) 53 rfl rfl rfl rfl ?_
              refine bp_iload_n (q := 99) 54 rfl rfl rfl rfl ?_
              refine bp_callV (q := 102) (ci := 9) 55 rfl rfl cw_Mo_charAt lk_Mo_83 rfl hB0.kb wd1445 wd43 rfl rfl (Nat.le_of_ble_eq_true rfl) ⟨Nat.le_of_ble_eq_true rfl, Nat.le_of_ble_eq_true rfl⟩ (s_Mo_charAt (ro := false) hB0 hT (by omega) ?_)
              refine bp_bipush (v := 48) (q := 104) 56 rfl rfl (by decide) ?_
              refine bp_isub (q := 105) 57 rfl rfl ?_
              have hdg := dgL_is.mp (bI1 z84)
              rw [show nI (tc T (i + 4)) - 48 = nI (tc T (i + 4) - 48) from nI_sub (b := 48) (by omega)]
              refine bp_goto (tgt := 109) 58 rfl (by decide) ?_
              refine bp_istore (q := 111) 60 rfl rfl (by decide) (bp_up4 rfl) ?_
              refine bp_iload_n (q := 112) 61 rfl rfl rfl rfl ?_
              refine bp_iload (q := 114) 62 rfl rfl rfl ?_
              refine bp_if_le (q := 117) (tgt := 121) 63 rfl rfl (by decide) (fun z114 => ?_) (fun z114 => ?_)
              · have := (nI_le_iff (b := 0) (by have := tc_lt hT (i + 4); omega) (by decide)).mp z114
                have y0 : ¬ tc T (i + 4) = 48 := (fun e => z94 (by rw [e]; rfl))
                omega
              · refine bp_iconst (v := 1) (q := 118) 64 rfl rfl (by decide) ?_
                refine bp_goto (tgt := 122) 65 rfl (by decide) ?_
                refine bp_iadd (q := 123) 67 rfl rfl ?_
                rw [show nI (i + 4) + 1 = nI (i + 5) from nI_add (i + 4) 1]
                refine bp_istore_n (q := 124) 68 rfl rfl rfl (by decide) (bp_up1 rfl) ?_
                refine bp_bipush (v := 10) (q := 126) 69 rfl rfl (by decide) ?_
                refine bp_iload_n (q := 127) 70 rfl rfl rfl rfl ?_
                refine bp_imul (q := 128) 71 rfl rfl ?_
                refine bp_iload (q := 130) 72 rfl rfl rfl ?_
                refine bp_iadd (q := 131) 73 rfl rfl ?_
                rw [show (10 : Int32) * 2 + nI (tc T (i + 4) - 48) = nI (10 * 2 + (tc T (i + 4) - 48)) from by rw [show (10 : Int32) * 2 = nI (10 * 2) from by decide, nI_add]]
                refine bp_istore_n (q := 132) 74 rfl rfl rfl (by decide) (bp_up2 rfl) ?_
                refine bp_iload_n (q := 133) 75 rfl rfl rfl rfl ?_
                refine bp_if_ne (q := 136) (tgt := 138) 76 rfl rfl (by decide) (fun z133 => ?_) (fun z133 => ?_)
                · refine bp_aload_n (q := 139) 79 rfl rfl rfl rfl ?_
                  refine bp_iload_n (q := 140) 80 rfl rfl rfl rfl ?_
                  refine bp_putI (q := 143) (ci := 9) (j := 32) 81 rfl rfl fl_Mo_273_9 cl9 hB0.kb (fun r hr => by cases hr; rfl) (by decide) rfl rfl ?_
                  refine bp_nx (X := fun h1 => MoX M h0 h1 tw i fa fm tl lk al ind sk dp lv fr en nf nn dg nu kd (nI (10 * 2 + (tc T (i + 4) - 48))) pe T xs L ps L1 p1 nt tb fd) (hB0.s32 rfl) (fun h1 hB1 => ?_)
                  refine bp_aload_n (q := 144) 82 rfl rfl rfl rfl ?_
                  refine bp_iload_n (q := 145) 83 rfl rfl rfl rfl ?_
                  refine bp_iconst (v := 1) (q := 146) 84 rfl rfl (by decide) ?_
                  refine bp_iadd (q := 147) 85 rfl rfl ?_
                  refine bp_putI (q := 150) (ci := 9) (j := 33) 86 rfl rfl fl_Mo_270_9 cl9 hB1.kb (fun r hr => by cases hr; rfl) (by decide) rfl rfl ?_
                  refine bp_nx (X := fun h2 => MoX M h0 h2 tw i fa fm tl lk al ind sk dp lv fr en nf nn dg nu kd (nI (10 * 2 + (tc T (i + 4) - 48))) (i + 5 + 1) T xs L ps L1 p1 nt tb fd) (hB1.s33 (nI_1 _)) (fun h2 hB2 => ?_)
                  refine bp_aload_n (q := 151) 87 rfl rfl rfl rfl ?_
                  refine bp_iload_n (q := 152) 88 rfl rfl rfl rfl ?_
                  refine bp_callV (q := 155) (ci := 9) 89 rfl rfl cw_Mo_charAt lk_Mo_83 rfl hB2.kb wd1445 wd43 rfl rfl (Nat.le_of_ble_eq_true rfl) ⟨Nat.le_of_ble_eq_true rfl, Nat.le_of_ble_eq_true rfl⟩ (s_Mo_charAt (ro := false) hB2 hT (by omega) ?_)
                  refine bp_bipush (v := 62) (q := 157) 90 rfl rfl (by decide) ?_
                  refine bp_icmp_ne (q := 160) (tgt := 164) 91 rfl rfl (by decide) (fun z157 => ?_) (fun z157 => ?_)
                  · refine bp_iconst (v := 0) (q := 165) 94 rfl rfl (by decide) ?_
                    refine bp_iret 95 rfl rfl (by first | rfl | assumption) ⟨_, rfl, ?_⟩
                    have y1 : spl T i (i + 2) [60, 112] = true := bI1 z7
                    have y2 := (nI_eq_iff (a := tc T (i + 2)) (b := 32) (by have := tc_lt hT (i + 2); omega) (by decide)).mp (by first | exact z28 | exact Classical.not_not.mp z28)
                    have eA : alA T (i + 3) = 2 := (if_neg (fun e => z41 (by rw [e]; rfl))).trans (if_pos ((nI_eq_iff (a := tc T (i + 3)) (b := 82) (by have := tc_lt hT (i + 3); omega) (by decide)).mp (by first | exact z55 | exact Classical.not_not.mp z55)))
                    have yd := dgL_is.mp (bI1 z84)
                    have y0 : ¬ tc T (i + 4) = 48 := (fun e => z94 (by rw [e]; rfl))
                    have eI : inA T (i + 4) = tc T (i + 4) - 48 := if_pos (by omega)
                    have eX : hdX T i = 2 := (if_pos y2).trans eA
                    have eY : hdY T i = (tc T (i + 4) - 48) := (if_pos y2).trans (by rw [eA]; exact eI)
                    have eK : hdK T i = i + 5 := (if_pos y2).trans (by rw [eA]; show i + 3 + 1 + bn1 (inA T (i + 4)) = _; rw [eI]; rw [show bn1 (tc T (i + 4) - 48) = 1 from if_neg (by omega)])
                    exact hQ0 (fun z => by have e := z.2.2; rw [eK] at e; exact z157 (by rw [e]; rfl)) _ _ _ hB2
                  · refine bp_iconst (v := 1) (q := 161) 92 rfl rfl (by decide) ?_
                    refine bp_goto (tgt := 165) 93 rfl (by decide) ?_
                    refine bp_iret 95 rfl rfl (by first | rfl | assumption) ⟨_, rfl, ?_⟩
                    have y1 : spl T i (i + 2) [60, 112] = true := bI1 z7
                    have y2 := (nI_eq_iff (a := tc T (i + 2)) (b := 32) (by have := tc_lt hT (i + 2); omega) (by decide)).mp (by first | exact z28 | exact Classical.not_not.mp z28)
                    have eA : alA T (i + 3) = 2 := (if_neg (fun e => z41 (by rw [e]; rfl))).trans (if_pos ((nI_eq_iff (a := tc T (i + 3)) (b := 82) (by have := tc_lt hT (i + 3); omega) (by decide)).mp (by first | exact z55 | exact Classical.not_not.mp z55)))
                    have yd := dgL_is.mp (bI1 z84)
                    have y0 : ¬ tc T (i + 4) = 48 := (fun e => z94 (by rw [e]; rfl))
                    have eI : inA T (i + 4) = tc T (i + 4) - 48 := if_pos (by omega)
                    have eX : hdX T i = 2 := (if_pos y2).trans eA
                    have eY : hdY T i = (tc T (i + 4) - 48) := (if_pos y2).trans (by rw [eA]; exact eI)
                    have eK : hdK T i = i + 5 := (if_pos y2).trans (by rw [eA]; show i + 3 + 1 + bn1 (inA T (i + 4)) = _; rw [eI]; rw [show bn1 (tc T (i + 4) - 48) = 1 from if_neg (by omega)])
                    have z := hQ1 ⟨y1, fun q => by have h1 := q.1; have h2 := q.2.1; have h3 := q.2.2; rw [eX] at h2; rw [eY] at h3; omega, by rw [eK]; exact (nI_eq_iff (a := tc T (i + 5)) (b := 62) (by have := tc_lt hT (i + 5); omega) (by decide)).mp (by first | exact z157 | exact Classical.not_not.mp z157)⟩
                    rw [eX, eY, eK] at z
                    exact z _ hB2
                · have y0 : ¬ tc T (i + 4) = 48 := (fun e => z94 (by rw [e]; rfl))
                  have := (nI_eq_iff (a := 10 * 2 + (tc T (i + 4) - 48)) (b := 0) (by have := tc_lt hT (i + 4); omega) (by decide)).mp (by first | exact z133 | exact Classical.not_not.mp z133)
                  omega
      · refine bp_iconst (v := 1) (q := 45) 24 rfl rfl (by decide) ?_
        refine bp_goto (tgt := 63) 25 rfl (by decide) ?_
        refine bp_istore_n (q := 64) 34 rfl rfl rfl (by decide) (bp_up3 rfl) ?_
        refine bp_iload_n (q := 65) 35 rfl rfl rfl rfl ?_
        refine bp_iload_n (q := 66) 36 rfl rfl rfl rfl ?_
        refine bp_if_le (q := 69) (tgt := 73) 37 rfl rfl (by decide) (fun z => absurd z (by decide)) (fun z66 => ?_)
        refine bp_iconst (v := 1) (q := 70) 38 rfl rfl (by decide) ?_
        refine bp_goto (tgt := 74) 39 rfl (by decide) ?_
        refine bp_iadd (q := 75) 41 rfl rfl ?_
        rw [show nI (i + 3) + 1 = nI (i + 4) from nI_add (i + 3) 1]
        refine bp_istore_n (q := 76) 42 rfl rfl rfl (by decide) (bp_up1 rfl) ?_
        refine bp_aload_n (q := 77) 43 rfl rfl rfl rfl ?_
        refine bp_iload_n (q := 78) 44 rfl rfl rfl rfl ?_
        refine bp_callV (q := 81) (ci := 9) 45 rfl rfl cw_Mo_charAt lk_Mo_83 rfl hB0.kb wd1445 wd43 rfl rfl (Nat.le_of_ble_eq_true rfl) ⟨Nat.le_of_ble_eq_true rfl, Nat.le_of_ble_eq_true rfl⟩ (s_Mo_charAt (ro := false) hB0 hT (by omega) ?_)
        refine bp_callS (q := 84) 46 rfl rfl cw_Mo_digit lk_Mo_158 wd1479 rfl rfl (Nat.le_of_ble_eq_true rfl) ⟨Nat.le_of_ble_eq_true rfl, Nat.le_of_ble_eq_true rfl⟩ (s_Mo_digit (ro := false) (n := tc T (i + 4)) (by have := tc_lt hT (i + 4); omega) ?_)
        refine bp_if_eq (q := 87) (tgt := 108) 47 rfl rfl (by decide) (fun z84 => ?_) (fun z84 => ?_)
        · refine bp_iconst (v := 0) (q := 109) 59 rfl rfl (by decide) ?_
          refine bp_istore (q := 111) 60 rfl rfl (by decide) (bp_up4 rfl) ?_
          refine bp_iload_n (q := 112) 61 rfl rfl rfl rfl ?_
          refine bp_iload (q := 114) 62 rfl rfl rfl ?_
          refine bp_if_le (q := 117) (tgt := 121) 63 rfl rfl (by decide) (fun z114 => ?_) (fun z => absurd z (by decide))
          refine bp_iconst (v := 0) (q := 122) 66 rfl rfl (by decide) ?_
          refine bp_iadd (q := 123) 67 rfl rfl ?_
          rw [show nI (i + 4) + 0 = nI (i + 4) from nI_add (i + 4) 0]
          refine bp_istore_n (q := 124) 68 rfl rfl rfl (by decide) (bp_up1 rfl) ?_
          refine bp_bipush (v := 10) (q := 126) 69 rfl rfl (by decide) ?_
          refine bp_iload_n (q := 127) 70 rfl rfl rfl rfl ?_
          refine bp_imul (q := 128) 71 rfl rfl ?_
          refine bp_iload (q := 130) 72 rfl rfl rfl ?_
          refine bp_iadd (q := 131) 73 rfl rfl ?_
          rw [show (10 : Int32) * 1 + 0 = nI (10 * 1 + 0) from by decide]
          refine bp_istore_n (q := 132) 74 rfl rfl rfl (by decide) (bp_up2 rfl) ?_
          refine bp_iload_n (q := 133) 75 rfl rfl rfl rfl ?_
          refine bp_if_ne (q := 136) (tgt := 138) 76 rfl rfl (by decide) (fun z133 => ?_) (fun z133 => ?_)
          · refine bp_aload_n (q := 139) 79 rfl rfl rfl rfl ?_
            refine bp_iload_n (q := 140) 80 rfl rfl rfl rfl ?_
            refine bp_putI (q := 143) (ci := 9) (j := 32) 81 rfl rfl fl_Mo_273_9 cl9 hB0.kb (fun r hr => by cases hr; rfl) (by decide) rfl rfl ?_
            refine bp_nx (X := fun h1 => MoX M h0 h1 tw i fa fm tl lk al ind sk dp lv fr en nf nn dg nu kd (nI (10 * 1 + 0)) pe T xs L ps L1 p1 nt tb fd) (hB0.s32 rfl) (fun h1 hB1 => ?_)
            refine bp_aload_n (q := 144) 82 rfl rfl rfl rfl ?_
            refine bp_iload_n (q := 145) 83 rfl rfl rfl rfl ?_
            refine bp_iconst (v := 1) (q := 146) 84 rfl rfl (by decide) ?_
            refine bp_iadd (q := 147) 85 rfl rfl ?_
            refine bp_putI (q := 150) (ci := 9) (j := 33) 86 rfl rfl fl_Mo_270_9 cl9 hB1.kb (fun r hr => by cases hr; rfl) (by decide) rfl rfl ?_
            refine bp_nx (X := fun h2 => MoX M h0 h2 tw i fa fm tl lk al ind sk dp lv fr en nf nn dg nu kd (nI (10 * 1 + 0)) (i + 4 + 1) T xs L ps L1 p1 nt tb fd) (hB1.s33 (nI_1 _)) (fun h2 hB2 => ?_)
            refine bp_aload_n (q := 151) 87 rfl rfl rfl rfl ?_
            refine bp_iload_n (q := 152) 88 rfl rfl rfl rfl ?_
            refine bp_callV (q := 155) (ci := 9) 89 rfl rfl cw_Mo_charAt lk_Mo_83 rfl hB2.kb wd1445 wd43 rfl rfl (Nat.le_of_ble_eq_true rfl) ⟨Nat.le_of_ble_eq_true rfl, Nat.le_of_ble_eq_true rfl⟩ (s_Mo_charAt (ro := false) hB2 hT (by omega) ?_)
            refine bp_bipush (v := 62) (q := 157) 90 rfl rfl (by decide) ?_
            refine bp_icmp_ne (q := 160) (tgt := 164) 91 rfl rfl (by decide) (fun z157 => ?_) (fun z157 => ?_)
            · refine bp_iconst (v := 0) (q := 165) 94 rfl rfl (by decide) ?_
              refine bp_iret 95 rfl rfl (by first | rfl | assumption) ⟨_, rfl, ?_⟩
              have y1 : spl T i (i + 2) [60, 112] = true := bI1 z7
              have y2 := (nI_eq_iff (a := tc T (i + 2)) (b := 32) (by have := tc_lt hT (i + 2); omega) (by decide)).mp (by first | exact z28 | exact Classical.not_not.mp z28)
              have eA : alA T (i + 3) = 1 := if_pos ((nI_eq_iff (a := tc T (i + 3)) (b := 67) (by have := tc_lt hT (i + 3); omega) (by decide)).mp (by first | exact z41 | exact Classical.not_not.mp z41))
              have eI : inA T (i + 4) = 0 := if_neg (fun z => by have e := bI0.mp z84; rw [dgL_is.mpr (by omega)] at e; cases e)
              have eX : hdX T i = 1 := (if_pos y2).trans eA
              have eY : hdY T i = 0 := (if_pos y2).trans (by rw [eA]; exact eI)
              have eK : hdK T i = i + 4 := (if_pos y2).trans (by rw [eA]; show i + 3 + 1 + bn1 (inA T (i + 4)) = _; rw [eI]; rfl)
              exact hQ0 (fun z => by have e := z.2.2; rw [eK] at e; exact z157 (by rw [e]; rfl)) _ _ _ hB2
            · refine bp_iconst (v := 1) (q := 161) 92 rfl rfl (by decide) ?_
              refine bp_goto (tgt := 165) 93 rfl (by decide) ?_
              refine bp_iret 95 rfl rfl (by first | rfl | assumption) ⟨_, rfl, ?_⟩
              have y1 : spl T i (i + 2) [60, 112] = true := bI1 z7
              have y2 := (nI_eq_iff (a := tc T (i + 2)) (b := 32) (by have := tc_lt hT (i + 2); omega) (by decide)).mp (by first | exact z28 | exact Classical.not_not.mp z28)
              have eA : alA T (i + 3) = 1 := if_pos ((nI_eq_iff (a := tc T (i + 3)) (b := 67) (by have := tc_lt hT (i + 3); omega) (by decide)).mp (by first | exact z41 | exact Classical.not_not.mp z41))
              have eI : inA T (i + 4) = 0 := if_neg (fun z => by have e := bI0.mp z84; rw [dgL_is.mpr (by omega)] at e; cases e)
              have eX : hdX T i = 1 := (if_pos y2).trans eA
              have eY : hdY T i = 0 := (if_pos y2).trans (by rw [eA]; exact eI)
              have eK : hdK T i = i + 4 := (if_pos y2).trans (by rw [eA]; show i + 3 + 1 + bn1 (inA T (i + 4)) = _; rw [eI]; rfl)
              have z := hQ1 ⟨y1, fun q => by have h1 := q.1; have h2 := q.2.1; have h3 := q.2.2; rw [eX] at h2; rw [eY] at h3; omega, by rw [eK]; exact (nI_eq_iff (a := tc T (i + 4)) (b := 62) (by have := tc_lt hT (i + 4); omega) (by decide)).mp (by first | exact z157 | exact Classical.not_not.mp z157)⟩
              rw [eX, eY, eK] at z
              exact z _ hB2
          · have := (nI_eq_iff (a := 10 * 1 + 0) (b := 0) (by have := tc_lt hT (i + 4); omega) (by decide)).mp (by first | exact z133 | exact Classical.not_not.mp z133)
            omega
        · refine bp_aload_n (q := 88) 48 rfl rfl rfl rfl ?_
          refine bp_iload_n (q := 89) 49 rfl rfl rfl rfl ?_
          refine bp_callV (q := 92) (ci := 9) 50 rfl rfl cw_Mo_charAt lk_Mo_83 rfl hB0.kb wd1445 wd43 rfl rfl (Nat.le_of_ble_eq_true rfl) ⟨Nat.le_of_ble_eq_true rfl, Nat.le_of_ble_eq_true rfl⟩ (s_Mo_charAt (ro := false) hB0 hT (by omega) ?_)
          refine bp_bipush (v := 48) (q := 94) 51 rfl rfl (by decide) ?_
          refine bp_icmp_eq (q := 97) (tgt := 108) 52 rfl rfl (by decide) (fun z94 => ?_) (fun z94 => ?_)
          · refine bp_iconst (v := 0) (q := 109) 59 rfl rfl (by decide) ?_
            refine bp_istore (q := 111) 60 rfl rfl (by decide) (bp_up4 rfl) ?_
            refine bp_iload_n (q := 112) 61 rfl rfl rfl rfl ?_
            refine bp_iload (q := 114) 62 rfl rfl rfl ?_
            refine bp_if_le (q := 117) (tgt := 121) 63 rfl rfl (by decide) (fun z114 => ?_) (fun z => absurd z (by decide))
            refine bp_iconst (v := 0) (q := 122) 66 rfl rfl (by decide) ?_
            refine bp_iadd (q := 123) 67 rfl rfl ?_
            rw [show nI (i + 4) + 0 = nI (i + 4) from nI_add (i + 4) 0]
            refine bp_istore_n (q := 124) 68 rfl rfl rfl (by decide) (bp_up1 rfl) ?_
            refine bp_bipush (v := 10) (q := 126) 69 rfl rfl (by decide) ?_
            refine bp_iload_n (q := 127) 70 rfl rfl rfl rfl ?_
            refine bp_imul (q := 128) 71 rfl rfl ?_
            refine bp_iload (q := 130) 72 rfl rfl rfl ?_
            refine bp_iadd (q := 131) 73 rfl rfl ?_
            rw [show (10 : Int32) * 1 + 0 = nI (10 * 1 + 0) from by decide]
            refine bp_istore_n (q := 132) 74 rfl rfl rfl (by decide) (bp_up2 rfl) ?_
            refine bp_iload_n (q := 133) 75 rfl rfl rfl rfl ?_
            refine bp_if_ne (q := 136) (tgt := 138) 76 rfl rfl (by decide) (fun z133 => ?_) (fun z133 => ?_)
            · refine bp_aload_n (q := 139) 79 rfl rfl rfl rfl ?_
              refine bp_iload_n (q := 140) 80 rfl rfl rfl rfl ?_
              refine bp_putI (q := 143) (ci := 9) (j := 32) 81 rfl rfl fl_Mo_273_9 cl9 hB0.kb (fun r hr => by cases hr; rfl) (by decide) rfl rfl ?_
              refine bp_nx (X := fun h1 => MoX M h0 h1 tw i fa fm tl lk al ind sk dp lv fr en nf nn dg nu kd (nI (10 * 1 + 0)) pe T xs L ps L1 p1 nt tb fd) (hB0.s32 rfl) (fun h1 hB1 => ?_)
              refine bp_aload_n (q := 144) 82 rfl rfl rfl rfl ?_
              refine bp_iload_n (q := 145) 83 rfl rfl rfl rfl ?_
              refine bp_iconst (v := 1) (q := 146) 84 rfl rfl (by decide) ?_
              refine bp_iadd (q := 147) 85 rfl rfl ?_
              refine bp_putI (q := 150) (ci := 9) (j := 33) 86 rfl rfl fl_Mo_270_9 cl9 hB1.kb (fun r hr => by cases hr; rfl) (by decide) rfl rfl ?_
              refine bp_nx (X := fun h2 => MoX M h0 h2 tw i fa fm tl lk al ind sk dp lv fr en nf nn dg nu kd (nI (10 * 1 + 0)) (i + 4 + 1) T xs L ps L1 p1 nt tb fd) (hB1.s33 (nI_1 _)) (fun h2 hB2 => ?_)
              refine bp_aload_n (q := 151) 87 rfl rfl rfl rfl ?_
              refine bp_iload_n (q := 152) 88 rfl rfl rfl rfl ?_
              refine bp_callV (q := 155) (ci := 9) 89 rfl rfl cw_Mo_charAt lk_Mo_83 rfl hB2.kb wd1445 wd43 rfl rfl (Nat.le_of_ble_eq_true rfl) ⟨Nat.le_of_ble_eq_true rfl, Nat.le_of_ble_eq_true rfl⟩ (s_Mo_charAt (ro := false) hB2 hT (by omega) ?_)
              refine bp_bipush (v := 62) (q := 157) 90 rfl rfl (by decide) ?_
              refine bp_icmp_ne (q := 160) (tgt := 164) 91 rfl rfl (by decide) (fun z157 => ?_) (fun z157 => ?_)
              · refine bp_iconst (v := 0) (q := 165) 94 rfl rfl (by decide) ?_
                refine bp_iret 95 rfl rfl (by first | rfl | assumption) ⟨_, rfl, ?_⟩
                have y1 : spl T i (i + 2) [60, 112] = true := bI1 z7
                have y2 := (nI_eq_iff (a := tc T (i + 2)) (b := 32) (by have := tc_lt hT (i + 2); omega) (by decide)).mp (by first | exact z28 | exact Classical.not_not.mp z28)
                have eA : alA T (i + 3) = 1 := if_pos ((nI_eq_iff (a := tc T (i + 3)) (b := 67) (by have := tc_lt hT (i + 3); omega) (by decide)).mp (by first | exact z41 | exact Classical.not_not.mp z41))
                have y0 := (nI_eq_iff (a := tc T (i + 4)) (b := 48) (by have := tc_lt hT (i + 4); omega) (by decide)).mp (by first | exact z94 | exact Classical.not_not.mp z94)
                have eI : inA T (i + 4) = 0 := if_neg (by omega)
                have eX : hdX T i = 1 := (if_pos y2).trans eA
                have eY : hdY T i = 0 := (if_pos y2).trans (by rw [eA]; exact eI)
                have eK : hdK T i = i + 4 := (if_pos y2).trans (by rw [eA]; show i + 3 + 1 + bn1 (inA T (i + 4)) = _; rw [eI]; rfl)
                exact hQ0 (fun z => by have e := z.2.2; rw [eK] at e; exact z157 (by rw [e]; rfl)) _ _ _ hB2
              · refine bp_iconst (v := 1) (q := 161) 92 rfl rfl (by decide) ?_
                refine bp_goto (tgt := 165) 93 rfl (by decide) ?_
                refine bp_iret 95 rfl rfl (by first | rfl | assumption) ⟨_, rfl, ?_⟩
                have y1 : spl T i (i + 2) [60, 112] = true := bI1 z7
                have y2 := (nI_eq_iff (a := tc T (i + 2)) (b := 32) (by have := tc_lt hT (i + 2); omega) (by decide)).mp (by first | exact z28 | exact Classical.not_not.mp z28)
                have eA : alA T (i + 3) = 1 := if_pos ((nI_eq_iff (a := tc T (i + 3)) (b := 67) (by have := tc_lt hT (i + 3); omega) (by decide)).mp (by first | exact z41 | exact Classical.not_not.mp z41))
                have y0 := (nI_eq_iff (a := tc T (i + 4)) (b := 48) (by have := tc_lt hT (i + 4); omega) (by decide)).mp (by first | exact z94 | exact Classical.not_not.mp z94)
                have eI : inA T (i + 4) = 0 := if_neg (by omega)
                have eX : hdX T i = 1 := (if_pos y2).trans eA
                have eY : hdY T i = 0 := (if_pos y2).trans (by rw [eA]; exact eI)
                have eK : hdK T i = i + 4 := (if_pos y2).trans (by rw [eA]; show i + 3 + 1 + bn1 (inA T (i + 4)) = _; rw [eI]; rfl)
                have z := hQ1 ⟨y1, fun q => by have h1 := q.1; have h2 := q.2.1; have h3 := q.2.2; rw [eX] at h2; rw [eY] at h3; omega, by rw [eK]; exact (nI_eq_iff (a := tc T (i + 4)) (b := 62) (by have := tc_lt hT (i + 4); omega) (by decide)).mp (by first | exact z157 | exact Classical.not_not.mp z157)⟩
                rw [eX, eY, eK] at z
                exact z _ hB2
            · have := (nI_eq_iff (a := 10 * 1 + 0) (b := 0) (by have := tc_lt hT (i + 4); omega) (by decide)).mp (by first | exact z133 | exact Classical.not_not.mp z133)
              omega
          · refine bp_aload_n (q := 98) 53 rfl rfl rfl rfl ?_
            refine bp_iload_n (q := 99) 54 rfl rfl rfl rfl ?_
            refine bp_callV (q := 102) (ci := 9) 55 rfl rfl cw_Mo_charAt lk_Mo_83 rfl hB0.kb wd1445 wd43 rfl rfl (Nat.le_of_ble_eq_true rfl) ⟨Nat.le_of_ble_eq_true rfl, Nat.le_of_ble_eq_true rfl⟩ (s_Mo_charAt (ro := false) hB0 hT (by omega) ?_)
            refine bp_bipush (v := 48) (q := 104) 56 rfl rfl (by decide) ?_
            refine bp_isub (q := 105) 57 rfl rfl ?_
            have hdg := dgL_is.mp (bI1 z84)
            rw [show nI (tc T (i + 4)) - 48 = nI (tc T (i + 4) - 48) from nI_sub (b := 48) (by omega)]
            refine bp_goto (tgt := 109) 58 rfl (by decide) ?_
            refine bp_istore (q := 111) 60 rfl rfl (by decide) (bp_up4 rfl) ?_
            refine bp_iload_n (q := 112) 61 rfl rfl rfl rfl ?_
            refine bp_iload (q := 114) 62 rfl rfl rfl ?_
            refine bp_if_le (q := 117) (tgt := 121) 63 rfl rfl (by decide) (fun z114 => ?_) (fun z114 => ?_)
            · have := (nI_le_iff (b := 0) (by have := tc_lt hT (i + 4); omega) (by decide)).mp z114
              have y0 : ¬ tc T (i + 4) = 48 := (fun e => z94 (by rw [e]; rfl))
              omega
            · refine bp_iconst (v := 1) (q := 118) 64 rfl rfl (by decide) ?_
              refine bp_goto (tgt := 122) 65 rfl (by decide) ?_
              refine bp_iadd (q := 123) 67 rfl rfl ?_
              rw [show nI (i + 4) + 1 = nI (i + 5) from nI_add (i + 4) 1]
              refine bp_istore_n (q := 124) 68 rfl rfl rfl (by decide) (bp_up1 rfl) ?_
              refine bp_bipush (v := 10) (q := 126) 69 rfl rfl (by decide) ?_
              refine bp_iload_n (q := 127) 70 rfl rfl rfl rfl ?_
              refine bp_imul (q := 128) 71 rfl rfl ?_
              refine bp_iload (q := 130) 72 rfl rfl rfl ?_
              refine bp_iadd (q := 131) 73 rfl rfl ?_
              rw [show (10 : Int32) * 1 + nI (tc T (i + 4) - 48) = nI (10 * 1 + (tc T (i + 4) - 48)) from by rw [show (10 : Int32) * 1 = nI (10 * 1) from by decide, nI_add]]
              refine bp_istore_n (q := 132) 74 rfl rfl rfl (by decide) (bp_up2 rfl) ?_
              refine bp_iload_n (q := 133) 75 rfl rfl rfl rfl ?_
              refine bp_if_ne (q := 136) (tgt := 138) 76 rfl rfl (by decide) (fun z133 => ?_) (fun z133 => ?_)
              · refine bp_aload_n (q := 139) 79 rfl rfl rfl rfl ?_
                refine bp_iload_n (q := 140) 80 rfl rfl rfl rfl ?_
                refine bp_putI (q := 143) (ci := 9) (j := 32) 81 rfl rfl fl_Mo_273_9 cl9 hB0.kb (fun r hr => by cases hr; rfl) (by decide) rfl rfl ?_
                refine bp_nx (X := fun h1 => MoX M h0 h1 tw i fa fm tl lk al ind sk dp lv fr en nf nn dg nu kd (nI (10 * 1 + (tc T (i + 4) - 48))) pe T xs L ps L1 p1 nt tb fd) (hB0.s32 rfl) (fun h1 hB1 => ?_)
                refine bp_aload_n (q := 144) 82 rfl rfl rfl rfl ?_
                refine bp_iload_n (q := 145) 83 rfl rfl rfl rfl ?_
                refine bp_iconst (v := 1) (q := 146) 84 rfl rfl (by decide) ?_
                refine bp_iadd (q := 147) 85 rfl rfl ?_
                refine bp_putI (q := 150) (ci := 9) (j := 33) 86 rfl rfl fl_Mo_270_9 cl9 hB1.kb (fun r hr => by cases hr; rfl) (by decide) rfl rfl ?_
                refine bp_nx (X := fun h2 => MoX M h0 h2 tw i fa fm tl lk al ind sk dp lv fr en nf nn dg nu kd (nI (10 * 1 + (tc T (i + 4) - 48))) (i + 5 + 1) T xs L ps L1 p1 nt tb fd) (hB1.s33 (nI_1 _)) (fun h2 hB2 => ?_)
                refine bp_aload_n (q := 151) 87 rfl rfl rfl rfl ?_
                refine bp_iload_n (q := 152) 88 rfl rfl rfl rfl ?_
                refine bp_callV (q := 155) (ci := 9) 89 rfl rfl cw_Mo_charAt lk_Mo_83 rfl hB2.kb wd1445 wd43 rfl rfl (Nat.le_of_ble_eq_true rfl) ⟨Nat.le_of_ble_eq_true rfl, Nat.le_of_ble_eq_true rfl⟩ (s_Mo_charAt (ro := false) hB2 hT (by omega) ?_)
                refine bp_bipush (v := 62) (q := 157) 90 rfl rfl (by decide) ?_
                refine bp_icmp_ne (q := 160) (tgt := 164) 91 rfl rfl (by decide) (fun z157 => ?_) (fun z157 => ?_)
                · refine bp_iconst (v := 0) (q := 165) 94 rfl rfl (by decide) ?_
                  refine bp_iret 95 rfl rfl (by first | rfl | assumption) ⟨_, rfl, ?_⟩
                  have y1 : spl T i (i + 2) [60, 112] = true := bI1 z7
                  have y2 := (nI_eq_iff (a := tc T (i + 2)) (b := 32) (by have := tc_lt hT (i + 2); omega) (by decide)).mp (by first | exact z28 | exact Classical.not_not.mp z28)
                  have eA : alA T (i + 3) = 1 := if_pos ((nI_eq_iff (a := tc T (i + 3)) (b := 67) (by have := tc_lt hT (i + 3); omega) (by decide)).mp (by first | exact z41 | exact Classical.not_not.mp z41))
                  have yd := dgL_is.mp (bI1 z84)
                  have y0 : ¬ tc T (i + 4) = 48 := (fun e => z94 (by rw [e]; rfl))
                  have eI : inA T (i + 4) = tc T (i + 4) - 48 := if_pos (by omega)
                  have eX : hdX T i = 1 := (if_pos y2).trans eA
                  have eY : hdY T i = (tc T (i + 4) - 48) := (if_pos y2).trans (by rw [eA]; exact eI)
                  have eK : hdK T i = i + 5 := (if_pos y2).trans (by rw [eA]; show i + 3 + 1 + bn1 (inA T (i + 4)) = _; rw [eI]; rw [show bn1 (tc T (i + 4) - 48) = 1 from if_neg (by omega)])
                  exact hQ0 (fun z => by have e := z.2.2; rw [eK] at e; exact z157 (by rw [e]; rfl)) _ _ _ hB2
                · refine bp_iconst (v := 1) (q := 161) 92 rfl rfl (by decide) ?_
                  refine bp_goto (tgt := 165) 93 rfl (by decide) ?_
                  refine bp_iret 95 rfl rfl (by first | rfl | assumption) ⟨_, rfl, ?_⟩
                  have y1 : spl T i (i + 2) [60, 112] = true := bI1 z7
                  have y2 := (nI_eq_iff (a := tc T (i + 2)) (b := 32) (by have := tc_lt hT (i + 2); omega) (by decide)).mp (by first | exact z28 | exact Classical.not_not.mp z28)
                  have eA : alA T (i + 3) = 1 := if_pos ((nI_eq_iff (a := tc T (i + 3)) (b := 67) (by have := tc_lt hT (i + 3); omega) (by decide)).mp (by first | exact z41 | exact Classical.not_not.mp z41))
                  have yd := dgL_is.mp (bI1 z84)
                  have y0 : ¬ tc T (i + 4) = 48 := (fun e => z94 (by rw [e]; rfl))
                  have eI : inA T (i + 4) = tc T (i + 4) - 48 := if_pos (by omega)
                  have eX : hdX T i = 1 := (if_pos y2).trans eA
                  have eY : hdY T i = (tc T (i + 4) - 48) := (if_pos y2).trans (by rw [eA]; exact eI)
                  have eK : hdK T i = i + 5 := (if_pos y2).trans (by rw [eA]; show i + 3 + 1 + bn1 (inA T (i + 4)) = _; rw [eI]; rw [show bn1 (tc T (i + 4) - 48) = 1 from if_neg (by omega)])
                  have z := hQ1 ⟨y1, fun q => by have h1 := q.1; have h2 := q.2.1; have h3 := q.2.2; rw [eX] at h2; rw [eY] at h3; omega, by rw [eK]; exact (nI_eq_iff (a := tc T (i + 5)) (b := 62) (by have := tc_lt hT (i + 5); omega) (by decide)).mp (by first | exact z157 | exact Classical.not_not.mp z157)⟩
                  rw [eX, eY, eK] at z
                  exact z _ hB2
              · have y0 : ¬ tc T (i + 4) = 48 := (fun e => z94 (by rw [e]; rfl))
                have := (nI_eq_iff (a := 10 * 1 + (tc T (i + 4) - 48)) (b := 0) (by have := tc_lt hT (i + 4); omega) (by decide)).mp (by first | exact z133 | exact Classical.not_not.mp z133)
                omega
  · refine bp_iconst (v := 0) (q := 11) 4 rfl rfl (by decide) ?_
    refine bp_iret 5 rfl rfl (by first | rfl | assumption) ⟨_, rfl, ?_⟩
    exact hQ0 (fun z => by have e := bI0.mp (by first | exact z7 | exact Classical.not_not.mp z7); rw [show spl T i (i + [60, 112].length) [60, 112] = true from z.1] at e; cases e) _ _ _ hB0
set_option maxRecDepth 100000 in
set_option maxHeartbeats 4000000 in
theorem s_Mo_partLetter  (hB0 : MoX M h0 h tw i fa fm tl lk al ind sk dp lv fr en nf nn dg nu kd pn pe T xs L ps L1 p1 nt tb fd) (hT : okT T) (hi : i < 1000) (hQ1 : ∀ h' k' n' e', ltR T i n' e' → MoX M h0 h' tw i fa fm tl lk al ind sk dp lv fr en nf nn dg nu k' n' e' T xs L ps L1 p1 nt tb fd → Q (some (.int 1)) h' c s) (hQ0 : ltN T i → ∀ h' pn' pe', MoX M h0 h' tw i fa fm tl lk al ind sk dp lv fr en nf nn dg nu kd pn' pe' T xs L ps L1 p1 nt tb fd → Q (some (.int 0)) h' c s) : bp_AM l G H0 (4, 94, false, false) M_Mo_partLetter h c s [.ref (M 0)] Q := by
  refine bp_of (ls := [some (.ref (M 0)), none]) (by decide) dt_Mo_partLetter (Nat.le_of_ble_eq_true rfl) (fun q hq => hq) false ?_
  refine bp_aload_n (q := 1) 0 rfl rfl rfl rfl ?_
  refine bp_aload_n (q := 2) 1 rfl rfl rfl rfl ?_
  refine bp_getI (q := 5) (ci := 9) (j := 12) 2 rfl rfl fl_Mo_90_9 hB0.kb rfl ?_
  rw [hB0.i12]
  refine bp_callV (q := 8) (ci := 9) 3 rfl rfl cw_Mo_charAt lk_Mo_83 rfl hB0.kb wd1445 wd43 rfl rfl (Nat.le_of_ble_eq_true rfl) ⟨Nat.le_of_ble_eq_true rfl, Nat.le_of_ble_eq_true rfl⟩ (s_Mo_charAt (ro := false) hB0 hT (by omega) ?_)
  refine bp_istore_n (q := 9) 4 rfl rfl rfl (by decide) (bp_up1 rfl) ?_
  refine bp_iload_n (q := 10) 5 rfl rfl rfl rfl ?_
  refine bp_if_eq (q := 13) (tgt := 31) 6 rfl rfl (by decide) (fun z10 => ?_) (fun z10 => ?_)
  · refine bp_iconst (v := 0) (q := 32) 16 rfl rfl (by decide) ?_
    refine bp_iret 17 rfl rfl (by first | rfl | assumption) ⟨_, rfl, ?_⟩
    exact hQ0 (Or.inl (Or.inl ((nI_eq_iff (a := tc T i) (b := 0) (by have := tc_lt hT i; omega) (by decide)).mp z10))) _ _ _ hB0
  · refine bp_iload_n (q := 14) 7 rfl rfl rfl rfl ?_
    refine bp_bipush (v := 60) (q := 16) 8 rfl rfl (by decide) ?_
    refine bp_icmp_eq (q := 19) (tgt := 31) 9 rfl rfl (by decide) (fun z16 => ?_) (fun z16 => ?_)
    · refine bp_iconst (v := 0) (q := 32) 16 rfl rfl (by decide) ?_
      refine bp_iret 17 rfl rfl (by first | rfl | assumption) ⟨_, rfl, ?_⟩
      exact hQ0 (Or.inl (Or.inr (Or.inl ((nI_eq_iff (a := tc T (i)) (b := 60) (by have := tc_lt hT (i); omega) (by decide)).mp (by first | exact z16 | exact Classical.not_not.mp z16))))) _ _ _ hB0
    · refine bp_iload_n (q := 20) 10 rfl rfl rfl rfl ?_
      refine bp_bipush (v := 62) (q := 22) 11 rfl rfl (by decide) ?_
      refine bp_icmp_eq (q := 25) (tgt := 31) 12 rfl rfl (by decide) (fun z22 => ?_) (fun z22 => ?_)
      · refine bp_iconst (v := 0) (q := 32) 16 rfl rfl (by decide) ?_
        refine bp_iret 17 rfl rfl (by first | rfl | assumption) ⟨_, rfl, ?_⟩
        exact hQ0 (Or.inl (Or.inr (Or.inr (Or.inl ((nI_eq_iff (a := tc T (i)) (b := 62) (by have := tc_lt hT (i); omega) (by decide)).mp (by first | exact z22 | exact Classical.not_not.mp z22)))))) _ _ _ hB0
      · refine bp_iload_n (q := 26) 13 rfl rfl rfl rfl ?_
        refine bp_bipush (v := 10) (q := 28) 14 rfl rfl (by decide) ?_
        refine bp_icmp_ne (q := 31) (tgt := 33) 15 rfl rfl (by decide) (fun z28 => ?_) (fun z28 => ?_)
        · refine bp_aload_n (q := 34) 18 rfl rfl rfl rfl ?_
          refine bp_iload_n (q := 35) 19 rfl rfl rfl rfl ?_
          refine bp_putI (q := 38) (ci := 9) (j := 32) 20 rfl rfl fl_Mo_273_9 cl9 hB0.kb (fun r hr => by cases hr; rfl) (by decide) rfl rfl ?_
          refine bp_nx (X := fun h1 => MoX M h0 h1 tw i fa fm tl lk al ind sk dp lv fr en nf nn dg nu kd (nI (tc T i)) pe T xs L ps L1 p1 nt tb fd) (hB0.s32 rfl) (fun h1 hB1 => ?_)
          refine bp_aload_n (q := 39) 21 rfl rfl rfl rfl ?_
          refine bp_aload_n (q := 40) 22 rfl rfl rfl rfl ?_
          refine bp_getI (q := 43) (ci := 9) (j := 12) 23 rfl rfl fl_Mo_90_9 hB1.kb rfl ?_
          rw [hB1.i12]
          refine bp_iconst (v := 1) (q := 44) 24 rfl rfl (by decide) ?_
          refine bp_iadd (q := 45) 25 rfl rfl ?_
          refine bp_putI (q := 48) (ci := 9) (j := 33) 26 rfl rfl fl_Mo_270_9 cl9 hB1.kb (fun r hr => by cases hr; rfl) (by decide) rfl rfl ?_
          refine bp_nx (X := fun h2 => MoX M h0 h2 tw i fa fm tl lk al ind sk dp lv fr en nf nn dg nu kd (nI (tc T i)) (i + 1) T xs L ps L1 p1 nt tb fd) (hB1.s33 (nI_1 i)) (fun h2 hB2 => ?_)
          refine bp_iload_n (q := 49) 27 rfl rfl rfl rfl ?_
          refine bp_bipush (v := 38) (q := 51) 28 rfl rfl (by decide) ?_
          refine bp_icmp_eq (q := 54) (tgt := 56) 29 rfl rfl (by decide) (fun z51 => ?_) (fun z51 => ?_)
          · refine bp_aload_n (q := 57) 32 rfl rfl rfl rfl ?_
            refine bp_ldc2 (q := 60) 33 rfl rfl wd1610 ?_
            refine bp_bipush (v := 13) (q := 62) 34 rfl rfl (by decide) ?_
            refine bp_callV (q := 65) (ci := 9) 35 rfl rfl cw_Mo_part lk_Mo_280 rfl hB2.kb wd1581 wd65 rfl rfl (Nat.le_of_ble_eq_true rfl) ⟨Nat.le_of_ble_eq_true rfl, Nat.le_of_ble_eq_true rfl⟩ (s_Mo_part (k := 13) hB2 hT lt_278 rfl (by omega) (fun y62 h3 hB3 => ?_) (fun y62 h3 hB3 => ?_))
            · refine bp_if_ne (q := 68) (tgt := 92) 36 rfl rfl (by decide) (fun z65 => ?_) (fun z => absurd z (by decide))
              refine bp_aload_n (q := 93) 47 rfl rfl rfl rfl ?_
              refine bp_aload_n (q := 94) 48 rfl rfl rfl rfl ?_
              refine bp_ldc2 (q := 97) 49 rfl rfl wd1610 ?_
              refine bp_callV (q := 100) (ci := 9) 50 rfl rfl cw_Mo_stands lk_Mo_264 rfl hB3.kb wd1585 wd66 rfl rfl (Nat.le_of_ble_eq_true rfl) ⟨Nat.le_of_ble_eq_true rfl, Nat.le_of_ble_eq_true rfl⟩ (s_Mo_stands (ro := false) hB3 hT lt_278 rfl (by omega) ?_)
              refine bp_if_eq (q := 103) (tgt := 108) 51 rfl rfl (by decide) (fun z100 => ?_) (fun z100 => ?_)
              · exact absurd z100 (by rw [show spl T i (i + [38, 108, 116, 59].length) [38, 108, 116, 59] = true from y62]; decide)
              · refine bp_bipush (v := 60) (q := 105) 52 rfl rfl (by decide) ?_
                refine bp_goto (tgt := 125) 53 rfl (by decide) ?_
                refine bp_putI (q := 128) (ci := 9) (j := 32) 61 rfl rfl fl_Mo_273_9 cl9 hB3.kb (fun r hr => by cases hr; rfl) (by decide) rfl rfl ?_
                refine bp_nx (X := fun h4 => MoX M h0 h4 tw i fa fm tl lk al ind sk dp lv fr en nf nn dg nu 13 60 (i + 4) T xs L ps L1 p1 nt tb fd) (hB3.s32 rfl) (fun h4 hB4 => ?_)
                refine bp_iconst (v := 1) (q := 129) 62 rfl rfl (by decide) ?_
                refine bp_iret 63 rfl rfl (by first | rfl | assumption) ⟨_, rfl, ?_⟩
                have nC : ¬ ltC T i := fun z => by
                  rcases z with z | z | z | z
                  · exact z10 (by rw [z]; rfl)
                  · exact z16 (by rw [z]; rfl)
                  · exact z22 (by rw [z]; rfl)
                  · exact z28 (by rw [z]; rfl)
                have y38 := (nI_eq_iff (a := tc T (i)) (b := 38) (by have := tc_lt hT (i); omega) (by decide)).mp (by first | exact z51 | exact Classical.not_not.mp z51)
                exact hQ1 _ _ _ _ ⟨nC, Or.inr ⟨y38, Or.inl ⟨y62, rfl, rfl⟩⟩⟩ hB4
            · refine bp_if_ne (q := 68) (tgt := 92) 36 rfl rfl (by decide) (fun z => absurd z (by decide)) (fun z65 => ?_)
              refine bp_aload_n (q := 69) 37 rfl rfl rfl rfl ?_
              refine bp_ldc2 (q := 72) 38 rfl rfl wd1611 ?_
              refine bp_bipush (v := 13) (q := 74) 39 rfl rfl (by decide) ?_
              refine bp_callV (q := 77) (ci := 9) 40 rfl rfl cw_Mo_part lk_Mo_280 rfl hB3.kb wd1581 wd65 rfl rfl (Nat.le_of_ble_eq_true rfl) ⟨Nat.le_of_ble_eq_true rfl, Nat.le_of_ble_eq_true rfl⟩ (s_Mo_part (k := 13) hB3 hT lt_284 rfl (by omega) (fun y74 h4 hB4 => ?_) (fun y74 h4 hB4 => ?_))
              · refine bp_if_ne (q := 80) (tgt := 92) 41 rfl rfl (by decide) (fun z77 => ?_) (fun z => absurd z (by decide))
                refine bp_aload_n (q := 93) 47 rfl rfl rfl rfl ?_
                refine bp_aload_n (q := 94) 48 rfl rfl rfl rfl ?_
                refine bp_ldc2 (q := 97) 49 rfl rfl wd1610 ?_
                refine bp_callV (q := 100) (ci := 9) 50 rfl rfl cw_Mo_stands lk_Mo_264 rfl hB4.kb wd1585 wd66 rfl rfl (Nat.le_of_ble_eq_true rfl) ⟨Nat.le_of_ble_eq_true rfl, Nat.le_of_ble_eq_true rfl⟩ (s_Mo_stands (ro := false) hB4 hT lt_278 rfl (by omega) ?_)
                refine bp_if_eq (q := 103) (tgt := 108) 51 rfl rfl (by decide) (fun z100 => ?_) (fun z100 => ?_)
                · refine bp_aload_n (q := 109) 54 rfl rfl rfl rfl ?_
                  refine bp_ldc2 (q := 112) 55 rfl rfl wd1611 ?_
                  refine bp_callV (q := 115) (ci := 9) 56 rfl rfl cw_Mo_stands lk_Mo_264 rfl hB4.kb wd1585 wd66 rfl rfl (Nat.le_of_ble_eq_true rfl) ⟨Nat.le_of_ble_eq_true rfl, Nat.le_of_ble_eq_true rfl⟩ (s_Mo_stands (ro := false) hB4 hT lt_284 rfl (by omega) ?_)
                  refine bp_if_eq (q := 118) (tgt := 123) 57 rfl rfl (by decide) (fun z115 => ?_) (fun z115 => ?_)
                  · exact absurd z115 (by rw [show spl T i (i + [38, 103, 116, 59].length) [38, 103, 116, 59] = true from y74]; decide)
                  · refine bp_bipush (v := 62) (q := 120) 58 rfl rfl (by decide) ?_
                    refine bp_goto (tgt := 125) 59 rfl (by decide) ?_
                    refine bp_putI (q := 128) (ci := 9) (j := 32) 61 rfl rfl fl_Mo_273_9 cl9 hB4.kb (fun r hr => by cases hr; rfl) (by decide) rfl rfl ?_
                    refine bp_nx (X := fun h5 => MoX M h0 h5 tw i fa fm tl lk al ind sk dp lv fr en nf nn dg nu 13 62 (i + 4) T xs L ps L1 p1 nt tb fd) (hB4.s32 rfl) (fun h5 hB5 => ?_)
                    refine bp_iconst (v := 1) (q := 129) 62 rfl rfl (by decide) ?_
                    refine bp_iret 63 rfl rfl (by first | rfl | assumption) ⟨_, rfl, ?_⟩
                    have nC : ¬ ltC T i := fun z => by
                      rcases z with z | z | z | z
                      · exact z10 (by rw [z]; rfl)
                      · exact z16 (by rw [z]; rfl)
                      · exact z22 (by rw [z]; rfl)
                      · exact z28 (by rw [z]; rfl)
                    have y38 := (nI_eq_iff (a := tc T (i)) (b := 38) (by have := tc_lt hT (i); omega) (by decide)).mp (by first | exact z51 | exact Classical.not_not.mp z51)
                    exact hQ1 _ _ _ _ ⟨nC, Or.inr ⟨y38, Or.inr (Or.inl ⟨y62, y74, rfl, rfl⟩)⟩⟩ hB5
                · exact absurd (by rw [show spl T i (i + [38, 108, 116, 59].length) [38, 108, 116, 59] = false from y62]; rfl) z100
              · refine bp_if_ne (q := 80) (tgt := 92) 41 rfl rfl (by decide) (fun z => absurd z (by decide)) (fun z77 => ?_)
                refine bp_aload_n (q := 81) 42 rfl rfl rfl rfl ?_
                refine bp_ldc2 (q := 84) 43 rfl rfl wd1612 ?_
                refine bp_bipush (v := 13) (q := 86) 44 rfl rfl (by decide) ?_
                refine bp_callV (q := 89) (ci := 9) 45 rfl rfl cw_Mo_part lk_Mo_280 rfl hB4.kb wd1581 wd65 rfl rfl (Nat.le_of_ble_eq_true rfl) ⟨Nat.le_of_ble_eq_true rfl, Nat.le_of_ble_eq_true rfl⟩ (s_Mo_part (k := 13) hB4 hT lt_286 rfl (by omega) (fun y86 h5 hB5 => ?_) (fun y86 h5 hB5 => ?_))
                · refine bp_if_eq (q := 92) (tgt := 130) 46 rfl rfl (by decide) (fun z => absurd z (by decide)) (fun z89 => ?_)
                  refine bp_aload_n (q := 93) 47 rfl rfl rfl rfl ?_
                  refine bp_aload_n (q := 94) 48 rfl rfl rfl rfl ?_
                  refine bp_ldc2 (q := 97) 49 rfl rfl wd1610 ?_
                  refine bp_callV (q := 100) (ci := 9) 50 rfl rfl cw_Mo_stands lk_Mo_264 rfl hB5.kb wd1585 wd66 rfl rfl (Nat.le_of_ble_eq_true rfl) ⟨Nat.le_of_ble_eq_true rfl, Nat.le_of_ble_eq_true rfl⟩ (s_Mo_stands (ro := false) hB5 hT lt_278 rfl (by omega) ?_)
                  refine bp_if_eq (q := 103) (tgt := 108) 51 rfl rfl (by decide) (fun z100 => ?_) (fun z100 => ?_)
                  · refine bp_aload_n (q := 109) 54 rfl rfl rfl rfl ?_
                    refine bp_ldc2 (q := 112) 55 rfl rfl wd1611 ?_
                    refine bp_callV (q := 115) (ci := 9) 56 rfl rfl cw_Mo_stands lk_Mo_264 rfl hB5.kb wd1585 wd66 rfl rfl (Nat.le_of_ble_eq_true rfl) ⟨Nat.le_of_ble_eq_true rfl, Nat.le_of_ble_eq_true rfl⟩ (s_Mo_stands (ro := false) hB5 hT lt_284 rfl (by omega) ?_)
                    refine bp_if_eq (q := 118) (tgt := 123) 57 rfl rfl (by decide) (fun z115 => ?_) (fun z115 => ?_)
                    · refine bp_bipush (v := 38) (q := 125) 60 rfl rfl (by decide) ?_
                      refine bp_putI (q := 128) (ci := 9) (j := 32) 61 rfl rfl fl_Mo_273_9 cl9 hB5.kb (fun r hr => by cases hr; rfl) (by decide) rfl rfl ?_
                      refine bp_nx (X := fun h6 => MoX M h0 h6 tw i fa fm tl lk al ind sk dp lv fr en nf nn dg nu 13 38 (i + 5) T xs L ps L1 p1 nt tb fd) (hB5.s32 rfl) (fun h6 hB6 => ?_)
                      refine bp_iconst (v := 1) (q := 129) 62 rfl rfl (by decide) ?_
                      refine bp_iret 63 rfl rfl (by first | rfl | assumption) ⟨_, rfl, ?_⟩
                      have nC : ¬ ltC T i := fun z => by
                        rcases z with z | z | z | z
                        · exact z10 (by rw [z]; rfl)
                        · exact z16 (by rw [z]; rfl)
                        · exact z22 (by rw [z]; rfl)
                        · exact z28 (by rw [z]; rfl)
                      have y38 := (nI_eq_iff (a := tc T (i)) (b := 38) (by have := tc_lt hT (i); omega) (by decide)).mp (by first | exact z51 | exact Classical.not_not.mp z51)
                      exact hQ1 _ _ _ _ ⟨nC, Or.inr ⟨y38, Or.inr (Or.inr (Or.inl ⟨y62, y74, y86, rfl, rfl⟩))⟩⟩ hB6
                    · exact absurd (by rw [show spl T i (i + [38, 103, 116, 59].length) [38, 103, 116, 59] = false from y74]; rfl) z115
                  · exact absurd (by rw [show spl T i (i + [38, 108, 116, 59].length) [38, 108, 116, 59] = false from y62]; rfl) z100
                · refine bp_if_eq (q := 92) (tgt := 130) 46 rfl rfl (by decide) (fun z89 => ?_) (fun z => absurd z (by decide))
                  refine bp_aload_n (q := 131) 64 rfl rfl rfl rfl ?_
                  refine bp_aload_n (q := 132) 65 rfl rfl rfl rfl ?_
                  refine bp_getI (q := 135) (ci := 9) (j := 12) 66 rfl rfl fl_Mo_90_9 hB5.kb rfl ?_
                  rw [hB5.i12]
                  refine bp_iconst (v := 1) (q := 136) 67 rfl rfl (by decide) ?_
                  refine bp_iadd (q := 137) 68 rfl rfl ?_
                  rw [nI_1]
                  refine bp_bipush (v := 59) (q := 139) 69 rfl rfl (by decide) ?_
                  refine bp_bipush (v := 127) (q := 141) 70 rfl rfl (by decide) ?_
                  refine bp_sipush (v := 255) (q := 144) 71 rfl rfl (by decide) ?_
                  refine bp_iconst (v := 0) (q := 145) 72 rfl rfl (by decide) ?_
                  refine bp_callV (q := 148) (ci := 9) 73 rfl rfl cw_Mo_partDigits lk_Mo_288 rfl hB5.kb wd1598 wd67 rfl rfl (Nat.le_of_ble_eq_true rfl) ⟨Nat.le_of_ble_eq_true rfl, Nat.le_of_ble_eq_true rfl⟩ (s_Mo_partDigits (f := i + 1) (e := 59) (lo := 127) (hi := 255) (bt := 0) hB5 hT (by omega) (by decide) (by decide) (by decide) (by decide) (fun y145 h6 hB6 => ?_) (fun y145 => ?_))
                  · refine bp_iret 74 rfl rfl (by first | rfl | assumption) ⟨_, rfl, ?_⟩
                    have nC : ¬ ltC T i := fun z => by
                      rcases z with z | z | z | z
                      · exact z10 (by rw [z]; rfl)
                      · exact z16 (by rw [z]; rfl)
                      · exact z22 (by rw [z]; rfl)
                      · exact z28 (by rw [z]; rfl)
                    have y38 := (nI_eq_iff (a := tc T (i)) (b := 38) (by have := tc_lt hT (i); omega) (by decide)).mp (by first | exact z51 | exact Classical.not_not.mp z51)
                    exact hQ1 _ _ _ _ ⟨nC, Or.inr ⟨y38, Or.inr (Or.inr (Or.inr ⟨y62, y74, y86, y145, rfl, rfl⟩))⟩⟩ hB6
                  · refine bp_iret 74 rfl rfl (by first | rfl | assumption) ⟨_, rfl, ?_⟩
                    have nC : ¬ ltC T i := fun z => by
                      rcases z with z | z | z | z
                      · exact z10 (by rw [z]; rfl)
                      · exact z16 (by rw [z]; rfl)
                      · exact z22 (by rw [z]; rfl)
                      · exact z28 (by rw [z]; rfl)
                    have y38 := (nI_eq_iff (a := tc T (i)) (b := 38) (by have := tc_lt hT (i); omega) (by decide)).mp (by first | exact z51 | exact Classical.not_not.mp z51)
                    exact hQ0 (Or.inr ⟨y38, y62, y74, y86, y145⟩) _ _ _ hB5
          · refine bp_iconst (v := 1) (q := 55) 30 rfl rfl (by decide) ?_
            refine bp_iret 31 rfl rfl (by first | rfl | assumption) ⟨_, rfl, ?_⟩
            have nC : ¬ ltC T i := fun z => by
              rcases z with z | z | z | z
              · exact z10 (by rw [z]; rfl)
              · exact z16 (by rw [z]; rfl)
              · exact z22 (by rw [z]; rfl)
              · exact z28 (by rw [z]; rfl)
            exact hQ1 _ _ _ _ ⟨nC, Or.inl ⟨(fun e => z51 (by rw [e]; rfl)), rfl, rfl⟩⟩ hB2
        · refine bp_iconst (v := 0) (q := 32) 16 rfl rfl (by decide) ?_
          refine bp_iret 17 rfl rfl (by first | rfl | assumption) ⟨_, rfl, ?_⟩
          exact hQ0 (Or.inl (Or.inr (Or.inr (Or.inr ((nI_eq_iff (a := tc T (i)) (b := 10) (by have := tc_lt hT (i); omega) (by decide)).mp (by first | exact z28 | exact Classical.not_not.mp z28)))))) _ _ _ hB0
set_option maxRecDepth 100000 in
set_option maxHeartbeats 4000000 in
theorem s_Mo_lookAhead  (hB0 : MoX M h0 h tw i fa fm tl lk al ind sk dp lv fr en nf nn dg nu kd pn pe T xs L ps L1 p1 nt tb fd) (hT : okT T) (hi : i < 1000) (hQ : ∀ h' k' n' e', LAr T i k' n' e' → MoX M h0 h' tw i fa fm tl lk al ind sk dp lv fr en nf nn dg nu k' n' e' T xs L ps L1 p1 nt tb fd → Q none h' c s) : bp_AM l G H0 (5, 115, false, false) M_Mo_lookAhead h c s [.ref (M 0)] Q := by
  refine bp_of (ls := [some (.ref (M 0))]) (by decide) dt_Mo_lookAhead (Nat.le_of_ble_eq_true rfl) (fun q hq => hq) false ?_
  have hT4 := hT.1
  refine bp_aload_n (q := 1) 0 rfl rfl rfl rfl ?_
  refine bp_iconst (v := 0) (q := 2) 1 rfl rfl (by decide) ?_
  refine bp_putI (q := 5) (ci := 9) (j := 32) 2 rfl rfl fl_Mo_273_9 cl9 hB0.kb (fun r hr => by cases hr; rfl) (by decide) rfl rfl ?_
  refine bp_nx (X := fun h1 => MoX M h0 h1 tw i fa fm tl lk al ind sk dp lv fr en nf nn dg nu kd 0 pe T xs L ps L1 p1 nt tb fd) (hB0.s32 rfl) (fun h1 hB1 => ?_)
  refine bp_aload_n (q := 6) 3 rfl rfl rfl rfl ?_
  refine bp_aload_n (q := 7) 4 rfl rfl rfl rfl ?_
  refine bp_getI (q := 10) (ci := 9) (j := 12) 5 rfl rfl fl_Mo_90_9 hB1.kb rfl ?_
  rw [hB1.i12]
  refine bp_putI (q := 13) (ci := 9) (j := 33) 6 rfl rfl fl_Mo_270_9 cl9 hB1.kb (fun r hr => by cases hr; rfl) (by decide) rfl rfl ?_
  refine bp_nx (X := fun h2 => MoX M h0 h2 tw i fa fm tl lk al ind sk dp lv fr en nf nn dg nu kd 0 i T xs L ps L1 p1 nt tb fd) (hB1.s33 rfl) (fun h2 hB2 => ?_)
  refine bp_aload_n (q := 14) 7 rfl rfl rfl rfl ?_
  refine bp_aload_n (q := 15) 8 rfl rfl rfl rfl ?_
  refine bp_getI (q := 18) (ci := 9) (j := 12) 9 rfl rfl fl_Mo_90_9 hB2.kb rfl ?_
  rw [hB2.i12]
  refine bp_aload_n (q := 19) 10 rfl rfl rfl rfl ?_
  refine bp_getI (q := 22) (ci := 9) (j := 1) 11 rfl rfl fl_Mo_63_9 hB2.kb rfl ?_
  rw [hB2.i1]
  refine bp_icmp_lt (q := 25) (tgt := 29) 12 rfl rfl (by decide) (fun z22 => ?_) (fun z22 => ?_)
  · refine bp_bipush (v := 14) (q := 31) 15 rfl rfl (by decide) ?_
    refine bp_putI (q := 34) (ci := 9) (j := 31) 16 rfl rfl fl_Mo_267_9 cl9 hB2.kb (fun r hr => by cases hr; rfl) (by decide) rfl rfl ?_
    refine bp_nx (X := fun h3 => MoX M h0 h3 tw i fa fm tl lk al ind sk dp lv fr en nf nn dg nu 14 0 i T xs L ps L1 p1 nt tb fd) (hB2.s31 rfl) (fun h3 hB3 => ?_)
    refine bp_aload_n (q := 35) 17 rfl rfl rfl rfl ?_
    refine bp_getI (q := 38) (ci := 9) (j := 31) 18 rfl rfl fl_Mo_267_9 hB3.kb rfl ?_
    rw [hB3.i31]
    refine bp_if_eq (q := 41) (tgt := 146) 19 rfl rfl (by decide) (fun z => absurd z (by decide)) (fun z38 => ?_)
    refine bp_aload_n (q := 42) 20 rfl rfl rfl rfl ?_
    refine bp_ldc2 (q := 45) 21 rfl rfl wd1578 ?_
    refine bp_iconst (v := 1) (q := 46) 22 rfl rfl (by decide) ?_
    refine bp_callV (q := 49) (ci := 9) 23 rfl rfl cw_Mo_part lk_Mo_280 rfl hB3.kb wd1581 wd65 rfl rfl (Nat.le_of_ble_eq_true rfl) ⟨Nat.le_of_ble_eq_true rfl, Nat.le_of_ble_eq_true rfl⟩ (s_Mo_part (k := 1) hB3 hT lt_292 rfl (by omega) (fun y46 h4 hB4 => ?_) (fun y46 h4 hB4 => ?_))
    · refine bp_if_ne (q := 52) (tgt := 146) 24 rfl rfl (by decide) (fun z49 => ?_) (fun z => absurd z (by decide))
      refine bp_vret 65 rfl rfl  ⟨_, rfl, ?_⟩
      have hiT : i < T.length := Nat.not_le.mp (fun e => absurd (nI_le e (by omega)) (by first | exact z22 | exact Int32.not_le.mpr z22))
      exact hQ _ _ _ _ (Or.inr ⟨hiT, Or.inl (⟨rfl, rfl, rfl, y46⟩)⟩) hB4
    · refine bp_if_ne (q := 52) (tgt := 146) 24 rfl rfl (by decide) (fun z => absurd z (by decide)) (fun z49 => ?_)
      refine bp_aload_n (q := 53) 25 rfl rfl rfl rfl ?_
      refine bp_ldc2 (q := 56) 26 rfl rfl wd1587 ?_
      refine bp_iconst (v := 2) (q := 57) 27 rfl rfl (by decide) ?_
      refine bp_callV (q := 60) (ci := 9) 28 rfl rfl cw_Mo_part lk_Mo_280 rfl hB4.kb wd1581 wd65 rfl rfl (Nat.le_of_ble_eq_true rfl) ⟨Nat.le_of_ble_eq_true rfl, Nat.le_of_ble_eq_true rfl⟩ (s_Mo_part (k := 2) hB4 hT lt_294 rfl (by omega) (fun y57 h5 hB5 => ?_) (fun y57 h5 hB5 => ?_))
      · refine bp_if_ne (q := 63) (tgt := 146) 29 rfl rfl (by decide) (fun z60 => ?_) (fun z => absurd z (by decide))
        refine bp_vret 65 rfl rfl  ⟨_, rfl, ?_⟩
        have hiT : i < T.length := Nat.not_le.mp (fun e => absurd (nI_le e (by omega)) (by first | exact z22 | exact Int32.not_le.mpr z22))
        exact hQ _ _ _ _ (Or.inr ⟨hiT, Or.inr (Or.inl (⟨rfl, rfl, rfl, y57⟩))⟩) hB5
      · refine bp_if_ne (q := 63) (tgt := 146) 29 rfl rfl (by decide) (fun z => absurd z (by decide)) (fun z60 => ?_)
        refine bp_aload_n (q := 64) 30 rfl rfl rfl rfl ?_
        refine bp_ldc2 (q := 67) 31 rfl rfl wd1588 ?_
        refine bp_iconst (v := 3) (q := 68) 32 rfl rfl (by decide) ?_
        refine bp_callV (q := 71) (ci := 9) 33 rfl rfl cw_Mo_part lk_Mo_280 rfl hB5.kb wd1581 wd65 rfl rfl (Nat.le_of_ble_eq_true rfl) ⟨Nat.le_of_ble_eq_true rfl, Nat.le_of_ble_eq_true rfl⟩ (s_Mo_part (k := 3) hB5 hT lt_296 rfl (by omega) (fun y68 h6 hB6 => ?_) (fun y68 h6 hB6 => ?_))
        · refine bp_if_ne (q := 74) (tgt := 146) 34 rfl rfl (by decide) (fun z71 => ?_) (fun z => absurd z (by decide))
          refine bp_vret 65 rfl rfl  ⟨_, rfl, ?_⟩
          have hiT : i < T.length := Nat.not_le.mp (fun e => absurd (nI_le e (by omega)) (by first | exact z22 | exact Int32.not_le.mpr z22))
          exact hQ _ _ _ _ (Or.inr ⟨hiT, Or.inr (Or.inr (Or.inl (⟨rfl, rfl, rfl, y68⟩)))⟩) hB6
        · refine bp_if_ne (q := 74) (tgt := 146) 34 rfl rfl (by decide) (fun z => absurd z (by decide)) (fun z71 => ?_)
          refine bp_aload_n (q := 75) 35 rfl rfl rfl rfl ?_
          refine bp_ldc2 (q := 78) 36 rfl rfl wd1589 ?_
          refine bp_bipush (v := 6) (q := 80) 37 rfl rfl (by decide) ?_
          refine bp_callV (q := 83) (ci := 9) 38 rfl rfl cw_Mo_part lk_Mo_280 rfl hB6.kb wd1581 wd65 rfl rfl (Nat.le_of_ble_eq_true rfl) ⟨Nat.le_of_ble_eq_true rfl, Nat.le_of_ble_eq_true rfl⟩ (s_Mo_part (k := 6) hB6 hT lt_298 rfl (by omega) (fun y80 h7 hB7 => ?_) (fun y80 h7 hB7 => ?_))
          · refine bp_if_ne (q := 86) (tgt := 146) 39 rfl rfl (by decide) (fun z83 => ?_) (fun z => absurd z (by decide))
            refine bp_vret 65 rfl rfl  ⟨_, rfl, ?_⟩
            have hiT : i < T.length := Nat.not_le.mp (fun e => absurd (nI_le e (by omega)) (by first | exact z22 | exact Int32.not_le.mpr z22))
            exact hQ _ _ _ _ (Or.inr ⟨hiT, Or.inr (Or.inr (Or.inr (Or.inl (⟨rfl, rfl, rfl, y80⟩))))⟩) hB7
          · refine bp_if_ne (q := 86) (tgt := 146) 39 rfl rfl (by decide) (fun z => absurd z (by decide)) (fun z83 => ?_)
            refine bp_aload_n (q := 87) 40 rfl rfl rfl rfl ?_
            refine bp_ldc2 (q := 90) 41 rfl rfl wd1590 ?_
            refine bp_bipush (v := 7) (q := 92) 42 rfl rfl (by decide) ?_
            refine bp_callV (q := 95) (ci := 9) 43 rfl rfl cw_Mo_part lk_Mo_280 rfl hB7.kb wd1581 wd65 rfl rfl (Nat.le_of_ble_eq_true rfl) ⟨Nat.le_of_ble_eq_true rfl, Nat.le_of_ble_eq_true rfl⟩ (s_Mo_part (k := 7) hB7 hT lt_300 rfl (by omega) (fun y92 h8 hB8 => ?_) (fun y92 h8 hB8 => ?_))
            · refine bp_if_ne (q := 98) (tgt := 146) 44 rfl rfl (by decide) (fun z95 => ?_) (fun z => absurd z (by decide))
              refine bp_vret 65 rfl rfl  ⟨_, rfl, ?_⟩
              have hiT : i < T.length := Nat.not_le.mp (fun e => absurd (nI_le e (by omega)) (by first | exact z22 | exact Int32.not_le.mpr z22))
              exact hQ _ _ _ _ (Or.inr ⟨hiT, Or.inr (Or.inr (Or.inr (Or.inr (Or.inl (⟨rfl, rfl, rfl, y92⟩)))))⟩) hB8
            · refine bp_if_ne (q := 98) (tgt := 146) 44 rfl rfl (by decide) (fun z => absurd z (by decide)) (fun z95 => ?_)
              refine bp_aload_n (q := 99) 45 rfl rfl rfl rfl ?_
              refine bp_ldc2 (q := 102) 46 rfl rfl wd1591 ?_
              refine bp_bipush (v := 8) (q := 104) 47 rfl rfl (by decide) ?_
              refine bp_callV (q := 107) (ci := 9) 48 rfl rfl cw_Mo_part lk_Mo_280 rfl hB8.kb wd1581 wd65 rfl rfl (Nat.le_of_ble_eq_true rfl) ⟨Nat.le_of_ble_eq_true rfl, Nat.le_of_ble_eq_true rfl⟩ (s_Mo_part (k := 8) hB8 hT lt_302 rfl (by omega) (fun y104 h9 hB9 => ?_) (fun y104 h9 hB9 => ?_))
              · refine bp_if_ne (q := 110) (tgt := 146) 49 rfl rfl (by decide) (fun z107 => ?_) (fun z => absurd z (by decide))
                refine bp_vret 65 rfl rfl  ⟨_, rfl, ?_⟩
                have hiT : i < T.length := Nat.not_le.mp (fun e => absurd (nI_le e (by omega)) (by first | exact z22 | exact Int32.not_le.mpr z22))
                exact hQ _ _ _ _ (Or.inr ⟨hiT, Or.inr (Or.inr (Or.inr (Or.inr (Or.inr (Or.inl (⟨rfl, rfl, rfl, y104⟩))))))⟩) hB9
              · refine bp_if_ne (q := 110) (tgt := 146) 49 rfl rfl (by decide) (fun z => absurd z (by decide)) (fun z107 => ?_)
                refine bp_aload_n (q := 111) 50 rfl rfl rfl rfl ?_
                refine bp_ldc2 (q := 114) 51 rfl rfl wd1592 ?_
                refine bp_bipush (v := 9) (q := 116) 52 rfl rfl (by decide) ?_
                refine bp_callV (q := 119) (ci := 9) 53 rfl rfl cw_Mo_part lk_Mo_280 rfl hB9.kb wd1581 wd65 rfl rfl (Nat.le_of_ble_eq_true rfl) ⟨Nat.le_of_ble_eq_true rfl, Nat.le_of_ble_eq_true rfl⟩ (s_Mo_part (k := 9) hB9 hT lt_304 rfl (by omega) (fun y116 h10 hB10 => ?_) (fun y116 h10 hB10 => ?_))
                · refine bp_if_ne (q := 122) (tgt := 146) 54 rfl rfl (by decide) (fun z119 => ?_) (fun z => absurd z (by decide))
                  refine bp_vret 65 rfl rfl  ⟨_, rfl, ?_⟩
                  have hiT : i < T.length := Nat.not_le.mp (fun e => absurd (nI_le e (by omega)) (by first | exact z22 | exact Int32.not_le.mpr z22))
                  exact hQ _ _ _ _ (Or.inr ⟨hiT, Or.inr (Or.inr (Or.inr (Or.inr (Or.inr (Or.inr (Or.inl (⟨rfl, rfl, rfl, y116⟩)))))))⟩) hB10
                · refine bp_if_ne (q := 122) (tgt := 146) 54 rfl rfl (by decide) (fun z => absurd z (by decide)) (fun z119 => ?_)
                  refine bp_aload_n (q := 123) 55 rfl rfl rfl rfl ?_
                  refine bp_ldc2 (q := 126) 56 rfl rfl wd1593 ?_
                  refine bp_bipush (v := 10) (q := 128) 57 rfl rfl (by decide) ?_
                  refine bp_callV (q := 131) (ci := 9) 58 rfl rfl cw_Mo_part lk_Mo_280 rfl hB10.kb wd1581 wd65 rfl rfl (Nat.le_of_ble_eq_true rfl) ⟨Nat.le_of_ble_eq_true rfl, Nat.le_of_ble_eq_true rfl⟩ (s_Mo_part (k := 10) hB10 hT lt_306 rfl (by omega) (fun y128 h11 hB11 => ?_) (fun y128 h11 hB11 => ?_))
                  · refine bp_if_ne (q := 134) (tgt := 146) 59 rfl rfl (by decide) (fun z131 => ?_) (fun z => absurd z (by decide))
                    refine bp_vret 65 rfl rfl  ⟨_, rfl, ?_⟩
                    have hiT : i < T.length := Nat.not_le.mp (fun e => absurd (nI_le e (by omega)) (by first | exact z22 | exact Int32.not_le.mpr z22))
                    exact hQ _ _ _ _ (Or.inr ⟨hiT, Or.inr (Or.inr (Or.inr (Or.inr (Or.inr (Or.inr (Or.inr (Or.inl (⟨rfl, rfl, rfl, y128⟩))))))))⟩) hB11
                  · refine bp_if_ne (q := 134) (tgt := 146) 59 rfl rfl (by decide) (fun z => absurd z (by decide)) (fun z131 => ?_)
                    refine bp_aload_n (q := 135) 60 rfl rfl rfl rfl ?_
                    refine bp_ldc2 (q := 138) 61 rfl rfl wd1594 ?_
                    refine bp_bipush (v := 11) (q := 140) 62 rfl rfl (by decide) ?_
                    refine bp_callV (q := 143) (ci := 9) 63 rfl rfl cw_Mo_part lk_Mo_280 rfl hB11.kb wd1581 wd65 rfl rfl (Nat.le_of_ble_eq_true rfl) ⟨Nat.le_of_ble_eq_true rfl, Nat.le_of_ble_eq_true rfl⟩ (s_Mo_part (k := 11) hB11 hT lt_308 rfl (by omega) (fun y140 h12 hB12 => ?_) (fun y140 h12 hB12 => ?_))
                    · refine bp_if_eq (q := 146) (tgt := 147) 64 rfl rfl (by decide) (fun z => absurd z (by decide)) (fun z143 => ?_)
                      refine bp_vret 65 rfl rfl  ⟨_, rfl, ?_⟩
                      have hiT : i < T.length := Nat.not_le.mp (fun e => absurd (nI_le e (by omega)) (by first | exact z22 | exact Int32.not_le.mpr z22))
                      exact hQ _ _ _ _ (Or.inr ⟨hiT, Or.inr (Or.inr (Or.inr (Or.inr (Or.inr (Or.inr (Or.inr (Or.inr (Or.inl (⟨rfl, rfl, rfl, y140⟩)))))))))⟩) hB12
                    · refine bp_if_eq (q := 146) (tgt := 147) 64 rfl rfl (by decide) (fun z143 => ?_) (fun z => absurd z (by decide))
                      refine bp_aload_n (q := 148) 66 rfl rfl rfl rfl ?_
                      refine bp_ldc2 (q := 151) 67 rfl rfl wd1595 ?_
                      refine bp_callV (q := 154) (ci := 9) 68 rfl rfl cw_Mo_stands lk_Mo_264 rfl hB12.kb wd1585 wd66 rfl rfl (Nat.le_of_ble_eq_true rfl) ⟨Nat.le_of_ble_eq_true rfl, Nat.le_of_ble_eq_true rfl⟩ (s_Mo_stands (ro := false) hB12 hT lt_310 rfl (by omega) ?_)
                      refine bp_if_eq (q := 157) (tgt := 185) 69 rfl rfl (by decide) (fun z154 => ?_) (fun z154 => ?_)
                      · refine bp_aload_n (q := 186) 85 rfl rfl rfl rfl ?_
                        refine bp_ldc2 (q := 189) 86 rfl rfl wd1600 ?_
                        refine bp_callV (q := 192) (ci := 9) 87 rfl rfl cw_Mo_stands lk_Mo_264 rfl hB12.kb wd1585 wd66 rfl rfl (Nat.le_of_ble_eq_true rfl) ⟨Nat.le_of_ble_eq_true rfl, Nat.le_of_ble_eq_true rfl⟩ (s_Mo_stands (ro := false) hB12 hT lt_312 rfl (by omega) ?_)
                        refine bp_if_eq (q := 195) (tgt := 222) 88 rfl rfl (by decide) (fun z192 => ?_) (fun z192 => ?_)
                        · refine bp_aload_n (q := 223) 104 rfl rfl rfl rfl ?_
                          refine bp_callV (q := 226) (ci := 9) 105 rfl rfl cw_Mo_partHead lk_Mo_314 rfl hB12.kb wd1603 wd68 rfl rfl (Nat.le_of_ble_eq_true rfl) ⟨Nat.le_of_ble_eq_true rfl, Nat.le_of_ble_eq_true rfl⟩ (s_Mo_partHead hB12 hT (by omega) (fun y223 h13 hB13 => ?_) (fun y223 h13 n223 e223 hB13 => ?_))
                          · refine bp_if_eq (q := 229) (tgt := 238) 106 rfl rfl (by decide) (fun z => absurd z (by decide)) (fun z226 => ?_)
                            refine bp_aload_n (q := 230) 107 rfl rfl rfl rfl ?_
                            refine bp_bipush (v := 12) (q := 232) 108 rfl rfl (by decide) ?_
                            refine bp_putI (q := 235) (ci := 9) (j := 31) 109 rfl rfl fl_Mo_267_9 cl9 hB13.kb (fun r hr => by cases hr; rfl) (by decide) rfl rfl ?_
                            refine bp_nx (X := fun h14 => MoX M h0 h14 tw i fa fm tl lk al ind sk dp lv fr en nf nn dg nu 12 (nI (10 * hdX T i + hdY T i)) (hdK T i + 1) T xs L ps L1 p1 nt tb fd) (hB13.s31 rfl) (fun h14 hB14 => ?_)
                            refine bp_goto (tgt := 251) 110 rfl (by decide) ?_
                            refine bp_vret 117 rfl rfl  ⟨_, rfl, ?_⟩
                            have hiT : i < T.length := Nat.not_le.mp (fun e => absurd (nI_le e (by omega)) (by first | exact z22 | exact Int32.not_le.mpr z22))
                            exact hQ _ _ _ _ (Or.inr ⟨hiT, Or.inr (Or.inr (Or.inr (Or.inr (Or.inr (Or.inr (Or.inr (Or.inr (Or.inr (Or.inr (Or.inr (Or.inl (⟨rfl, y223, rfl, rfl⟩))))))))))))⟩) hB14
                          · refine bp_if_eq (q := 229) (tgt := 238) 106 rfl rfl (by decide) (fun z226 => ?_) (fun z => absurd z (by decide))
                            refine bp_aload_n (q := 239) 111 rfl rfl rfl rfl ?_
                            refine bp_callV (q := 242) (ci := 9) 112 rfl rfl cw_Mo_partLetter lk_Mo_317 rfl hB13.kb wd1608 wd69 rfl rfl (Nat.le_of_ble_eq_true rfl) ⟨Nat.le_of_ble_eq_true rfl, Nat.le_of_ble_eq_true rfl⟩ (s_Mo_partLetter hB13 hT (by omega) (fun h14 k239 n239 e239 y239 hB14 => ?_) (fun y239 h14 n239 e239 hB14 => ?_))
                            · refine bp_if_eq (q := 245) (tgt := 251) 113 rfl rfl (by decide) (fun z => absurd z (by decide)) (fun z242 => ?_)
                              refine bp_aload_n (q := 246) 114 rfl rfl rfl rfl ?_
                              refine bp_bipush (v := 13) (q := 248) 115 rfl rfl (by decide) ?_
                              refine bp_putI (q := 251) (ci := 9) (j := 31) 116 rfl rfl fl_Mo_267_9 cl9 hB14.kb (fun r hr => by cases hr; rfl) (by decide) rfl rfl ?_
                              refine bp_nx (X := fun h15 => MoX M h0 h15 tw i fa fm tl lk al ind sk dp lv fr en nf nn dg nu 13 n239 e239 T xs L ps L1 p1 nt tb fd) (hB14.s31 rfl) (fun h15 hB15 => ?_)
                              refine bp_vret 117 rfl rfl  ⟨_, rfl, ?_⟩
                              have hiT : i < T.length := Nat.not_le.mp (fun e => absurd (nI_le e (by omega)) (by first | exact z22 | exact Int32.not_le.mpr z22))
                              exact hQ _ _ _ _ (Or.inr ⟨hiT, Or.inr (Or.inr (Or.inr (Or.inr (Or.inr (Or.inr (Or.inr (Or.inr (Or.inr (Or.inr (Or.inr (Or.inr (Or.inl (⟨rfl, y239⟩)))))))))))))⟩) hB15
                            · refine bp_if_eq (q := 245) (tgt := 251) 113 rfl rfl (by decide) (fun z242 => ?_) (fun z => absurd z (by decide))
                              refine bp_vret 117 rfl rfl  ⟨_, rfl, ?_⟩
                              have hiT : i < T.length := Nat.not_le.mp (fun e => absurd (nI_le e (by omega)) (by first | exact z22 | exact Int32.not_le.mpr z22))
                              exact hQ _ _ _ _ (Or.inr ⟨hiT, Or.inr (Or.inr (Or.inr (Or.inr (Or.inr (Or.inr (Or.inr (Or.inr (Or.inr (Or.inr (Or.inr (Or.inr (Or.inr (⟨rfl, ⟨y46, y57, y68, y80, y92, y104, y116, y128, y140⟩, (fun z => by have e := bI0.mp z154; rw [show spl T i (i + [60, 115, 32].length) [60, 115, 32] = true from z.1] at e; cases e), (fun z => by have e := bI0.mp z192; rw [show spl T i (i + [60, 99, 32].length) [60, 99, 32] = true from z.1] at e; cases e), y223, y239⟩)))))))))))))⟩) hB14
                        · refine bp_aload_n (q := 196) 89 rfl rfl rfl rfl ?_
                          refine bp_aload_n (q := 197) 90 rfl rfl rfl rfl ?_
                          refine bp_getI (q := 200) (ci := 9) (j := 12) 91 rfl rfl fl_Mo_90_9 hB12.kb rfl ?_
                          rw [hB12.i12]
                          refine bp_iconst (v := 3) (q := 201) 92 rfl rfl (by decide) ?_
                          refine bp_iadd (q := 202) 93 rfl rfl ?_
                          rw [show nI i + 3 = nI (i + 3) from nI_add i 3]
                          refine bp_bipush (v := 62) (q := 204) 94 rfl rfl (by decide) ?_
                          refine bp_iconst (v := 1) (q := 205) 95 rfl rfl (by decide) ?_
                          refine bp_bipush (v := 7) (q := 207) 96 rfl rfl (by decide) ?_
                          refine bp_iconst (v := 0) (q := 208) 97 rfl rfl (by decide) ?_
                          refine bp_callV (q := 211) (ci := 9) 98 rfl rfl cw_Mo_partDigits lk_Mo_288 rfl hB12.kb wd1598 wd67 rfl rfl (Nat.le_of_ble_eq_true rfl) ⟨Nat.le_of_ble_eq_true rfl, Nat.le_of_ble_eq_true rfl⟩ (s_Mo_partDigits (f := i + 3) (e := 62) (lo := 1) (hi := 7) (bt := 0) hB12 hT (by omega) (by decide) (by decide) (by decide) (by decide) (fun y208 h13 hB13 => ?_) (fun y208 => ?_))
                          · refine bp_if_eq (q := 214) (tgt := 222) 99 rfl rfl (by decide) (fun z => absurd z (by decide)) (fun z211 => ?_)
                            refine bp_aload_n (q := 215) 100 rfl rfl rfl rfl ?_
                            refine bp_iconst (v := 5) (q := 216) 101 rfl rfl (by decide) ?_
                            refine bp_putI (q := 219) (ci := 9) (j := 31) 102 rfl rfl fl_Mo_267_9 cl9 hB13.kb (fun r hr => by cases hr; rfl) (by decide) rfl rfl ?_
                            refine bp_nx (X := fun h14 => MoX M h0 h14 tw i fa fm tl lk al ind sk dp lv fr en nf nn dg nu 5 (dgN T (i + 3) 1 7 0) (tnE T (i + 3) + 1) T xs L ps L1 p1 nt tb fd) (hB13.s31 rfl) (fun h14 hB14 => ?_)
                            refine bp_goto (tgt := 251) 103 rfl (by decide) ?_
                            refine bp_vret 117 rfl rfl  ⟨_, rfl, ?_⟩
                            have hiT : i < T.length := Nat.not_le.mp (fun e => absurd (nI_le e (by omega)) (by first | exact z22 | exact Int32.not_le.mpr z22))
                            exact hQ _ _ _ _ (Or.inr ⟨hiT, Or.inr (Or.inr (Or.inr (Or.inr (Or.inr (Or.inr (Or.inr (Or.inr (Or.inr (Or.inr (Or.inl (⟨rfl, rfl, rfl, bI1 z192, y208⟩)))))))))))⟩) hB14
                          · refine bp_if_eq (q := 214) (tgt := 222) 99 rfl rfl (by decide) (fun z211 => ?_) (fun z => absurd z (by decide))
                            refine bp_aload_n (q := 223) 104 rfl rfl rfl rfl ?_
                            refine bp_callV (q := 226) (ci := 9) 105 rfl rfl cw_Mo_partHead lk_Mo_314 rfl hB12.kb wd1603 wd68 rfl rfl (Nat.le_of_ble_eq_true rfl) ⟨Nat.le_of_ble_eq_true rfl, Nat.le_of_ble_eq_true rfl⟩ (s_Mo_partHead hB12 hT (by omega) (fun y223 h13 hB13 => ?_) (fun y223 h13 n223 e223 hB13 => ?_))
                            · refine bp_if_eq (q := 229) (tgt := 238) 106 rfl rfl (by decide) (fun z => absurd z (by decide)) (fun z226 => ?_)
                              refine bp_aload_n (q := 230) 107 rfl rfl rfl rfl ?_
                              refine bp_bipush (v := 12) (q := 232) 108 rfl rfl (by decide) ?_
                              refine bp_putI (q := 235) (ci := 9) (j := 31) 109 rfl rfl fl_Mo_267_9 cl9 hB13.kb (fun r hr => by cases hr; rfl) (by decide) rfl rfl ?_
                              refine bp_nx (X := fun h14 => MoX M h0 h14 tw i fa fm tl lk al ind sk dp lv fr en nf nn dg nu 12 (nI (10 * hdX T i + hdY T i)) (hdK T i + 1) T xs L ps L1 p1 nt tb fd) (hB13.s31 rfl) (fun h14 hB14 => ?_)
                              refine bp_goto (tgt := 251) 110 rfl (by decide) ?_
                              refine bp_vret 117 rfl rfl  ⟨_, rfl, ?_⟩
                              have hiT : i < T.length := Nat.not_le.mp (fun e => absurd (nI_le e (by omega)) (by first | exact z22 | exact Int32.not_le.mpr z22))
                              exact hQ _ _ _ _ (Or.inr ⟨hiT, Or.inr (Or.inr (Or.inr (Or.inr (Or.inr (Or.inr (Or.inr (Or.inr (Or.inr (Or.inr (Or.inr (Or.inl (⟨rfl, y223, rfl, rfl⟩))))))))))))⟩) hB14
                            · refine bp_if_eq (q := 229) (tgt := 238) 106 rfl rfl (by decide) (fun z226 => ?_) (fun z => absurd z (by decide))
                              refine bp_aload_n (q := 239) 111 rfl rfl rfl rfl ?_
                              refine bp_callV (q := 242) (ci := 9) 112 rfl rfl cw_Mo_partLetter lk_Mo_317 rfl hB13.kb wd1608 wd69 rfl rfl (Nat.le_of_ble_eq_true rfl) ⟨Nat.le_of_ble_eq_true rfl, Nat.le_of_ble_eq_true rfl⟩ (s_Mo_partLetter hB13 hT (by omega) (fun h14 k239 n239 e239 y239 hB14 => ?_) (fun y239 h14 n239 e239 hB14 => ?_))
                              · refine bp_if_eq (q := 245) (tgt := 251) 113 rfl rfl (by decide) (fun z => absurd z (by decide)) (fun z242 => ?_)
                                refine bp_aload_n (q := 246) 114 rfl rfl rfl rfl ?_
                                refine bp_bipush (v := 13) (q := 248) 115 rfl rfl (by decide) ?_
                                refine bp_putI (q := 251) (ci := 9) (j := 31) 116 rfl rfl fl_Mo_267_9 cl9 hB14.kb (fun r hr => by cases hr; rfl) (by decide) rfl rfl ?_
                                refine bp_nx (X := fun h15 => MoX M h0 h15 tw i fa fm tl lk al ind sk dp lv fr en nf nn dg nu 13 n239 e239 T xs L ps L1 p1 nt tb fd) (hB14.s31 rfl) (fun h15 hB15 => ?_)
                                refine bp_vret 117 rfl rfl  ⟨_, rfl, ?_⟩
                                have hiT : i < T.length := Nat.not_le.mp (fun e => absurd (nI_le e (by omega)) (by first | exact z22 | exact Int32.not_le.mpr z22))
                                exact hQ _ _ _ _ (Or.inr ⟨hiT, Or.inr (Or.inr (Or.inr (Or.inr (Or.inr (Or.inr (Or.inr (Or.inr (Or.inr (Or.inr (Or.inr (Or.inr (Or.inl (⟨rfl, y239⟩)))))))))))))⟩) hB15
                              · refine bp_if_eq (q := 245) (tgt := 251) 113 rfl rfl (by decide) (fun z242 => ?_) (fun z => absurd z (by decide))
                                refine bp_vret 117 rfl rfl  ⟨_, rfl, ?_⟩
                                have hiT : i < T.length := Nat.not_le.mp (fun e => absurd (nI_le e (by omega)) (by first | exact z22 | exact Int32.not_le.mpr z22))
                                exact hQ _ _ _ _ (Or.inr ⟨hiT, Or.inr (Or.inr (Or.inr (Or.inr (Or.inr (Or.inr (Or.inr (Or.inr (Or.inr (Or.inr (Or.inr (Or.inr (Or.inr (⟨rfl, ⟨y46, y57, y68, y80, y92, y104, y116, y128, y140⟩, (fun z => by have e := bI0.mp z154; rw [show spl T i (i + [60, 115, 32].length) [60, 115, 32] = true from z.1] at e; cases e), (fun z => y208 z.2), y223, y239⟩)))))))))))))⟩) hB14
                      · refine bp_aload_n (q := 158) 70 rfl rfl rfl rfl ?_
                        refine bp_aload_n (q := 159) 71 rfl rfl rfl rfl ?_
                        refine bp_getI (q := 162) (ci := 9) (j := 12) 72 rfl rfl fl_Mo_90_9 hB12.kb rfl ?_
                        rw [hB12.i12]
                        refine bp_iconst (v := 3) (q := 163) 73 rfl rfl (by decide) ?_
                        refine bp_iadd (q := 164) 74 rfl rfl ?_
                        rw [show nI i + 3 = nI (i + 3) from nI_add i 3]
                        refine bp_bipush (v := 62) (q := 166) 75 rfl rfl (by decide) ?_
                        refine bp_iconst (v := 1) (q := 167) 76 rfl rfl (by decide) ?_
                        refine bp_bipush (v := 99) (q := 169) 77 rfl rfl (by decide) ?_
                        refine bp_bipush (v := 12) (q := 171) 78 rfl rfl (by decide) ?_
                        refine bp_callV (q := 174) (ci := 9) 79 rfl rfl cw_Mo_partDigits lk_Mo_288 rfl hB12.kb wd1598 wd67 rfl rfl (Nat.le_of_ble_eq_true rfl) ⟨Nat.le_of_ble_eq_true rfl, Nat.le_of_ble_eq_true rfl⟩ (s_Mo_partDigits (f := i + 3) (e := 62) (lo := 1) (hi := 99) (bt := 12) hB12 hT (by omega) (by decide) (by decide) (by decide) (by decide) (fun y171 h13 hB13 => ?_) (fun y171 => ?_))
                        · refine bp_if_eq (q := 177) (tgt := 185) 80 rfl rfl (by decide) (fun z => absurd z (by decide)) (fun z174 => ?_)
                          refine bp_aload_n (q := 178) 81 rfl rfl rfl rfl ?_
                          refine bp_iconst (v := 4) (q := 179) 82 rfl rfl (by decide) ?_
                          refine bp_putI (q := 182) (ci := 9) (j := 31) 83 rfl rfl fl_Mo_267_9 cl9 hB13.kb (fun r hr => by cases hr; rfl) (by decide) rfl rfl ?_
                          refine bp_nx (X := fun h14 => MoX M h0 h14 tw i fa fm tl lk al ind sk dp lv fr en nf nn dg nu 4 (dgN T (i + 3) 1 99 12) (tnE T (i + 3) + 1) T xs L ps L1 p1 nt tb fd) (hB13.s31 rfl) (fun h14 hB14 => ?_)
                          refine bp_goto (tgt := 251) 84 rfl (by decide) ?_
                          refine bp_vret 117 rfl rfl  ⟨_, rfl, ?_⟩
                          have hiT : i < T.length := Nat.not_le.mp (fun e => absurd (nI_le e (by omega)) (by first | exact z22 | exact Int32.not_le.mpr z22))
                          exact hQ _ _ _ _ (Or.inr ⟨hiT, Or.inr (Or.inr (Or.inr (Or.inr (Or.inr (Or.inr (Or.inr (Or.inr (Or.inr (Or.inl (⟨rfl, rfl, rfl, bI1 z154, y171⟩))))))))))⟩) hB14
                        · refine bp_if_eq (q := 177) (tgt := 185) 80 rfl rfl (by decide) (fun z174 => ?_) (fun z => absurd z (by decide))
                          refine bp_aload_n (q := 186) 85 rfl rfl rfl rfl ?_
                          refine bp_ldc2 (q := 189) 86 rfl rfl wd1600 ?_
                          refine bp_callV (q := 192) (ci := 9) 87 rfl rfl cw_Mo_stands lk_Mo_264 rfl hB12.kb wd1585 wd66 rfl rfl (Nat.le_of_ble_eq_true rfl) ⟨Nat.le_of_ble_eq_true rfl, Nat.le_of_ble_eq_true rfl⟩ (s_Mo_stands (ro := false) hB12 hT lt_312 rfl (by omega) ?_)
                          refine bp_if_eq (q := 195) (tgt := 222) 88 rfl rfl (by decide) (fun z192 => ?_) (fun z192 => ?_)
                          · refine bp_aload_n (q := 223) 104 rfl rfl rfl rfl ?_
                            refine bp_callV (q := 226) (ci := 9) 105 rfl rfl cw_Mo_partHead lk_Mo_314 rfl hB12.kb wd1603 wd68 rfl rfl (Nat.le_of_ble_eq_true rfl) ⟨Nat.le_of_ble_eq_true rfl, Nat.le_of_ble_eq_true rfl⟩ (s_Mo_partHead hB12 hT (by omega) (fun y223 h13 hB13 => ?_) (fun y223 h13 n223 e223 hB13 => ?_))
                            · refine bp_if_eq (q := 229) (tgt := 238) 106 rfl rfl (by decide) (fun z => absurd z (by decide)) (fun z226 => ?_)
                              refine bp_aload_n (q := 230) 107 rfl rfl rfl rfl ?_
                              refine bp_bipush (v := 12) (q := 232) 108 rfl rfl (by decide) ?_
                              refine bp_putI (q := 235) (ci := 9) (j := 31) 109 rfl rfl fl_Mo_267_9 cl9 hB13.kb (fun r hr => by cases hr; rfl) (by decide) rfl rfl ?_
                              refine bp_nx (X := fun h14 => MoX M h0 h14 tw i fa fm tl lk al ind sk dp lv fr en nf nn dg nu 12 (nI (10 * hdX T i + hdY T i)) (hdK T i + 1) T xs L ps L1 p1 nt tb fd) (hB13.s31 rfl) (fun h14 hB14 => ?_)
                              refine bp_goto (tgt := 251) 110 rfl (by decide) ?_
                              refine bp_vret 117 rfl rfl  ⟨_, rfl, ?_⟩
                              have hiT : i < T.length := Nat.not_le.mp (fun e => absurd (nI_le e (by omega)) (by first | exact z22 | exact Int32.not_le.mpr z22))
                              exact hQ _ _ _ _ (Or.inr ⟨hiT, Or.inr (Or.inr (Or.inr (Or.inr (Or.inr (Or.inr (Or.inr (Or.inr (Or.inr (Or.inr (Or.inr (Or.inl (⟨rfl, y223, rfl, rfl⟩))))))))))))⟩) hB14
                            · refine bp_if_eq (q := 229) (tgt := 238) 106 rfl rfl (by decide) (fun z226 => ?_) (fun z => absurd z (by decide))
                              refine bp_aload_n (q := 239) 111 rfl rfl rfl rfl ?_
                              refine bp_callV (q := 242) (ci := 9) 112 rfl rfl cw_Mo_partLetter lk_Mo_317 rfl hB13.kb wd1608 wd69 rfl rfl (Nat.le_of_ble_eq_true rfl) ⟨Nat.le_of_ble_eq_true rfl, Nat.le_of_ble_eq_true rfl⟩ (s_Mo_partLetter hB13 hT (by omega) (fun h14 k239 n239 e239 y239 hB14 => ?_) (fun y239 h14 n239 e239 hB14 => ?_))
                              · refine bp_if_eq (q := 245) (tgt := 251) 113 rfl rfl (by decide) (fun z => absurd z (by decide)) (fun z242 => ?_)
                                refine bp_aload_n (q := 246) 114 rfl rfl rfl rfl ?_
                                refine bp_bipush (v := 13) (q := 248) 115 rfl rfl (by decide) ?_
                                refine bp_putI (q := 251) (ci := 9) (j := 31) 116 rfl rfl fl_Mo_267_9 cl9 hB14.kb (fun r hr => by cases hr; rfl) (by decide) rfl rfl ?_
                                refine bp_nx (X := fun h15 => MoX M h0 h15 tw i fa fm tl lk al ind sk dp lv fr en nf nn dg nu 13 n239 e239 T xs L ps L1 p1 nt tb fd) (hB14.s31 rfl) (fun h15 hB15 => ?_)
                                refine bp_vret 117 rfl rfl  ⟨_, rfl, ?_⟩
                                have hiT : i < T.length := Nat.not_le.mp (fun e => absurd (nI_le e (by omega)) (by first | exact z22 | exact Int32.not_le.mpr z22))
                                exact hQ _ _ _ _ (Or.inr ⟨hiT, Or.inr (Or.inr (Or.inr (Or.inr (Or.inr (Or.inr (Or.inr (Or.inr (Or.inr (Or.inr (Or.inr (Or.inr (Or.inl (⟨rfl, y239⟩)))))))))))))⟩) hB15
                              · refine bp_if_eq (q := 245) (tgt := 251) 113 rfl rfl (by decide) (fun z242 => ?_) (fun z => absurd z (by decide))
                                refine bp_vret 117 rfl rfl  ⟨_, rfl, ?_⟩
                                have hiT : i < T.length := Nat.not_le.mp (fun e => absurd (nI_le e (by omega)) (by first | exact z22 | exact Int32.not_le.mpr z22))
                                exact hQ _ _ _ _ (Or.inr ⟨hiT, Or.inr (Or.inr (Or.inr (Or.inr (Or.inr (Or.inr (Or.inr (Or.inr (Or.inr (Or.inr (Or.inr (Or.inr (Or.inr (⟨rfl, ⟨y46, y57, y68, y80, y92, y104, y116, y128, y140⟩, (fun z => y171 z.2), (fun z => by have e := bI0.mp z192; rw [show spl T i (i + [60, 99, 32].length) [60, 99, 32] = true from z.1] at e; cases e), y223, y239⟩)))))))))))))⟩) hB14
                          · refine bp_aload_n (q := 196) 89 rfl rfl rfl rfl ?_
                            refine bp_aload_n (q := 197) 90 rfl rfl rfl rfl ?_
                            refine bp_getI (q := 200) (ci := 9) (j := 12) 91 rfl rfl fl_Mo_90_9 hB12.kb rfl ?_
                            rw [hB12.i12]
                            refine bp_iconst (v := 3) (q := 201) 92 rfl rfl (by decide) ?_
                            refine bp_iadd (q := 202) 93 rfl rfl ?_
                            rw [show nI i + 3 = nI (i + 3) from nI_add i 3]
                            refine bp_bipush (v := 62) (q := 204) 94 rfl rfl (by decide) ?_
                            refine bp_iconst (v := 1) (q := 205) 95 rfl rfl (by decide) ?_
                            refine bp_bipush (v := 7) (q := 207) 96 rfl rfl (by decide) ?_
                            refine bp_iconst (v := 0) (q := 208) 97 rfl rfl (by decide) ?_
                            refine bp_callV (q := 211) (ci := 9) 98 rfl rfl cw_Mo_partDigits lk_Mo_288 rfl hB12.kb wd1598 wd67 rfl rfl (Nat.le_of_ble_eq_true rfl) ⟨Nat.le_of_ble_eq_true rfl, Nat.le_of_ble_eq_true rfl⟩ (s_Mo_partDigits (f := i + 3) (e := 62) (lo := 1) (hi := 7) (bt := 0) hB12 hT (by omega) (by decide) (by decide) (by decide) (by decide) (fun y208 h13 hB13 => ?_) (fun y208 => ?_))
                            · refine bp_if_eq (q := 214) (tgt := 222) 99 rfl rfl (by decide) (fun z => absurd z (by decide)) (fun z211 => ?_)
                              refine bp_aload_n (q := 215) 100 rfl rfl rfl rfl ?_
                              refine bp_iconst (v := 5) (q := 216) 101 rfl rfl (by decide) ?_
                              refine bp_putI (q := 219) (ci := 9) (j := 31) 102 rfl rfl fl_Mo_267_9 cl9 hB13.kb (fun r hr => by cases hr; rfl) (by decide) rfl rfl ?_
                              refine bp_nx (X := fun h14 => MoX M h0 h14 tw i fa fm tl lk al ind sk dp lv fr en nf nn dg nu 5 (dgN T (i + 3) 1 7 0) (tnE T (i + 3) + 1) T xs L ps L1 p1 nt tb fd) (hB13.s31 rfl) (fun h14 hB14 => ?_)
                              refine bp_goto (tgt := 251) 103 rfl (by decide) ?_
                              refine bp_vret 117 rfl rfl  ⟨_, rfl, ?_⟩
                              have hiT : i < T.length := Nat.not_le.mp (fun e => absurd (nI_le e (by omega)) (by first | exact z22 | exact Int32.not_le.mpr z22))
                              exact hQ _ _ _ _ (Or.inr ⟨hiT, Or.inr (Or.inr (Or.inr (Or.inr (Or.inr (Or.inr (Or.inr (Or.inr (Or.inr (Or.inr (Or.inl (⟨rfl, rfl, rfl, bI1 z192, y208⟩)))))))))))⟩) hB14
                            · refine bp_if_eq (q := 214) (tgt := 222) 99 rfl rfl (by decide) (fun z211 => ?_) (fun z => absurd z (by decide))
                              refine bp_aload_n (q := 223) 104 rfl rfl rfl rfl ?_
                              refine bp_callV (q := 226) (ci := 9) 105 rfl rfl cw_Mo_partHead lk_Mo_314 rfl hB12.kb wd1603 wd68 rfl rfl (Nat.le_of_ble_eq_true rfl) ⟨Nat.le_of_ble_eq_true rfl, Nat.le_of_ble_eq_true rfl⟩ (s_Mo_partHead hB12 hT (by omega) (fun y223 h13 hB13 => ?_) (fun y223 h13 n223 e223 hB13 => ?_))
                              · refine bp_if_eq (q := 229) (tgt := 238) 106 rfl rfl (by decide) (fun z => absurd z (by decide)) (fun z226 => ?_)
                                refine bp_aload_n (q := 230) 107 rfl rfl rfl rfl ?_
                                refine bp_bipush (v := 12) (q := 232) 108 rfl rfl (by decide) ?_
                                refine bp_putI (q := 235) (ci := 9) (j := 31) 109 rfl rfl fl_Mo_267_9 cl9 hB13.kb (fun r hr => by cases hr; rfl) (by decide) rfl rfl ?_
                                refine bp_nx (X := fun h14 => MoX M h0 h14 tw i fa fm tl lk al ind sk dp lv fr en nf nn dg nu 12 (nI (10 * hdX T i + hdY T i)) (hdK T i + 1) T xs L ps L1 p1 nt tb fd) (hB13.s31 rfl) (fun h14 hB14 => ?_)
                                refine bp_goto (tgt := 251) 110 rfl (by decide) ?_
                                refine bp_vret 117 rfl rfl  ⟨_, rfl, ?_⟩
                                have hiT : i < T.length := Nat.not_le.mp (fun e => absurd (nI_le e (by omega)) (by first | exact z22 | exact Int32.not_le.mpr z22))
                                exact hQ _ _ _ _ (Or.inr ⟨hiT, Or.inr (Or.inr (Or.inr (Or.inr (Or.inr (Or.inr (Or.inr (Or.inr (Or.inr (Or.inr (Or.inr (Or.inl (⟨rfl, y223, rfl, rfl⟩))))))))))))⟩) hB14
                              · refine bp_if_eq (q := 229) (tgt := 238) 106 rfl rfl (by decide) (fun z226 => ?_) (fun z => absurd z (by decide))
                                refine bp_aload_n (q := 239) 111 rfl rfl rfl rfl ?_
                                refine bp_callV (q := 242) (ci := 9) 112 rfl rfl cw_Mo_partLetter lk_Mo_317 rfl hB13.kb wd1608 wd69 rfl rfl (Nat.le_of_ble_eq_true rfl) ⟨Nat.le_of_ble_eq_true rfl, Nat.le_of_ble_eq_true rfl⟩ (s_Mo_partLetter hB13 hT (by omega) (fun h14 k239 n239 e239 y239 hB14 => ?_) (fun y239 h14 n239 e239 hB14 => ?_))
                                · refine bp_if_eq (q := 245) (tgt := 251) 113 rfl rfl (by decide) (fun z => absurd z (by decide)) (fun z242 => ?_)
                                  refine bp_aload_n (q := 246) 114 rfl rfl rfl rfl ?_
                                  refine bp_bipush (v := 13) (q := 248) 115 rfl rfl (by decide) ?_
                                  refine bp_putI (q := 251) (ci := 9) (j := 31) 116 rfl rfl fl_Mo_267_9 cl9 hB14.kb (fun r hr => by cases hr; rfl) (by decide) rfl rfl ?_
                                  refine bp_nx (X := fun h15 => MoX M h0 h15 tw i fa fm tl lk al ind sk dp lv fr en nf nn dg nu 13 n239 e239 T xs L ps L1 p1 nt tb fd) (hB14.s31 rfl) (fun h15 hB15 => ?_)
                                  refine bp_vret 117 rfl rfl  ⟨_, rfl, ?_⟩
                                  have hiT : i < T.length := Nat.not_le.mp (fun e => absurd (nI_le e (by omega)) (by first | exact z22 | exact Int32.not_le.mpr z22))
                                  exact hQ _ _ _ _ (Or.inr ⟨hiT, Or.inr (Or.inr (Or.inr (Or.inr (Or.inr (Or.inr (Or.inr (Or.inr (Or.inr (Or.inr (Or.inr (Or.inr (Or.inl (⟨rfl, y239⟩)))))))))))))⟩) hB15
                                · refine bp_if_eq (q := 245) (tgt := 251) 113 rfl rfl (by decide) (fun z242 => ?_) (fun z => absurd z (by decide))
                                  refine bp_vret 117 rfl rfl  ⟨_, rfl, ?_⟩
                                  have hiT : i < T.length := Nat.not_le.mp (fun e => absurd (nI_le e (by omega)) (by first | exact z22 | exact Int32.not_le.mpr z22))
                                  exact hQ _ _ _ _ (Or.inr ⟨hiT, Or.inr (Or.inr (Or.inr (Or.inr (Or.inr (Or.inr (Or.inr (Or.inr (Or.inr (Or.inr (Or.inr (Or.inr (Or.inr (⟨rfl, ⟨y46, y57, y68, y80, y92, y104, y116, y128, y140⟩, (fun z => y171 z.2), (fun z => y208 z.2), y223, y239⟩)))))))))))))⟩) hB14
  · refine bp_iconst (v := 0) (q := 26) 13 rfl rfl (by decide) ?_
    refine bp_goto (tgt := 31) 14 rfl (by decide) ?_
    refine bp_putI (q := 34) (ci := 9) (j := 31) 16 rfl rfl fl_Mo_267_9 cl9 hB2.kb (fun r hr => by cases hr; rfl) (by decide) rfl rfl ?_
    refine bp_nx (X := fun h3 => MoX M h0 h3 tw i fa fm tl lk al ind sk dp lv fr en nf nn dg nu 0 0 i T xs L ps L1 p1 nt tb fd) (hB2.s31 rfl) (fun h3 hB3 => ?_)
    refine bp_aload_n (q := 35) 17 rfl rfl rfl rfl ?_
    refine bp_getI (q := 38) (ci := 9) (j := 31) 18 rfl rfl fl_Mo_267_9 hB3.kb rfl ?_
    rw [hB3.i31]
    refine bp_if_eq (q := 41) (tgt := 146) 19 rfl rfl (by decide) (fun z38 => ?_) (fun z => absurd z (by decide))
    refine bp_vret 65 rfl rfl  ⟨_, rfl, ?_⟩
    exact hQ _ _ _ _ (Or.inl ⟨rfl, Nat.not_lt.mp (fun e => absurd ((nI_lt_iff (by omega) (by omega)).mpr e) (by first | exact z22 | exact Int32.not_lt.mpr z22))⟩) hB3
set_option maxRecDepth 100000 in
set_option maxHeartbeats 4000000 in
theorem s_Mo_accept0  (hB0 : MoX M h0 h tw i 0 fm tl lk al ind sk dp lv fr en nf nn dg nu kd pn pe T xs L ps L1 p1 nt tb fd) (hn : ¬ pn < 0) (hQ : ∀ h', MoX M h0 h' tw pe 0 fm tl lk al ind sk dp lv fr en nf nn dg nu kd pn pe T xs L ps L1 p1 nt tb fd → Q (some (.int pn)) h' c s) : bp_AM l G H0 (2, 45, false, false) M_Mo_accept h c s [.ref (M 0)] Q := by
  refine bp_of (ls := [some (.ref (M 0)), none]) (by decide) dt_Mo_accept (Nat.le_of_ble_eq_true rfl) (fun q hq => hq) false ?_
  refine bp_aload_n (q := 1) 0 rfl rfl rfl rfl ?_
  refine bp_aload_n (q := 2) 1 rfl rfl rfl rfl ?_
  refine bp_getI (q := 5) (ci := 9) (j := 32) 2 rfl rfl fl_Mo_273_9 hB0.kb rfl ?_
  rw [hB0.i32]
  refine bp_if_ge (q := 8) (tgt := 12) 3 rfl rfl (by decide) (fun z5 => ?_) (fun z5 => ?_)
  · refine bp_iconst (v := 0) (q := 13) 6 rfl rfl (by decide) ?_
    refine bp_bipush (v := -5) (q := 15) 7 rfl rfl (by decide) ?_
    refine bp_aload_n (q := 16) 8 rfl rfl rfl rfl ?_
    refine bp_getI (q := 19) (ci := 9) (j := 12) 9 rfl rfl fl_Mo_90_9 hB0.kb rfl ?_
    rw [hB0.i12]
    refine bp_callV (q := 22) (ci := 9) 10 rfl rfl cw_Mo_failIf lk_Mo_118 rfl hB0.kb wd1449 wd44 rfl rfl (Nat.le_of_ble_eq_true rfl) ⟨Nat.le_of_ble_eq_true rfl, Nat.le_of_ble_eq_true rfl⟩ (s_Mo_failIfN hB0 rfl ?_)
    refine bp_aload_n (q := 23) 11 rfl rfl rfl rfl ?_
    refine bp_getI (q := 26) (ci := 9) (j := 32) 12 rfl rfl fl_Mo_273_9 hB0.kb rfl ?_
    rw [hB0.i32]
    refine bp_istore_n (q := 27) 13 rfl rfl rfl (by decide) (bp_up1 rfl) ?_
    refine bp_aload_n (q := 28) 14 rfl rfl rfl rfl ?_
    refine bp_aload_n (q := 29) 15 rfl rfl rfl rfl ?_
    refine bp_getI (q := 32) (ci := 9) (j := 13) 16 rfl rfl fl_Mo_69_9 hB0.kb rfl ?_
    rw [hB0.i13]
    refine bp_if_ne (q := 35) (tgt := 42) 17 rfl rfl (by decide) (fun z => absurd z (by decide)) (fun z32 => ?_)
    refine bp_aload_n (q := 36) 18 rfl rfl rfl rfl ?_
    refine bp_getI (q := 39) (ci := 9) (j := 33) 19 rfl rfl fl_Mo_270_9 hB0.kb rfl ?_
    rw [hB0.i33]
    refine bp_goto (tgt := 46) 20 rfl (by decide) ?_
    refine bp_putI (q := 49) (ci := 9) (j := 12) 23 rfl rfl fl_Mo_90_9 cl9 hB0.kb (fun r hr => by cases hr; rfl) (by decide) rfl rfl ?_
    refine bp_nx (X := fun h1 => MoX M h0 h1 tw pe 0 fm tl lk al ind sk dp lv fr en nf nn dg nu kd pn pe T xs L ps L1 p1 nt tb fd) (hB0.s12 rfl) (fun h1 hB1 => ?_)
    refine bp_iload_n (q := 50) 24 rfl rfl rfl rfl ?_
    exact bp_iret 25 rfl rfl rfl ⟨_, rfl, hQ _ hB1⟩
  · exact absurd (Int32.not_lt.mp hn) z5
set_option maxRecDepth 100000 in
set_option maxHeartbeats 4000000 in
theorem s_Mo_acceptF  (hB0 : MoX M h0 h tw i 0 fm tl lk al ind sk dp lv fr en nf nn dg nu kd pn pe T xs L ps L1 p1 nt tb fd) (hn : pn < 0) (hQ : ∀ h', MoX M h0 h' tw i (-5) (nI i) tl lk al ind sk dp lv fr en nf nn dg nu kd pn pe T xs L ps L1 p1 nt tb fd → Q (some (.int pn)) h' c s) : bp_AM l G H0 (2, 45, false, false) M_Mo_accept h c s [.ref (M 0)] Q := by
  refine bp_of (ls := [some (.ref (M 0)), none]) (by decide) dt_Mo_accept (Nat.le_of_ble_eq_true rfl) (fun q hq => hq) false ?_
  refine bp_aload_n (q := 1) 0 rfl rfl rfl rfl ?_
  refine bp_aload_n (q := 2) 1 rfl rfl rfl rfl ?_
  refine bp_getI (q := 5) (ci := 9) (j := 32) 2 rfl rfl fl_Mo_273_9 hB0.kb rfl ?_
  rw [hB0.i32]
  refine bp_if_ge (q := 8) (tgt := 12) 3 rfl rfl (by decide) (fun z5 => ?_) (fun z5 => ?_)
  · exact absurd z5 (Int32.not_le.mpr hn)
  · refine bp_iconst (v := 1) (q := 9) 4 rfl rfl (by decide) ?_
    refine bp_goto (tgt := 13) 5 rfl (by decide) ?_
    refine bp_bipush (v := -5) (q := 15) 7 rfl rfl (by decide) ?_
    refine bp_aload_n (q := 16) 8 rfl rfl rfl rfl ?_
    refine bp_getI (q := 19) (ci := 9) (j := 12) 9 rfl rfl fl_Mo_90_9 hB0.kb rfl ?_
    rw [hB0.i12]
    refine bp_callV (q := 22) (ci := 9) 10 rfl rfl cw_Mo_failIf lk_Mo_118 rfl hB0.kb wd1449 wd44 rfl rfl (Nat.le_of_ble_eq_true rfl) ⟨Nat.le_of_ble_eq_true rfl, Nat.le_of_ble_eq_true rfl⟩ (s_Mo_failIf0 hB0 (by decide) rfl (fun h1 hB1 => ?_))
    refine bp_aload_n (q := 23) 11 rfl rfl rfl rfl ?_
    refine bp_getI (q := 26) (ci := 9) (j := 32) 12 rfl rfl fl_Mo_273_9 hB1.kb rfl ?_
    rw [hB1.i32]
    refine bp_istore_n (q := 27) 13 rfl rfl rfl (by decide) (bp_up1 rfl) ?_
    refine bp_aload_n (q := 28) 14 rfl rfl rfl rfl ?_
    refine bp_aload_n (q := 29) 15 rfl rfl rfl rfl ?_
    refine bp_getI (q := 32) (ci := 9) (j := 13) 16 rfl rfl fl_Mo_69_9 hB1.kb rfl ?_
    rw [hB1.i13]
    refine bp_if_ne (q := 35) (tgt := 42) 17 rfl rfl (by decide) (fun z32 => ?_) (fun z => absurd z (by decide))
    refine bp_aload_n (q := 43) 21 rfl rfl rfl rfl ?_
    refine bp_getI (q := 46) (ci := 9) (j := 12) 22 rfl rfl fl_Mo_90_9 hB1.kb rfl ?_
    rw [hB1.i12]
    refine bp_putI (q := 49) (ci := 9) (j := 12) 23 rfl rfl fl_Mo_90_9 cl9 hB1.kb (fun r hr => by cases hr; rfl) (by decide) rfl rfl ?_
    refine bp_nx (X := fun h2 => MoX M h0 h2 tw i (-5) (nI i) tl lk al ind sk dp lv fr en nf nn dg nu kd pn pe T xs L ps L1 p1 nt tb fd) (hB1.s12 rfl) (fun h2 hB2 => ?_)
    refine bp_iload_n (q := 50) 24 rfl rfl rfl rfl ?_
    exact bp_iret 25 rfl rfl rfl ⟨_, rfl, hQ _ hB2⟩
set_option maxRecDepth 100000 in
set_option maxHeartbeats 4000000 in
theorem s_Mo_accept1  (hB0 : MoX M h0 h tw i fa fm tl lk al ind sk dp lv fr en nf nn dg nu kd pn pe T xs L ps L1 p1 nt tb fd) (hf : ¬ fa = 0) (hQ : ∀ h', MoX M h0 h' tw i fa fm tl lk al ind sk dp lv fr en nf nn dg nu kd pn pe T xs L ps L1 p1 nt tb fd → Q (some (.int pn)) h' c s) : bp_AM l G H0 (2, 45, false, false) M_Mo_accept h c s [.ref (M 0)] Q := by
  refine bp_of (ls := [some (.ref (M 0)), none]) (by decide) dt_Mo_accept (Nat.le_of_ble_eq_true rfl) (fun q hq => hq) false ?_
  refine bp_aload_n (q := 1) 0 rfl rfl rfl rfl ?_
  refine bp_aload_n (q := 2) 1 rfl rfl rfl rfl ?_
  refine bp_getI (q := 5) (ci := 9) (j := 32) 2 rfl rfl fl_Mo_273_9 hB0.kb rfl ?_
  rw [hB0.i32]
  refine bp_if_ge (q := 8) (tgt := 12) 3 rfl rfl (by decide) (fun z5 => ?_) (fun z5 => ?_)
  · refine bp_iconst (v := 0) (q := 13) 6 rfl rfl (by decide) ?_
    refine bp_bipush (v := -5) (q := 15) 7 rfl rfl (by decide) ?_
    refine bp_aload_n (q := 16) 8 rfl rfl rfl rfl ?_
    refine bp_getI (q := 19) (ci := 9) (j := 12) 9 rfl rfl fl_Mo_90_9 hB0.kb rfl ?_
    rw [hB0.i12]
    refine bp_callV (q := 22) (ci := 9) 10 rfl rfl cw_Mo_failIf lk_Mo_118 rfl hB0.kb wd1449 wd44 rfl rfl (Nat.le_of_ble_eq_true rfl) ⟨Nat.le_of_ble_eq_true rfl, Nat.le_of_ble_eq_true rfl⟩ (s_Mo_failIf1 hB0 hf ?_)
    refine bp_aload_n (q := 23) 11 rfl rfl rfl rfl ?_
    refine bp_getI (q := 26) (ci := 9) (j := 32) 12 rfl rfl fl_Mo_273_9 hB0.kb rfl ?_
    rw [hB0.i32]
    refine bp_istore_n (q := 27) 13 rfl rfl rfl (by decide) (bp_up1 rfl) ?_
    refine bp_aload_n (q := 28) 14 rfl rfl rfl rfl ?_
    refine bp_aload_n (q := 29) 15 rfl rfl rfl rfl ?_
    refine bp_getI (q := 32) (ci := 9) (j := 13) 16 rfl rfl fl_Mo_69_9 hB0.kb rfl ?_
    rw [hB0.i13]
    refine bp_if_ne (q := 35) (tgt := 42) 17 rfl rfl (by decide) (fun z32 => ?_) (fun z32 => ?_)
    · refine bp_aload_n (q := 43) 21 rfl rfl rfl rfl ?_
      refine bp_getI (q := 46) (ci := 9) (j := 12) 22 rfl rfl fl_Mo_90_9 hB0.kb rfl ?_
      rw [hB0.i12]
      refine bp_putI (q := 49) (ci := 9) (j := 12) 23 rfl rfl fl_Mo_90_9 cl9 hB0.kb (fun r hr => by cases hr; rfl) (by decide) rfl rfl ?_
      refine bp_nx (X := fun h1 => MoX M h0 h1 tw i fa fm tl lk al ind sk dp lv fr en nf nn dg nu kd pn pe T xs L ps L1 p1 nt tb fd) (hB0.s12 rfl) (fun h1 hB1 => ?_)
      refine bp_iload_n (q := 50) 24 rfl rfl rfl rfl ?_
      exact bp_iret 25 rfl rfl rfl ⟨_, rfl, hQ _ hB1⟩
    · exact absurd z32 hf
  · refine bp_iconst (v := 1) (q := 9) 4 rfl rfl (by decide) ?_
    refine bp_goto (tgt := 13) 5 rfl (by decide) ?_
    refine bp_bipush (v := -5) (q := 15) 7 rfl rfl (by decide) ?_
    refine bp_aload_n (q := 16) 8 rfl rfl rfl rfl ?_
    refine bp_getI (q := 19) (ci := 9) (j := 12) 9 rfl rfl fl_Mo_90_9 hB0.kb rfl ?_
    rw [hB0.i12]
    refine bp_callV (q := 22) (ci := 9) 10 rfl rfl cw_Mo_failIf lk_Mo_118 rfl hB0.kb wd1449 wd44 rfl rfl (Nat.le_of_ble_eq_true rfl) ⟨Nat.le_of_ble_eq_true rfl, Nat.le_of_ble_eq_true rfl⟩ (s_Mo_failIf1 hB0 hf ?_)
    refine bp_aload_n (q := 23) 11 rfl rfl rfl rfl ?_
    refine bp_getI (q := 26) (ci := 9) (j := 32) 12 rfl rfl fl_Mo_273_9 hB0.kb rfl ?_
    rw [hB0.i32]
    refine bp_istore_n (q := 27) 13 rfl rfl rfl (by decide) (bp_up1 rfl) ?_
    refine bp_aload_n (q := 28) 14 rfl rfl rfl rfl ?_
    refine bp_aload_n (q := 29) 15 rfl rfl rfl rfl ?_
    refine bp_getI (q := 32) (ci := 9) (j := 13) 16 rfl rfl fl_Mo_69_9 hB0.kb rfl ?_
    rw [hB0.i13]
    refine bp_if_ne (q := 35) (tgt := 42) 17 rfl rfl (by decide) (fun z32 => ?_) (fun z32 => ?_)
    · refine bp_aload_n (q := 43) 21 rfl rfl rfl rfl ?_
      refine bp_getI (q := 46) (ci := 9) (j := 12) 22 rfl rfl fl_Mo_90_9 hB0.kb rfl ?_
      rw [hB0.i12]
      refine bp_putI (q := 49) (ci := 9) (j := 12) 23 rfl rfl fl_Mo_90_9 cl9 hB0.kb (fun r hr => by cases hr; rfl) (by decide) rfl rfl ?_
      refine bp_nx (X := fun h1 => MoX M h0 h1 tw i fa fm tl lk al ind sk dp lv fr en nf nn dg nu kd pn pe T xs L ps L1 p1 nt tb fd) (hB0.s12 rfl) (fun h1 hB1 => ?_)
      refine bp_iload_n (q := 50) 24 rfl rfl rfl rfl ?_
      exact bp_iret 25 rfl rfl rfl ⟨_, rfl, hQ _ hB1⟩
    · exact absurd z32 hf
end MO27
