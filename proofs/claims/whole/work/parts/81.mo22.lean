/-! the reference obeys a word: all words -/
section MO22
variable {l : Launch} {G : bp_G} {H0 : Heap} {M : Nat → Nat} {h0 h : bp_H} {tw : Int32} {i : Nat} {fa : Int32} {fm : Int32} {tl : Int32} {lk : Nat} {al : Nat} {ind : Nat} {sk : Nat} {dp : Nat} {lv : Nat} {fr : Bool} {en : Nat} {nf : Nat} {nn : Nat} {dg : Nat} {nu : Int32} {kd : Nat} {pn : Int32} {pe : Nat} {T : List Nat} {xs : List Nat} {L : List (Nat × Nat)} {ps : List (Nat × Nat × Nat)} {L1 : List (Nat × Nat)} {p1 : List (Nat × Nat × Nat)} {nt : List (Nat → Nat)} {tb : List Nat} {fd : List Nat} {c s : Nat} {Q : Option Value → bp_H → Nat → Nat → Prop} {v : Nat → Nat} {j th : Nat} {n : Int32} {b : Bool} {nm : List Nat}
set_option maxRecDepth 100000 in
set_option maxHeartbeats 4000000 in
theorem s_Mo_obey  (hB0 : MoX M h0 h tw i 0 fm tl (mlV v) (v 3) (v 4) (v 5) nt.length 0 false tb.length nf nn dg nu kd pn pe T xs L ps L1 p1 nt tb fd) (hV : okV v) (hn : wi n (-99999) 99999 = true) (hnu : dg ≤ 5 → nu = n) (htb : tb ≠ []) (htl : tb.length ≤ 8) (hL4 : L1.length < 400) (hends : ∀ q ∈ p1, q.2.2 ≤ L1.length) (hji : j < i) (hT : okT T) (hnt : ¬ nt = []) (hp16 : p1.length ≤ 16) (hdg : dg < 1000000) (hu : nf < 100000) (hv : nn < 100000) (huv : nf ≤ nn) (hoN : okN T j (bObey th b (wdf T nf nn 15 1) n dg (i, 0, -1, 0, false, false, false, v, nt, tb, nm, L1, p1))) (hQ : ∀ h', OUTB M h0 h' tw tl kd pn pe T xs L ps (bObey th b (wdf T nf nn 15 1) n dg (i, 0, -1, 0, false, false, false, v, nt, tb, nm, L1, p1)) j → Q none h' c s) : bp_AM l G H0 (4, 92, false, false) M_Mo_obey h c s [.ref (M 0), .int (nI th), .int (bI b)] Q := by
  refine bp_of (ls := [some (.ref (M 0)), some (.int (nI th)), some (.int (bI b)), none]) (by decide) dt_Mo_obey (Nat.le_of_ble_eq_true rfl) (fun q hq => hq) false ?_
  have hl8 := mlV_lt hV
  have htp : 0 < tb.length := List.length_pos_iff.mpr htb
  refine bp_aload_n (q := 1) 0 rfl rfl rfl rfl ?_
  refine bp_ldc2 (q := 4) 1 rfl rfl wd1489 ?_
  refine bp_callV (q := 7) (ci := 9) 2 rfl rfl cw_Mo_word lk_Mo_197 rfl hB0.kb wd1492 wd53 rfl rfl (Nat.le_of_ble_eq_true rfl) ⟨Nat.le_of_ble_eq_true rfl, Nat.le_of_ble_eq_true rfl⟩ (s_Mo_word (ro := false) (k := 1) hB0 hT lt_195 (by decide) hu hv huv ?_)
  refine bp_if_eq (q := 10) (tgt := 14) 3 rfl rfl (by decide) (fun z7 => ?_) (fun z7 => ?_)
  · refine bp_aload_n (q := 15) 6 rfl rfl rfl rfl ?_
    refine bp_ldc2 (q := 18) 7 rfl rfl wd1501 ?_
    refine bp_callV (q := 21) (ci := 9) 8 rfl rfl cw_Mo_word lk_Mo_197 rfl hB0.kb wd1492 wd53 rfl rfl (Nat.le_of_ble_eq_true rfl) ⟨Nat.le_of_ble_eq_true rfl, Nat.le_of_ble_eq_true rfl⟩ (s_Mo_word (ro := false) (k := 2) hB0 hT lt_201 (by decide) hu hv huv ?_)
    refine bp_if_eq (q := 24) (tgt := 28) 9 rfl rfl (by decide) (fun z21 => ?_) (fun z21 => ?_)
    · refine bp_aload_n (q := 29) 12 rfl rfl rfl rfl ?_
      refine bp_ldc2 (q := 32) 13 rfl rfl wd1502 ?_
      refine bp_callV (q := 35) (ci := 9) 14 rfl rfl cw_Mo_word lk_Mo_197 rfl hB0.kb wd1492 wd53 rfl rfl (Nat.le_of_ble_eq_true rfl) ⟨Nat.le_of_ble_eq_true rfl, Nat.le_of_ble_eq_true rfl⟩ (s_Mo_word (ro := false) (k := 3) hB0 hT lt_203 (by decide) hu hv huv ?_)
      refine bp_if_eq (q := 38) (tgt := 42) 15 rfl rfl (by decide) (fun z35 => ?_) (fun z35 => ?_)
      · refine bp_iconst (v := 0) (q := 43) 18 rfl rfl (by decide) ?_
        refine bp_istore_n (q := 44) 19 rfl rfl rfl (by decide) (bp_up3 rfl) ?_
        refine bp_iload_n (q := 45) 20 rfl rfl rfl rfl ?_
        refine bp_if_le (q := 48) (tgt := 81) 21 rfl rfl (by decide) (fun z45 => ?_) (fun z => absurd z (by decide))
        refine bp_aload_n (q := 82) 39 rfl rfl rfl rfl ?_
        refine bp_ldc2 (q := 85) 40 rfl rfl wd1512 ?_
        refine bp_callV (q := 88) (ci := 9) 41 rfl rfl cw_Mo_word lk_Mo_197 rfl hB0.kb wd1492 wd53 rfl rfl (Nat.le_of_ble_eq_true rfl) ⟨Nat.le_of_ble_eq_true rfl, Nat.le_of_ble_eq_true rfl⟩ (s_Mo_word (ro := false) (k := 4) hB0 hT lt_215 (by decide) hu hv huv ?_)
        refine bp_if_eq (q := 91) (tgt := 132) 42 rfl rfl (by decide) (fun z88 => ?_) (fun z88 => ?_)
        · refine bp_aload_n (q := 133) 66 rfl rfl rfl rfl ?_
          refine bp_ldc2 (q := 136) 67 rfl rfl wd1513 ?_
          refine bp_callV (q := 139) (ci := 9) 68 rfl rfl cw_Mo_word lk_Mo_197 rfl hB0.kb wd1492 wd53 rfl rfl (Nat.le_of_ble_eq_true rfl) ⟨Nat.le_of_ble_eq_true rfl, Nat.le_of_ble_eq_true rfl⟩ (s_Mo_word (ro := false) (k := 5) hB0 hT lt_217 (by decide) hu hv huv ?_)
          refine bp_if_eq (q := 142) (tgt := 180) 69 rfl rfl (by decide) (fun z139 => ?_) (fun z139 => ?_)
          · refine bp_aload_n (q := 181) 92 rfl rfl rfl rfl ?_
            refine bp_ldc2 (q := 184) 93 rfl rfl wd1514 ?_
            refine bp_callV (q := 187) (ci := 9) 94 rfl rfl cw_Mo_word lk_Mo_197 rfl hB0.kb wd1492 wd53 rfl rfl (Nat.le_of_ble_eq_true rfl) ⟨Nat.le_of_ble_eq_true rfl, Nat.le_of_ble_eq_true rfl⟩ (s_Mo_word (ro := false) (k := 10) hB0 hT lt_219 (by decide) hu hv huv ?_)
            refine bp_if_eq (q := 190) (tgt := 206) 95 rfl rfl (by decide) (fun z187 => ?_) (fun z187 => ?_)
            · refine bp_aload_n (q := 207) 105 rfl rfl rfl rfl ?_
              refine bp_ldc2 (q := 210) 106 rfl rfl wd1515 ?_
              refine bp_callV (q := 213) (ci := 9) 107 rfl rfl cw_Mo_word lk_Mo_197 rfl hB0.kb wd1492 wd53 rfl rfl (Nat.le_of_ble_eq_true rfl) ⟨Nat.le_of_ble_eq_true rfl, Nat.le_of_ble_eq_true rfl⟩ (s_Mo_word (ro := false) (k := 13) hB0 hT lt_221 (by decide) hu hv huv ?_)
              refine bp_if_eq (q := 216) (tgt := 232) 108 rfl rfl (by decide) (fun z213 => ?_) (fun z213 => ?_)
              · refine bp_aload_n (q := 233) 118 rfl rfl rfl rfl ?_
                refine bp_ldc2 (q := 236) 119 rfl rfl wd1516 ?_
                refine bp_callV (q := 239) (ci := 9) 120 rfl rfl cw_Mo_word lk_Mo_197 rfl hB0.kb wd1492 wd53 rfl rfl (Nat.le_of_ble_eq_true rfl) ⟨Nat.le_of_ble_eq_true rfl, Nat.le_of_ble_eq_true rfl⟩ (s_Mo_word (ro := false) (k := 14) hB0 hT lt_223 (by decide) hu hv huv ?_)
                refine bp_if_eq (q := 242) (tgt := 268) 121 rfl rfl (by decide) (fun z239 => ?_) (fun z239 => ?_)
                · refine bp_aload_n (q := 269) 135 rfl rfl rfl rfl ?_
                  refine bp_ldc2 (q := 272) 136 rfl rfl wd1525 ?_
                  refine bp_callV (q := 275) (ci := 9) 137 rfl rfl cw_Mo_word lk_Mo_197 rfl hB0.kb wd1492 wd53 rfl rfl (Nat.le_of_ble_eq_true rfl) ⟨Nat.le_of_ble_eq_true rfl, Nat.le_of_ble_eq_true rfl⟩ (s_Mo_word (ro := false) (k := 15) hB0 hT lt_225 (by decide) hu hv huv ?_)
                  refine bp_if_eq (q := 278) (tgt := 289) 138 rfl rfl (by decide) (fun z275 => ?_) (fun z275 => ?_)
                  · refine bp_aload_n (q := 290) 144 rfl rfl rfl rfl ?_
                    refine bp_iload_n (q := 291) 145 rfl rfl rfl rfl ?_
                    have hw1 : ¬ wdf T nf nn 15 1 = 1 := of_decide_eq_false (bI0.mp (by first | exact z7 | exact Classical.not_not.mp z7))
                    have hw2 : ¬ wdf T nf nn 15 1 = 2 := of_decide_eq_false (bI0.mp (by first | exact z21 | exact Classical.not_not.mp z21))
                    have hw3 : ¬ wdf T nf nn 15 1 = 3 := of_decide_eq_false (bI0.mp (by first | exact z35 | exact Classical.not_not.mp z35))
                    have hw4 : ¬ wdf T nf nn 15 1 = 4 := of_decide_eq_false (bI0.mp (by first | exact z88 | exact Classical.not_not.mp z88))
                    have hw5 : ¬ wdf T nf nn 15 1 = 5 := of_decide_eq_false (bI0.mp (by first | exact z139 | exact Classical.not_not.mp z139))
                    have hw10 : ¬ wdf T nf nn 15 1 = 10 := of_decide_eq_false (bI0.mp (by first | exact z187 | exact Classical.not_not.mp z187))
                    have hw13 : ¬ wdf T nf nn 15 1 = 13 := of_decide_eq_false (bI0.mp (by first | exact z213 | exact Classical.not_not.mp z213))
                    have hw14 : ¬ wdf T nf nn 15 1 = 14 := of_decide_eq_false (bI0.mp (by first | exact z239 | exact Classical.not_not.mp z239))
                    have hw15 : ¬ wdf T nf nn 15 1 = 15 := of_decide_eq_false (bI0.mp (by first | exact z275 | exact Classical.not_not.mp z275))
                    refine bp_callV (q := 294) (ci := 9) 146 rfl rfl cw_Mo_obeyPlace lk_Mo_230 rfl hB0.kb wd1543 wd59 rfl rfl (Nat.le_of_ble_eq_true rfl) ⟨Nat.le_of_ble_eq_true rfl, Nat.le_of_ble_eq_true rfl⟩ (s_Mo_obeyPlace hB0 hw1 hw2 hw3 hw4 hw5 hw10 hw13 hw14 hw15 hT hnt hp16 hdg hu hv huv hoN (fun h' ho => ?_))
                    refine bp_vret 147 rfl rfl  ⟨_, rfl, ?_⟩
                    exact hQ _ ho
                  · refine bp_iload_n (q := 279) 139 rfl rfl rfl rfl ?_
                    refine bp_if_eq (q := 282) (tgt := 294) 140 rfl rfl (by decide) (fun z279 => ?_) (fun z279 => ?_)
                    · refine bp_vret 147 rfl rfl  ⟨_, rfl, ?_⟩
                      have hW : wdf T nf nn 15 1 = 15 := of_decide_eq_true (bI1 z275)
                      have yb : b = false := bI0.mp z279
                      subst yb
                      exact hQ _ (OUTB.ok (v := v) (nm := nm) hB0 (by rw [hW, decide_eq_false hnt]; exact bO_15f) hoN)
                    · refine bp_aload_n (q := 283) 141 rfl rfl rfl rfl ?_
                      have hW : wdf T nf nn 15 1 = 15 := of_decide_eq_true (bI1 z275)
                      have yb : b = true := bI1 z279
                      subst yb
                      have okt : okX T i 0 true v nt [] [] L1 p1 := by have q := hoN.1; rw [hW, bO_15t] at q; exact q
                      refine bp_callV (q := 286) (ci := 9) 142 rfl rfl cw_Mo_readTable lk_Mo_227 rfl hB0.kb wd1528 wd58 rfl rfl (Nat.le_of_ble_eq_true rfl) ⟨Nat.le_of_ble_eq_true rfl, Nat.le_of_ble_eq_true rfl⟩ (s_Mo_readTable hB0 hT rfl hnt okt hji (fun h' ho => ?_))
                      refine bp_goto (tgt := 294) 143 rfl (by decide) ?_
                      refine bp_vret 147 rfl rfl  ⟨_, rfl, ?_⟩
                      exact hQ _ (ho.tr (by rw [hW, bO_15t]))
                · refine bp_aload_n (q := 243) 122 rfl rfl rfl rfl ?_
                  refine bp_aload_n (q := 244) 123 rfl rfl rfl rfl ?_
                  refine bp_iload_n (q := 245) 124 rfl rfl rfl rfl ?_
                  refine bp_iconst (v := 0) (q := 246) 125 rfl rfl (by decide) ?_
                  refine bp_bipush (v := 32) (q := 248) 126 rfl rfl (by decide) ?_
                  refine bp_sipush (v := 255) (q := 251) 127 rfl rfl (by decide) ?_
                  refine bp_callV (q := 254) (ci := 9) 128 rfl rfl cw_Mo_bounded lk_Mo_207 rfl hB0.kb wd1507 wd55 rfl rfl (Nat.le_of_ble_eq_true rfl) ⟨Nat.le_of_ble_eq_true rfl, Nat.le_of_ble_eq_true rfl⟩ (s_Mo_bounded hB0 hdg (fun zb h1 hB1 => ?_) (fun zb1 zb2 zb3 => ?_))
                  · have hW : wdf T nf nn 15 1 = 14 := of_decide_eq_true (bI1 z239)
                    have hno := nf_no (tb := tb) (by decide) (by decide) nf_14 hnu zb
                    refine bp_callV (q := 257) (ci := 9) 129 rfl rfl cw_Mo_braceLetter lk_Mo_154 rfl hB1.kb wd1519 wd56 rfl rfl (Nat.le_of_ble_eq_true rfl) ⟨Nat.le_of_ble_eq_true rfl, Nat.le_of_ble_eq_true rfl⟩ (s_Mo_braceLetter (u := 32) (y := lkV v) hB1 (mlV_cm hV) hL4 hends (fun h2 hB2 => ?_))
                    refine bp_aload_n (q := 258) 130 rfl rfl rfl rfl ?_
                    refine bp_aload_n (q := 259) 131 rfl rfl rfl rfl ?_
                    refine bp_getI (q := 262) (ci := 9) (j := 19) 132 rfl rfl fl_Mo_105_9 hB2.kb rfl ?_
                    rw [hB2.i19]
                    refine bp_putI (q := 265) (ci := 9) (j := 22) 133 rfl rfl fl_Mo_108_9 cl9 hB2.kb (fun r hr => by cases hr; rfl) (by decide) rfl rfl ?_
                    refine bp_nx (X := fun h3 => MoX M h0 h3 tw i (-5) (nI th) tl (mlV v) (v 3) (v 4) (v 5) nt.length (v 5) false tb.length nf nn dg nu kd pn pe T xs L ps ((L1 ++ [(32, lkV v)])) p1 nt tb fd) (hB2.s22 rfl) (fun h3 hB3 => ?_)
                    refine bp_goto (tgt := 294) 134 rfl (by decide) ?_
                    refine bp_vret 147 rfl rfl  ⟨_, rfl, ?_⟩
                    exact hQ _ (OUTB.bad hB3 (by rw [hW, bO_f hno]) (by rw [hW, bO_f hno]) (by decide))
                  · have hW : wdf T nf nn 15 1 = 14 := of_decide_eq_true (bI1 z239)
                    have hye := nf_yes (tb := tb) nf_14 hnu zb1 zb2 zb3
                    obtain ⟨a, ha1, ha2, ha3, ha4⟩ := wi_cl (n := bdN dg nu 0) (x := 32) (y := 255) (by decide) (by decide) (wi_i.mpr ⟨zb2, zb3⟩)
                    have hnO : nuO dg n 0 = nI a := by rw [← ha3, hnu zb1]; rfl
                    rw [ha3]
                    refine bp_callV (q := 257) (ci := 9) 129 rfl rfl cw_Mo_braceLetter lk_Mo_154 rfl hB0.kb wd1519 wd56 rfl rfl (Nat.le_of_ble_eq_true rfl) ⟨Nat.le_of_ble_eq_true rfl, Nat.le_of_ble_eq_true rfl⟩ (s_Mo_braceLetter (u := a) (y := lkV v) hB0 (mlV_cm hV) hL4 hends (fun h1 hB1 => ?_))
                    refine bp_aload_n (q := 258) 130 rfl rfl rfl rfl ?_
                    refine bp_aload_n (q := 259) 131 rfl rfl rfl rfl ?_
                    refine bp_getI (q := 262) (ci := 9) (j := 19) 132 rfl rfl fl_Mo_105_9 hB1.kb rfl ?_
                    rw [hB1.i19]
                    refine bp_putI (q := 265) (ci := 9) (j := 22) 133 rfl rfl fl_Mo_108_9 cl9 hB1.kb (fun r hr => by cases hr; rfl) (by decide) rfl rfl ?_
                    refine bp_nx (X := fun h2 => MoX M h0 h2 tw i 0 fm tl (mlV v) (v 3) (v 4) (v 5) nt.length (v 5) false tb.length nf nn dg nu kd pn pe T xs L ps ((L1 ++ [(a, lkV v)])) p1 nt tb fd) (hB1.s22 rfl) (fun h2 hB2 => ?_)
                    refine bp_goto (tgt := 294) 134 rfl (by decide) ?_
                    refine bp_vret 147 rfl rfl  ⟨_, rfl, ?_⟩
                    have hd0 := nfit_0 hye rfl
                    have eO : n.toNatClampNeg = a := by unfold nuO at hnO; rw [if_neg hd0] at hnO; rw [hnO, nI_clamp (by omega)]
                    rw [← eO] at hB2
                    exact hQ _ (OUTB.ok (v := v) (nm := nm) hB2 (by rw [hW, decide_eq_false hnt]; exact bO_14 hye) hoN)
              · refine bp_aload_n (q := 217) 109 rfl rfl rfl rfl ?_
                refine bp_aload_n (q := 218) 110 rfl rfl rfl rfl ?_
                refine bp_iload_n (q := 219) 111 rfl rfl rfl rfl ?_
                refine bp_iconst (v := 1) (q := 220) 112 rfl rfl (by decide) ?_
                refine bp_iconst (v := 0) (q := 221) 113 rfl rfl (by decide) ?_
                refine bp_bipush (v := 9) (q := 223) 114 rfl rfl (by decide) ?_
                refine bp_callV (q := 226) (ci := 9) 115 rfl rfl cw_Mo_bounded lk_Mo_207 rfl hB0.kb wd1507 wd55 rfl rfl (Nat.le_of_ble_eq_true rfl) ⟨Nat.le_of_ble_eq_true rfl, Nat.le_of_ble_eq_true rfl⟩ (s_Mo_bounded hB0 hdg (fun zb h1 hB1 => ?_) (fun zb1 zb2 zb3 => ?_))
                · have hW : wdf T nf nn 15 1 = 13 := of_decide_eq_true (bI1 z213)
                  have hno := nf_no (tb := tb) (by decide) (by decide) nf_13 hnu zb
                  refine bp_putI (q := 229) (ci := 9) (j := 19) 116 rfl rfl fl_Mo_105_9 cl9 hB1.kb (fun r hr => by cases hr; rfl) (by decide) rfl rfl ?_
                  refine bp_nx (X := fun h2 => MoX M h0 h2 tw i (-5) (nI th) tl (mlV v) (v 3) (v 4) 0 nt.length 0 false tb.length nf nn dg nu kd pn pe T xs L ps L1 p1 nt tb fd) (hB1.s19 rfl) (fun h2 hB2 => ?_)
                  refine bp_goto (tgt := 294) 117 rfl (by decide) ?_
                  refine bp_vret 147 rfl rfl  ⟨_, rfl, ?_⟩
                  exact hQ _ (OUTB.bad hB2 (by rw [hW, bO_f hno]) (by rw [hW, bO_f hno]) (by decide))
                · have hW : wdf T nf nn 15 1 = 13 := of_decide_eq_true (bI1 z213)
                  have hye := nf_yes (tb := tb) nf_13 hnu zb1 zb2 zb3
                  obtain ⟨a, ha1, ha2, ha3, ha4⟩ := wi_cl (n := bdN dg nu 1) (x := 0) (y := 9) (by decide) (by decide) (wi_i.mpr ⟨zb2, zb3⟩)
                  have hnO : nuO dg n 1 = nI a := by rw [← ha3, hnu zb1]; rfl
                  rw [ha3]
                  refine bp_putI (q := 229) (ci := 9) (j := 19) 116 rfl rfl fl_Mo_105_9 cl9 hB0.kb (fun r hr => by cases hr; rfl) (by decide) rfl rfl ?_
                  refine bp_nx (X := fun h1 => MoX M h0 h1 tw i 0 fm tl (mlV v) (v 3) (v 4) a nt.length 0 false tb.length nf nn dg nu kd pn pe T xs L ps L1 p1 nt tb fd) (hB0.s19 rfl) (fun h1 hB1 => ?_)
                  refine bp_goto (tgt := 294) 117 rfl (by decide) ?_
                  refine bp_vret 147 rfl rfl  ⟨_, rfl, ?_⟩
                  have eO : (nuO dg n 1).toNatClampNeg = a := by rw [hnO, nI_clamp (by omega)]
                  rw [← eO] at hB1
                  exact hQ _ (OUTB.ok (v := bp_u1 v 5 (nuO dg n 1).toNatClampNeg) (nm := nm) hB1 (by rw [hW, decide_eq_false hnt]; exact bO_s hye (by decide) (by decide) (by decide)) hoN)
            · refine bp_aload_n (q := 191) 96 rfl rfl rfl rfl ?_
              refine bp_aload_n (q := 192) 97 rfl rfl rfl rfl ?_
              refine bp_iload_n (q := 193) 98 rfl rfl rfl rfl ?_
              refine bp_iconst (v := 0) (q := 194) 99 rfl rfl (by decide) ?_
              refine bp_iconst (v := 0) (q := 195) 100 rfl rfl (by decide) ?_
              refine bp_bipush (v := 9) (q := 197) 101 rfl rfl (by decide) ?_
              refine bp_callV (q := 200) (ci := 9) 102 rfl rfl cw_Mo_bounded lk_Mo_207 rfl hB0.kb wd1507 wd55 rfl rfl (Nat.le_of_ble_eq_true rfl) ⟨Nat.le_of_ble_eq_true rfl, Nat.le_of_ble_eq_true rfl⟩ (s_Mo_bounded hB0 hdg (fun zb h1 hB1 => ?_) (fun zb1 zb2 zb3 => ?_))
              · have hW : wdf T nf nn 15 1 = 10 := of_decide_eq_true (bI1 z187)
                have hno := nf_no (tb := tb) (by decide) (by decide) nf_10 hnu zb
                refine bp_putI (q := 203) (ci := 9) (j := 18) 103 rfl rfl fl_Mo_102_9 cl9 hB1.kb (fun r hr => by cases hr; rfl) (by decide) rfl rfl ?_
                refine bp_nx (X := fun h2 => MoX M h0 h2 tw i (-5) (nI th) tl (mlV v) (v 3) 0 (v 5) nt.length 0 false tb.length nf nn dg nu kd pn pe T xs L ps L1 p1 nt tb fd) (hB1.s18 rfl) (fun h2 hB2 => ?_)
                refine bp_goto (tgt := 294) 104 rfl (by decide) ?_
                refine bp_vret 147 rfl rfl  ⟨_, rfl, ?_⟩
                exact hQ _ (OUTB.bad hB2 (by rw [hW, bO_f hno]) (by rw [hW, bO_f hno]) (by decide))
              · have hW : wdf T nf nn 15 1 = 10 := of_decide_eq_true (bI1 z187)
                have hye := nf_yes (tb := tb) nf_10 hnu zb1 zb2 zb3
                obtain ⟨a, ha1, ha2, ha3, ha4⟩ := wi_cl (n := bdN dg nu 0) (x := 0) (y := 9) (by decide) (by decide) (wi_i.mpr ⟨zb2, zb3⟩)
                have hnO : nuO dg n 0 = nI a := by rw [← ha3, hnu zb1]; rfl
                rw [ha3]
                refine bp_putI (q := 203) (ci := 9) (j := 18) 103 rfl rfl fl_Mo_102_9 cl9 hB0.kb (fun r hr => by cases hr; rfl) (by decide) rfl rfl ?_
                refine bp_nx (X := fun h1 => MoX M h0 h1 tw i 0 fm tl (mlV v) (v 3) a (v 5) nt.length 0 false tb.length nf nn dg nu kd pn pe T xs L ps L1 p1 nt tb fd) (hB0.s18 rfl) (fun h1 hB1 => ?_)
                refine bp_goto (tgt := 294) 104 rfl (by decide) ?_
                refine bp_vret 147 rfl rfl  ⟨_, rfl, ?_⟩
                have eO : (nuO dg n 0).toNatClampNeg = a := by rw [hnO, nI_clamp (by omega)]
                rw [← eO] at hB1
                exact hQ _ (OUTB.ok (v := bp_u1 v 4 (nuO dg n 0).toNatClampNeg) (nm := nm) hB1 (by rw [hW, decide_eq_false hnt]; exact bO_s hye (by decide) (by decide) (by decide)) hoN)
          · refine bp_aload_n (q := 143) 70 rfl rfl rfl rfl ?_
            refine bp_aload_n (q := 144) 71 rfl rfl rfl rfl ?_
            refine bp_getI (q := 147) (ci := 9) (j := 16) 72 rfl rfl fl_Mo_96_9 hB0.kb rfl ?_
            rw [hB0.i16]
            refine bp_sipush (v := 1024) (q := 150) 73 rfl rfl (by decide) ?_
            refine bp_irem (q := 151) 74 rfl rfl (by decide) ?_
            rw [m1024 hl8]
            refine bp_sipush (v := 1024) (q := 154) 75 rfl rfl (by decide) ?_
            refine bp_aload_n (q := 155) 76 rfl rfl rfl rfl ?_
            refine bp_getR (x := M 25) (q := 158) (ci := 9) (j := 25) 77 rfl rfl fl_Mo_46_9 hB0.kb rfl hB0.r25 ?_
            refine bp_aload_n (q := 159) 78 rfl rfl rfl rfl ?_
            refine bp_iload_n (q := 160) 79 rfl rfl rfl rfl ?_
            refine bp_iconst (v := 0) (q := 161) 80 rfl rfl (by decide) ?_
            refine bp_iconst (v := 0) (q := 162) 81 rfl rfl (by decide) ?_
            refine bp_aload_n (q := 163) 82 rfl rfl rfl rfl ?_
            refine bp_getI (q := 166) (ci := 9) (j := 24) 83 rfl rfl fl_Mo_126_9 hB0.kb rfl ?_
            rw [hB0.i24]
            refine bp_iconst (v := 1) (q := 167) 84 rfl rfl (by decide) ?_
            refine bp_isub (q := 168) 85 rfl rfl ?_
            rw [show nI tb.length - 1 = nI (tb.length - 1) from nI_sub (b := 1) (by omega)]
            refine bp_callV (q := 171) (ci := 9) 86 rfl rfl cw_Mo_bounded lk_Mo_207 rfl hB0.kb wd1507 wd55 rfl rfl (Nat.le_of_ble_eq_true rfl) ⟨Nat.le_of_ble_eq_true rfl, Nat.le_of_ble_eq_true rfl⟩ (s_Mo_bounded hB0 hdg (fun zb h1 hB1 => ?_) (fun zb1 zb2 zb3 => ?_))
            · have hW : wdf T nf nn 15 1 = 5 := of_decide_eq_true (bI1 z139)
              have hno := nf_no (tb := tb) (by decide) (by decide) (nf_5 htb htl) hnu zb
              refine bp_iald (q := 172) 87 rfl rfl hB1.k25 (vp_inL (n := 0) hB1.l25 (by omega) (by decide)) ?_
              rw [show ((0 : Int32).toNatClampNeg) = 0 from rfl, hB1.2.2.2.2.2.2.2.2.1.2 0 (by omega)]
              refine bp_imul (q := 173) 88 rfl rfl ?_
              refine bp_iadd (q := 174) 89 rfl rfl ?_
              refine bp_putI (q := 177) (ci := 9) (j := 16) 90 rfl rfl fl_Mo_96_9 cl9 hB1.kb (fun r hr => by cases hr; rfl) (by decide) rfl rfl ?_
              refine bp_nx (X := fun h2 => MoX M h0 h2 tw i (-5) (nI th) tl (mlV v % 1024 + 1024 * tb.getD 0 0) (v 3) (v 4) (v 5) nt.length 0 false tb.length nf nn dg nu kd pn pe T xs L ps L1 p1 nt tb fd) (hB1.s16 (by rw [show (1024 : Int32) = nI 1024 from rfl, nI_mul, nI_add])) (fun h2 hB2 => ?_)
              refine bp_goto (tgt := 294) 91 rfl (by decide) ?_
              refine bp_vret 147 rfl rfl  ⟨_, rfl, ?_⟩
              exact hQ _ (OUTB.bad hB2 (by rw [hW, bO_f hno]) (by rw [hW, bO_f hno]) (by decide))
            · have hW : wdf T nf nn 15 1 = 5 := of_decide_eq_true (bI1 z139)
              have hye := nf_yes (tb := tb) (nf_5 htb htl) hnu zb1 zb2 zb3
              obtain ⟨a, ha1, ha2, ha3, ha4⟩ := wi_cl (n := bdN dg nu 0) (x := 0) (y := tb.length - 1) (by omega) (Nat.zero_le _) (wi_i.mpr ⟨zb2, zb3⟩)
              have hnO : nuO dg n 0 = nI a := by rw [← ha3, hnu zb1]; rfl
              rw [ha3]
              refine bp_iald (q := 172) 87 rfl rfl hB0.k25 (vp_inL (n := a) hB0.l25 (by omega) (by decide)) ?_
              rw [nI_clamp (by omega), hB0.2.2.2.2.2.2.2.2.1.2 a (by omega)]
              refine bp_imul (q := 173) 88 rfl rfl ?_
              refine bp_iadd (q := 174) 89 rfl rfl ?_
              refine bp_putI (q := 177) (ci := 9) (j := 16) 90 rfl rfl fl_Mo_96_9 cl9 hB0.kb (fun r hr => by cases hr; rfl) (by decide) rfl rfl ?_
              refine bp_nx (X := fun h1 => MoX M h0 h1 tw i 0 fm tl (mlV v % 1024 + 1024 * tb.getD a 0) (v 3) (v 4) (v 5) nt.length 0 false tb.length nf nn dg nu kd pn pe T xs L ps L1 p1 nt tb fd) (hB0.s16 (by rw [show (1024 : Int32) = nI 1024 from rfl, nI_mul, nI_add])) (fun h1 hB1 => ?_)
              refine bp_goto (tgt := 294) 91 rfl (by decide) ?_
              refine bp_vret 147 rfl rfl  ⟨_, rfl, ?_⟩
              have eO : (nuO dg n 0).toNatClampNeg = a := by rw [hnO, nI_clamp (by omega)]
              rw [mlV_u2 hV, ← eO] at hB1
              exact hQ _ (OUTB.ok (v := bp_u1 v 2 (tb.getD (nuO dg n 0).toNatClampNeg 0)) (nm := nm) hB1 (by rw [hW, decide_eq_false hnt]; exact bO_s hye (by decide) (by decide) (by decide)) hoN)
        · refine bp_aload_n (q := 92) 43 rfl rfl rfl rfl ?_
          refine bp_aload_n (q := 93) 44 rfl rfl rfl rfl ?_
          refine bp_getI (q := 96) (ci := 9) (j := 16) 45 rfl rfl fl_Mo_96_9 hB0.kb rfl ?_
          rw [hB0.i16]
          refine bp_bipush (v := 7) (q := 98) 46 rfl rfl (by decide) ?_
          refine bp_iand (q := 99) 47 rfl rfl ?_
          rw [cm_7 _ hl8]
          refine bp_bipush (v := 8) (q := 101) 48 rfl rfl (by decide) ?_
          refine bp_aload_n (q := 102) 49 rfl rfl rfl rfl ?_
          refine bp_iload_n (q := 103) 50 rfl rfl rfl rfl ?_
          refine bp_bipush (v := 12) (q := 105) 51 rfl rfl (by decide) ?_
          refine bp_iconst (v := 1) (q := 106) 52 rfl rfl (by decide) ?_
          refine bp_bipush (v := 99) (q := 108) 53 rfl rfl (by decide) ?_
          refine bp_callV (q := 111) (ci := 9) 54 rfl rfl cw_Mo_bounded lk_Mo_207 rfl hB0.kb wd1507 wd55 rfl rfl (Nat.le_of_ble_eq_true rfl) ⟨Nat.le_of_ble_eq_true rfl, Nat.le_of_ble_eq_true rfl⟩ (s_Mo_bounded hB0 hdg (fun zb h1 hB1 => ?_) (fun zb1 zb2 zb3 => ?_))
          · have hW : wdf T nf nn 15 1 = 4 := of_decide_eq_true (bI1 z88)
            have hno := nf_no (tb := tb) (by decide) (by decide) nf_4 hnu zb
            refine bp_imul (q := 112) 55 rfl rfl ?_
            refine bp_iadd (q := 113) 56 rfl rfl ?_
            refine bp_aload_n (q := 114) 57 rfl rfl rfl rfl ?_
            refine bp_getI (q := 117) (ci := 9) (j := 16) 58 rfl rfl fl_Mo_96_9 hB1.kb rfl ?_
            rw [hB1.i16]
            refine bp_sipush (v := 1024) (q := 120) 59 rfl rfl (by decide) ?_
            refine bp_idiv (q := 121) 60 rfl rfl (by decide) ?_
            rw [cm_1 _ hl8]
            refine bp_sipush (v := 1024) (q := 124) 61 rfl rfl (by decide) ?_
            refine bp_imul (q := 125) 62 rfl rfl ?_
            refine bp_iadd (q := 126) 63 rfl rfl ?_
            refine bp_putI (q := 129) (ci := 9) (j := 16) 64 rfl rfl fl_Mo_96_9 cl9 hB1.kb (fun r hr => by cases hr; rfl) (by decide) rfl rfl ?_
            refine bp_nx (X := fun h2 => MoX M h0 h2 tw i (-5) (nI th) tl (mlV v % 8 + 8 * 1 + mlV v / 1024 * 1024) (v 3) (v 4) (v 5) nt.length 0 false tb.length nf nn dg nu kd pn pe T xs L ps L1 p1 nt tb fd) (hB1.s16 (by rw [show (8 : Int32) * 1 = nI (8 * 1) from rfl, show (1024 : Int32) = nI 1024 from rfl, nI_add, nI_mul, nI_add])) (fun h2 hB2 => ?_)
            refine bp_goto (tgt := 294) 65 rfl (by decide) ?_
            refine bp_vret 147 rfl rfl  ⟨_, rfl, ?_⟩
            exact hQ _ (OUTB.bad hB2 (by rw [hW, bO_f hno]) (by rw [hW, bO_f hno]) (by decide))
          · have hW : wdf T nf nn 15 1 = 4 := of_decide_eq_true (bI1 z88)
            have hye := nf_yes (tb := tb) nf_4 hnu zb1 zb2 zb3
            obtain ⟨a, ha1, ha2, ha3, ha4⟩ := wi_cl (n := bdN dg nu 12) (x := 1) (y := 99) (by decide) (by decide) (wi_i.mpr ⟨zb2, zb3⟩)
            have hnO : nuO dg n 12 = nI a := by rw [← ha3, hnu zb1]; rfl
            rw [ha3]
            refine bp_imul (q := 112) 55 rfl rfl ?_
            refine bp_iadd (q := 113) 56 rfl rfl ?_
            refine bp_aload_n (q := 114) 57 rfl rfl rfl rfl ?_
            refine bp_getI (q := 117) (ci := 9) (j := 16) 58 rfl rfl fl_Mo_96_9 hB0.kb rfl ?_
            rw [hB0.i16]
            refine bp_sipush (v := 1024) (q := 120) 59 rfl rfl (by decide) ?_
            refine bp_idiv (q := 121) 60 rfl rfl (by decide) ?_
            rw [cm_1 _ hl8]
            refine bp_sipush (v := 1024) (q := 124) 61 rfl rfl (by decide) ?_
            refine bp_imul (q := 125) 62 rfl rfl ?_
            refine bp_iadd (q := 126) 63 rfl rfl ?_
            refine bp_putI (q := 129) (ci := 9) (j := 16) 64 rfl rfl fl_Mo_96_9 cl9 hB0.kb (fun r hr => by cases hr; rfl) (by decide) rfl rfl ?_
            refine bp_nx (X := fun h1 => MoX M h0 h1 tw i 0 fm tl (mlV v % 8 + 8 * a + mlV v / 1024 * 1024) (v 3) (v 4) (v 5) nt.length 0 false tb.length nf nn dg nu kd pn pe T xs L ps L1 p1 nt tb fd) (hB0.s16 (by rw [show (8 : Int32) = nI 8 from rfl, show (1024 : Int32) = nI 1024 from rfl, nI_mul, nI_add, nI_mul, nI_add])) (fun h1 hB1 => ?_)
            refine bp_goto (tgt := 294) 65 rfl (by decide) ?_
            refine bp_vret 147 rfl rfl  ⟨_, rfl, ?_⟩
            have eO : (nuO dg n 12).toNatClampNeg = a := by rw [hnO, nI_clamp (by omega)]
            rw [mlV_u1 hV, ← eO] at hB1
            exact hQ _ (OUTB.ok (v := bp_u1 v 1 (nuO dg n 12).toNatClampNeg) (nm := nm) hB1 (by rw [hW, decide_eq_false hnt]; exact bO_s hye (by decide) (by decide) (by decide)) hoN)
      · refine bp_iconst (v := 4) (q := 39) 16 rfl rfl (by decide) ?_
        refine bp_goto (tgt := 43) 17 rfl (by decide) ?_
        refine bp_istore_n (q := 44) 19 rfl rfl rfl (by decide) (bp_up3 rfl) ?_
        refine bp_iload_n (q := 45) 20 rfl rfl rfl rfl ?_
        refine bp_if_le (q := 48) (tgt := 81) 21 rfl rfl (by decide) (fun z => absurd z (by decide)) (fun z45 => ?_)
        refine bp_aload_n (q := 49) 22 rfl rfl rfl rfl ?_
        refine bp_aload_n (q := 50) 23 rfl rfl rfl rfl ?_
        refine bp_getI (q := 53) (ci := 9) (j := 16) 24 rfl rfl fl_Mo_96_9 hB0.kb rfl ?_
        rw [hB0.i16]
        refine bp_iload_n (q := 54) 25 rfl rfl rfl rfl ?_
        refine bp_aload_n (q := 55) 26 rfl rfl rfl rfl ?_
        refine bp_iload_n (q := 56) 27 rfl rfl rfl rfl ?_
        refine bp_iconst (v := 1) (q := 57) 28 rfl rfl (by decide) ?_
        refine bp_ldc (q := 59) 29 rfl rfl wd1503 ?_
        refine bp_ldc (q := 61) 30 rfl rfl wd1504 ?_
        refine bp_callV (q := 64) (ci := 9) 31 rfl rfl cw_Mo_bounded lk_Mo_207 rfl hB0.kb wd1507 wd55 rfl rfl (Nat.le_of_ble_eq_true rfl) ⟨Nat.le_of_ble_eq_true rfl, Nat.le_of_ble_eq_true rfl⟩ (s_Mo_bounded hB0 hdg (fun zb h1 hB1 => ?_) (fun zb1 zb2 zb3 => ?_))
        · have hW : wdf T nf nn 15 1 = 3 := of_decide_eq_true (bI1 z35)
          have hno := nf_no (tb := tb) (by decide) (by decide) (nf_1 (Or.inr (Or.inr rfl)) hn) hnu zb
          refine bp_if_eq (q := 67) (tgt := 71) 32 rfl rfl (by decide) (fun z64 => ?_) (fun z64 => ?_)
          · refine bp_iconst (v := 0) (q := 72) 35 rfl rfl (by decide) ?_
            refine bp_callS (q := 75) 36 rfl rfl cw_Mo_withStyle lk_Mo_211 wd1510 rfl rfl (Nat.le_of_ble_eq_true rfl) ⟨Nat.le_of_ble_eq_true rfl, Nat.le_of_ble_eq_true rfl⟩ (s_Mo_withStyle (ro := false) (n := mlV v) (b := 4) (o := 0) hl8 (by decide) ?_)
            refine bp_putI (q := 78) (ci := 9) (j := 16) 37 rfl rfl fl_Mo_96_9 cl9 hB1.kb (fun r hr => by cases hr; rfl) (by decide) rfl rfl ?_
            refine bp_nx (X := fun h2 => MoX M h0 h2 tw i (-5) (nI th) tl (mlV v - mlV v % 8 + stS (mlV v % 8) 4 (decide ((0 : Int32) = 0))) (v 3) (v 4) (v 5) nt.length 0 false tb.length nf nn dg nu kd pn pe T xs L ps L1 p1 nt tb fd) (hB1.s16 rfl) (fun h2 hB2 => ?_)
            refine bp_goto (tgt := 294) 38 rfl (by decide) ?_
            refine bp_vret 147 rfl rfl  ⟨_, rfl, ?_⟩
            exact hQ _ (OUTB.bad hB2 (by rw [hW, bO_f hno]) (by rw [hW, bO_f hno]) (by decide))
          · refine bp_iconst (v := 1) (q := 68) 33 rfl rfl (by decide) ?_
            refine bp_goto (tgt := 72) 34 rfl (by decide) ?_
            refine bp_callS (q := 75) 36 rfl rfl cw_Mo_withStyle lk_Mo_211 wd1510 rfl rfl (Nat.le_of_ble_eq_true rfl) ⟨Nat.le_of_ble_eq_true rfl, Nat.le_of_ble_eq_true rfl⟩ (s_Mo_withStyle (ro := false) (n := mlV v) (b := 4) (o := 1) hl8 (by decide) ?_)
            refine bp_putI (q := 78) (ci := 9) (j := 16) 37 rfl rfl fl_Mo_96_9 cl9 hB1.kb (fun r hr => by cases hr; rfl) (by decide) rfl rfl ?_
            refine bp_nx (X := fun h2 => MoX M h0 h2 tw i (-5) (nI th) tl (mlV v - mlV v % 8 + stS (mlV v % 8) 4 (decide ((1 : Int32) = 0))) (v 3) (v 4) (v 5) nt.length 0 false tb.length nf nn dg nu kd pn pe T xs L ps L1 p1 nt tb fd) (hB1.s16 rfl) (fun h2 hB2 => ?_)
            refine bp_goto (tgt := 294) 38 rfl (by decide) ?_
            refine bp_vret 147 rfl rfl  ⟨_, rfl, ?_⟩
            exact hQ _ (OUTB.bad hB2 (by rw [hW, bO_f hno]) (by rw [hW, bO_f hno]) (by decide))
        · have hW : wdf T nf nn 15 1 = 3 := of_decide_eq_true (bI1 z35)
          have hye := nf_yes (tb := tb) (nf_1 (Or.inr (Or.inr rfl)) hn) hnu zb1 zb2 zb3
          have hnO : nuO dg n 1 = bdN dg nu 1 := by rw [hnu zb1]; rfl
          refine bp_if_eq (q := 67) (tgt := 71) 32 rfl rfl (by decide) (fun z64 => ?_) (fun z64 => ?_)
          · refine bp_iconst (v := 0) (q := 72) 35 rfl rfl (by decide) ?_
            refine bp_callS (q := 75) 36 rfl rfl cw_Mo_withStyle lk_Mo_211 wd1510 rfl rfl (Nat.le_of_ble_eq_true rfl) ⟨Nat.le_of_ble_eq_true rfl, Nat.le_of_ble_eq_true rfl⟩ (s_Mo_withStyle (ro := false) (n := mlV v) (b := 4) (o := 0) hl8 (by decide) ?_)
            refine bp_putI (q := 78) (ci := 9) (j := 16) 37 rfl rfl fl_Mo_96_9 cl9 hB0.kb (fun r hr => by cases hr; rfl) (by decide) rfl rfl ?_
            refine bp_nx (X := fun h1 => MoX M h0 h1 tw i 0 fm tl (mlV v - mlV v % 8 + stS (mlV v % 8) 4 (decide ((0 : Int32) = 0))) (v 3) (v 4) (v 5) nt.length 0 false tb.length nf nn dg nu kd pn pe T xs L ps L1 p1 nt tb fd) (hB0.s16 rfl) (fun h1 hB1 => ?_)
            refine bp_goto (tgt := 294) 38 rfl (by decide) ?_
            refine bp_vret 147 rfl rfl  ⟨_, rfl, ?_⟩
            have eO : decide (nuO dg n 1 = 0) = decide ((0 : Int32) = 0) := by rw [hnO, decide_eq_true z64]; rfl
            rw [mlV_u0 (x := 0) hV, ← eO] at hB1
            exact hQ _ (OUTB.ok (v := bp_u1 v 0 (stS (v 0) 4 (decide (nuO dg n 1 = 0)))) (nm := nm) hB1 (by rw [hW, decide_eq_false hnt]; exact bO_s hye (by decide) (by decide) (by decide)) hoN)
          · refine bp_iconst (v := 1) (q := 68) 33 rfl rfl (by decide) ?_
            refine bp_goto (tgt := 72) 34 rfl (by decide) ?_
            refine bp_callS (q := 75) 36 rfl rfl cw_Mo_withStyle lk_Mo_211 wd1510 rfl rfl (Nat.le_of_ble_eq_true rfl) ⟨Nat.le_of_ble_eq_true rfl, Nat.le_of_ble_eq_true rfl⟩ (s_Mo_withStyle (ro := false) (n := mlV v) (b := 4) (o := 1) hl8 (by decide) ?_)
            refine bp_putI (q := 78) (ci := 9) (j := 16) 37 rfl rfl fl_Mo_96_9 cl9 hB0.kb (fun r hr => by cases hr; rfl) (by decide) rfl rfl ?_
            refine bp_nx (X := fun h1 => MoX M h0 h1 tw i 0 fm tl (mlV v - mlV v % 8 + stS (mlV v % 8) 4 (decide ((1 : Int32) = 0))) (v 3) (v 4) (v 5) nt.length 0 false tb.length nf nn dg nu kd pn pe T xs L ps L1 p1 nt tb fd) (hB0.s16 rfl) (fun h1 hB1 => ?_)
            refine bp_goto (tgt := 294) 38 rfl (by decide) ?_
            refine bp_vret 147 rfl rfl  ⟨_, rfl, ?_⟩
            have eO : decide (nuO dg n 1 = 0) = decide ((1 : Int32) = 0) := by rw [hnO, decide_eq_false z64]; rfl
            rw [mlV_u0 (x := 0) hV, ← eO] at hB1
            exact hQ _ (OUTB.ok (v := bp_u1 v 0 (stS (v 0) 4 (decide (nuO dg n 1 = 0)))) (nm := nm) hB1 (by rw [hW, decide_eq_false hnt]; exact bO_s hye (by decide) (by decide) (by decide)) hoN)
    · refine bp_iconst (v := 2) (q := 25) 10 rfl rfl (by decide) ?_
      refine bp_goto (tgt := 43) 11 rfl (by decide) ?_
      refine bp_istore_n (q := 44) 19 rfl rfl rfl (by decide) (bp_up3 rfl) ?_
      refine bp_iload_n (q := 45) 20 rfl rfl rfl rfl ?_
      refine bp_if_le (q := 48) (tgt := 81) 21 rfl rfl (by decide) (fun z => absurd z (by decide)) (fun z45 => ?_)
      refine bp_aload_n (q := 49) 22 rfl rfl rfl rfl ?_
      refine bp_aload_n (q := 50) 23 rfl rfl rfl rfl ?_
      refine bp_getI (q := 53) (ci := 9) (j := 16) 24 rfl rfl fl_Mo_96_9 hB0.kb rfl ?_
      rw [hB0.i16]
      refine bp_iload_n (q := 54) 25 rfl rfl rfl rfl ?_
      refine bp_aload_n (q := 55) 26 rfl rfl rfl rfl ?_
      refine bp_iload_n (q := 56) 27 rfl rfl rfl rfl ?_
      refine bp_iconst (v := 1) (q := 57) 28 rfl rfl (by decide) ?_
      refine bp_ldc (q := 59) 29 rfl rfl wd1503 ?_
      refine bp_ldc (q := 61) 30 rfl rfl wd1504 ?_
      refine bp_callV (q := 64) (ci := 9) 31 rfl rfl cw_Mo_bounded lk_Mo_207 rfl hB0.kb wd1507 wd55 rfl rfl (Nat.le_of_ble_eq_true rfl) ⟨Nat.le_of_ble_eq_true rfl, Nat.le_of_ble_eq_true rfl⟩ (s_Mo_bounded hB0 hdg (fun zb h1 hB1 => ?_) (fun zb1 zb2 zb3 => ?_))
      · have hW : wdf T nf nn 15 1 = 2 := of_decide_eq_true (bI1 z21)
        have hno := nf_no (tb := tb) (by decide) (by decide) (nf_1 (Or.inr (Or.inl rfl)) hn) hnu zb
        refine bp_if_eq (q := 67) (tgt := 71) 32 rfl rfl (by decide) (fun z64 => ?_) (fun z64 => ?_)
        · refine bp_iconst (v := 0) (q := 72) 35 rfl rfl (by decide) ?_
          refine bp_callS (q := 75) 36 rfl rfl cw_Mo_withStyle lk_Mo_211 wd1510 rfl rfl (Nat.le_of_ble_eq_true rfl) ⟨Nat.le_of_ble_eq_true rfl, Nat.le_of_ble_eq_true rfl⟩ (s_Mo_withStyle (ro := false) (n := mlV v) (b := 2) (o := 0) hl8 (by decide) ?_)
          refine bp_putI (q := 78) (ci := 9) (j := 16) 37 rfl rfl fl_Mo_96_9 cl9 hB1.kb (fun r hr => by cases hr; rfl) (by decide) rfl rfl ?_
          refine bp_nx (X := fun h2 => MoX M h0 h2 tw i (-5) (nI th) tl (mlV v - mlV v % 8 + stS (mlV v % 8) 2 (decide ((0 : Int32) = 0))) (v 3) (v 4) (v 5) nt.length 0 false tb.length nf nn dg nu kd pn pe T xs L ps L1 p1 nt tb fd) (hB1.s16 rfl) (fun h2 hB2 => ?_)
          refine bp_goto (tgt := 294) 38 rfl (by decide) ?_
          refine bp_vret 147 rfl rfl  ⟨_, rfl, ?_⟩
          exact hQ _ (OUTB.bad hB2 (by rw [hW, bO_f hno]) (by rw [hW, bO_f hno]) (by decide))
        · refine bp_iconst (v := 1) (q := 68) 33 rfl rfl (by decide) ?_
          refine bp_goto (tgt := 72) 34 rfl (by decide) ?_
          refine bp_callS (q := 75) 36 rfl rfl cw_Mo_withStyle lk_Mo_211 wd1510 rfl rfl (Nat.le_of_ble_eq_true rfl) ⟨Nat.le_of_ble_eq_true rfl, Nat.le_of_ble_eq_true rfl⟩ (s_Mo_withStyle (ro := false) (n := mlV v) (b := 2) (o := 1) hl8 (by decide) ?_)
          refine bp_putI (q := 78) (ci := 9) (j := 16) 37 rfl rfl fl_Mo_96_9 cl9 hB1.kb (fun r hr => by cases hr; rfl) (by decide) rfl rfl ?_
          refine bp_nx (X := fun h2 => MoX M h0 h2 tw i (-5) (nI th) tl (mlV v - mlV v % 8 + stS (mlV v % 8) 2 (decide ((1 : Int32) = 0))) (v 3) (v 4) (v 5) nt.length 0 false tb.length nf nn dg nu kd pn pe T xs L ps L1 p1 nt tb fd) (hB1.s16 rfl) (fun h2 hB2 => ?_)
          refine bp_goto (tgt := 294) 38 rfl (by decide) ?_
          refine bp_vret 147 rfl rfl  ⟨_, rfl, ?_⟩
          exact hQ _ (OUTB.bad hB2 (by rw [hW, bO_f hno]) (by rw [hW, bO_f hno]) (by decide))
      · have hW : wdf T nf nn 15 1 = 2 := of_decide_eq_true (bI1 z21)
        have hye := nf_yes (tb := tb) (nf_1 (Or.inr (Or.inl rfl)) hn) hnu zb1 zb2 zb3
        have hnO : nuO dg n 1 = bdN dg nu 1 := by rw [hnu zb1]; rfl
        refine bp_if_eq (q := 67) (tgt := 71) 32 rfl rfl (by decide) (fun z64 => ?_) (fun z64 => ?_)
        · refine bp_iconst (v := 0) (q := 72) 35 rfl rfl (by decide) ?_
          refine bp_callS (q := 75) 36 rfl rfl cw_Mo_withStyle lk_Mo_211 wd1510 rfl rfl (Nat.le_of_ble_eq_true rfl) ⟨Nat.le_of_ble_eq_true rfl, Nat.le_of_ble_eq_true rfl⟩ (s_Mo_withStyle (ro := false) (n := mlV v) (b := 2) (o := 0) hl8 (by decide) ?_)
          refine bp_putI (q := 78) (ci := 9) (j := 16) 37 rfl rfl fl_Mo_96_9 cl9 hB0.kb (fun r hr => by cases hr; rfl) (by decide) rfl rfl ?_
          refine bp_nx (X := fun h1 => MoX M h0 h1 tw i 0 fm tl (mlV v - mlV v % 8 + stS (mlV v % 8) 2 (decide ((0 : Int32) = 0))) (v 3) (v 4) (v 5) nt.length 0 false tb.length nf nn dg nu kd pn pe T xs L ps L1 p1 nt tb fd) (hB0.s16 rfl) (fun h1 hB1 => ?_)
          refine bp_goto (tgt := 294) 38 rfl (by decide) ?_
          refine bp_vret 147 rfl rfl  ⟨_, rfl, ?_⟩
          have eO : decide (nuO dg n 1 = 0) = decide ((0 : Int32) = 0) := by rw [hnO, decide_eq_true z64]; rfl
          rw [mlV_u0 (x := 0) hV, ← eO] at hB1
          exact hQ _ (OUTB.ok (v := bp_u1 v 0 (stS (v 0) 2 (decide (nuO dg n 1 = 0)))) (nm := nm) hB1 (by rw [hW, decide_eq_false hnt]; exact bO_s hye (by decide) (by decide) (by decide)) hoN)
        · refine bp_iconst (v := 1) (q := 68) 33 rfl rfl (by decide) ?_
          refine bp_goto (tgt := 72) 34 rfl (by decide) ?_
          refine bp_callS (q := 75) 36 rfl rfl cw_Mo_withStyle lk_Mo_211 wd1510 rfl rfl (Nat.le_of_ble_eq_true rfl) ⟨Nat.le_of_ble_eq_true rfl, Nat.le_of_ble_eq_true rfl⟩ (s_Mo_withStyle (ro := false) (n := mlV v) (b := 2) (o := 1) hl8 (by decide) ?_)
          refine bp_putI (q := 78) (ci := 9) (j := 16) 37 rfl rfl fl_Mo_96_9 cl9 hB0.kb (fun r hr => by cases hr; rfl) (by decide) rfl rfl ?_
          refine bp_nx (X := fun h1 => MoX M h0 h1 tw i 0 fm tl (mlV v - mlV v % 8 + stS (mlV v % 8) 2 (decide ((1 : Int32) = 0))) (v 3) (v 4) (v 5) nt.length 0 false tb.length nf nn dg nu kd pn pe T xs L ps L1 p1 nt tb fd) (hB0.s16 rfl) (fun h1 hB1 => ?_)
          refine bp_goto (tgt := 294) 38 rfl (by decide) ?_
          refine bp_vret 147 rfl rfl  ⟨_, rfl, ?_⟩
          have eO : decide (nuO dg n 1 = 0) = decide ((1 : Int32) = 0) := by rw [hnO, decide_eq_false z64]; rfl
          rw [mlV_u0 (x := 0) hV, ← eO] at hB1
          exact hQ _ (OUTB.ok (v := bp_u1 v 0 (stS (v 0) 2 (decide (nuO dg n 1 = 0)))) (nm := nm) hB1 (by rw [hW, decide_eq_false hnt]; exact bO_s hye (by decide) (by decide) (by decide)) hoN)
  · refine bp_iconst (v := 1) (q := 11) 4 rfl rfl (by decide) ?_
    refine bp_goto (tgt := 43) 5 rfl (by decide) ?_
    refine bp_istore_n (q := 44) 19 rfl rfl rfl (by decide) (bp_up3 rfl) ?_
    refine bp_iload_n (q := 45) 20 rfl rfl rfl rfl ?_
    refine bp_if_le (q := 48) (tgt := 81) 21 rfl rfl (by decide) (fun z => absurd z (by decide)) (fun z45 => ?_)
    refine bp_aload_n (q := 49) 22 rfl rfl rfl rfl ?_
    refine bp_aload_n (q := 50) 23 rfl rfl rfl rfl ?_
    refine bp_getI (q := 53) (ci := 9) (j := 16) 24 rfl rfl fl_Mo_96_9 hB0.kb rfl ?_
    rw [hB0.i16]
    refine bp_iload_n (q := 54) 25 rfl rfl rfl rfl ?_
    refine bp_aload_n (q := 55) 26 rfl rfl rfl rfl ?_
    refine bp_iload_n (q := 56) 27 rfl rfl rfl rfl ?_
    refine bp_iconst (v := 1) (q := 57) 28 rfl rfl (by decide) ?_
    refine bp_ldc (q := 59) 29 rfl rfl wd1503 ?_
    refine bp_ldc (q := 61) 30 rfl rfl wd1504 ?_
    refine bp_callV (q := 64) (ci := 9) 31 rfl rfl cw_Mo_bounded lk_Mo_207 rfl hB0.kb wd1507 wd55 rfl rfl (Nat.le_of_ble_eq_true rfl) ⟨Nat.le_of_ble_eq_true rfl, Nat.le_of_ble_eq_true rfl⟩ (s_Mo_bounded hB0 hdg (fun zb h1 hB1 => ?_) (fun zb1 zb2 zb3 => ?_))
    · have hW : wdf T nf nn 15 1 = 1 := of_decide_eq_true (bI1 z7)
      have hno := nf_no (tb := tb) (by decide) (by decide) (nf_1 (Or.inl rfl) hn) hnu zb
      refine bp_if_eq (q := 67) (tgt := 71) 32 rfl rfl (by decide) (fun z64 => ?_) (fun z64 => ?_)
      · refine bp_iconst (v := 0) (q := 72) 35 rfl rfl (by decide) ?_
        refine bp_callS (q := 75) 36 rfl rfl cw_Mo_withStyle lk_Mo_211 wd1510 rfl rfl (Nat.le_of_ble_eq_true rfl) ⟨Nat.le_of_ble_eq_true rfl, Nat.le_of_ble_eq_true rfl⟩ (s_Mo_withStyle (ro := false) (n := mlV v) (b := 1) (o := 0) hl8 (by decide) ?_)
        refine bp_putI (q := 78) (ci := 9) (j := 16) 37 rfl rfl fl_Mo_96_9 cl9 hB1.kb (fun r hr => by cases hr; rfl) (by decide) rfl rfl ?_
        refine bp_nx (X := fun h2 => MoX M h0 h2 tw i (-5) (nI th) tl (mlV v - mlV v % 8 + stS (mlV v % 8) 1 (decide ((0 : Int32) = 0))) (v 3) (v 4) (v 5) nt.length 0 false tb.length nf nn dg nu kd pn pe T xs L ps L1 p1 nt tb fd) (hB1.s16 rfl) (fun h2 hB2 => ?_)
        refine bp_goto (tgt := 294) 38 rfl (by decide) ?_
        refine bp_vret 147 rfl rfl  ⟨_, rfl, ?_⟩
        exact hQ _ (OUTB.bad hB2 (by rw [hW, bO_f hno]) (by rw [hW, bO_f hno]) (by decide))
      · refine bp_iconst (v := 1) (q := 68) 33 rfl rfl (by decide) ?_
        refine bp_goto (tgt := 72) 34 rfl (by decide) ?_
        refine bp_callS (q := 75) 36 rfl rfl cw_Mo_withStyle lk_Mo_211 wd1510 rfl rfl (Nat.le_of_ble_eq_true rfl) ⟨Nat.le_of_ble_eq_true rfl, Nat.le_of_ble_eq_true rfl⟩ (s_Mo_withStyle (ro := false) (n := mlV v) (b := 1) (o := 1) hl8 (by decide) ?_)
        refine bp_putI (q := 78) (ci := 9) (j := 16) 37 rfl rfl fl_Mo_96_9 cl9 hB1.kb (fun r hr => by cases hr; rfl) (by decide) rfl rfl ?_
        refine bp_nx (X := fun h2 => MoX M h0 h2 tw i (-5) (nI th) tl (mlV v - mlV v % 8 + stS (mlV v % 8) 1 (decide ((1 : Int32) = 0))) (v 3) (v 4) (v 5) nt.length 0 false tb.length nf nn dg nu kd pn pe T xs L ps L1 p1 nt tb fd) (hB1.s16 rfl) (fun h2 hB2 => ?_)
        refine bp_goto (tgt := 294) 38 rfl (by decide) ?_
        refine bp_vret 147 rfl rfl  ⟨_, rfl, ?_⟩
        exact hQ _ (OUTB.bad hB2 (by rw [hW, bO_f hno]) (by rw [hW, bO_f hno]) (by decide))
    · have hW : wdf T nf nn 15 1 = 1 := of_decide_eq_true (bI1 z7)
      have hye := nf_yes (tb := tb) (nf_1 (Or.inl rfl) hn) hnu zb1 zb2 zb3
      have hnO : nuO dg n 1 = bdN dg nu 1 := by rw [hnu zb1]; rfl
      refine bp_if_eq (q := 67) (tgt := 71) 32 rfl rfl (by decide) (fun z64 => ?_) (fun z64 => ?_)
      · refine bp_iconst (v := 0) (q := 72) 35 rfl rfl (by decide) ?_
        refine bp_callS (q := 75) 36 rfl rfl cw_Mo_withStyle lk_Mo_211 wd1510 rfl rfl (Nat.le_of_ble_eq_true rfl) ⟨Nat.le_of_ble_eq_true rfl, Nat.le_of_ble_eq_true rfl⟩ (s_Mo_withStyle (ro := false) (n := mlV v) (b := 1) (o := 0) hl8 (by decide) ?_)
        refine bp_putI (q := 78) (ci := 9) (j := 16) 37 rfl rfl fl_Mo_96_9 cl9 hB0.kb (fun r hr => by cases hr; rfl) (by decide) rfl rfl ?_
        refine bp_nx (X := fun h1 => MoX M h0 h1 tw i 0 fm tl (mlV v - mlV v % 8 + stS (mlV v % 8) 1 (decide ((0 : Int32) = 0))) (v 3) (v 4) (v 5) nt.length 0 false tb.length nf nn dg nu kd pn pe T xs L ps L1 p1 nt tb fd) (hB0.s16 rfl) (fun h1 hB1 => ?_)
        refine bp_goto (tgt := 294) 38 rfl (by decide) ?_
        refine bp_vret 147 rfl rfl  ⟨_, rfl, ?_⟩
        have eO : decide (nuO dg n 1 = 0) = decide ((0 : Int32) = 0) := by rw [hnO, decide_eq_true z64]; rfl
        rw [mlV_u0 (x := 0) hV, ← eO] at hB1
        exact hQ _ (OUTB.ok (v := bp_u1 v 0 (stS (v 0) 1 (decide (nuO dg n 1 = 0)))) (nm := nm) hB1 (by rw [hW, decide_eq_false hnt]; exact bO_s hye (by decide) (by decide) (by decide)) hoN)
      · refine bp_iconst (v := 1) (q := 68) 33 rfl rfl (by decide) ?_
        refine bp_goto (tgt := 72) 34 rfl (by decide) ?_
        refine bp_callS (q := 75) 36 rfl rfl cw_Mo_withStyle lk_Mo_211 wd1510 rfl rfl (Nat.le_of_ble_eq_true rfl) ⟨Nat.le_of_ble_eq_true rfl, Nat.le_of_ble_eq_true rfl⟩ (s_Mo_withStyle (ro := false) (n := mlV v) (b := 1) (o := 1) hl8 (by decide) ?_)
        refine bp_putI (q := 78) (ci := 9) (j := 16) 37 rfl rfl fl_Mo_96_9 cl9 hB0.kb (fun r hr => by cases hr; rfl) (by decide) rfl rfl ?_
        refine bp_nx (X := fun h1 => MoX M h0 h1 tw i 0 fm tl (mlV v - mlV v % 8 + stS (mlV v % 8) 1 (decide ((1 : Int32) = 0))) (v 3) (v 4) (v 5) nt.length 0 false tb.length nf nn dg nu kd pn pe T xs L ps L1 p1 nt tb fd) (hB0.s16 rfl) (fun h1 hB1 => ?_)
        refine bp_goto (tgt := 294) 38 rfl (by decide) ?_
        refine bp_vret 147 rfl rfl  ⟨_, rfl, ?_⟩
        have eO : decide (nuO dg n 1 = 0) = decide ((1 : Int32) = 0) := by rw [hnO, decide_eq_false z64]; rfl
        rw [mlV_u0 (x := 0) hV, ← eO] at hB1
        exact hQ _ (OUTB.ok (v := bp_u1 v 0 (stS (v 0) 1 (decide (nuO dg n 1 = 0)))) (nm := nm) hB1 (by rw [hW, decide_eq_false hnt]; exact bO_s hye (by decide) (by decide) (by decide)) hoN)
end MO22
