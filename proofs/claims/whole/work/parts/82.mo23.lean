/-! the reference behind a backslash -/
theorem nuV_r (T : List Nat) (k : Nat) : wi (nuV T k) (-99999) 99999 = true := by
  have h := nuX_lt T k
  have a : (nI (nuX T k).2.2).toInt = (nuX T k).2.2 := nI_toInt (by omega)
  unfold nuV
  rw [wi_i, Int32.le_iff_toInt_le, Int32.le_iff_toInt_le]
  have e1 : (-99999 : Int32).toInt = -99999 := rfl
  have e2 : (99999 : Int32).toInt = 99999 := rfl
  split
  · have b : (- nI (nuX T k).2.2).toInt = - ((nuX T k).2.2 : Int) := by
      rw [Int32.toInt_neg, a]
      exact Int.bmod_eq_of_le (by omega) (by omega)
    rw [b, e1, e2]; omega
  · rw [a, e1, e2]; omega
section BB
variable {T : List Nat} {i th k : Nat} {b : Bool} {n fa me : Int32} {fr it en : Bool} {lv len code : Nat} {v : Nat → Nat} {nt : List (Nat → Nat)} {tb nm : List Nat} {L : List (Nat × Nat)} {ps : List (Nat × Nat × Nat)}
theorem bB_u : bBack T th b (i, fa, me, lv, fr, it, en, v, nt, tb, nm, L, ps) = (if smL (tc T (i + 1)) then bObey th b (wdW T i) (nuV T (wdT T i)) (nuD T (wdT T i)) (wdN T i, fa, me, lv, fr, it, en, v, nt, tb, nm, L, ps)
  else if tc T (i + 1) = 39 ∧ (hxC T (i + 2)).isSome then bLetter th ((hxC T (i + 2)).getD 0) 4 (i, fa, me, lv, fr, it, en, v, nt, tb, nm, L, ps)
  else if tc T (i + 1) = 123 ∨ tc T (i + 1) = 125 ∨ tc T (i + 1) = 92 then bLetter th (tc T (i + 1)) 2 (i, fa, me, lv, fr, it, en, v, nt, tb, nm, L, ps)
  else if tc T (i + 1) = 126 then bLetter th 160 2 (i, fa, me, lv, fr, it, en, v, nt, tb, nm, L, ps)
  else if tc T (i + 1) = 42 then bStar T b (i, fa, me, lv, fr, it, en, v, nt, tb, nm, L, ps)
  else (i, -4, nI th, lv, fr, it, en, v, nt, tb, nm, L, ps)) := rfl
theorem bL_u : bLetter th code len (i, fa, me, lv, fr, it, en, v, nt, tb, nm, L, ps) = (if lv ≠ 0 then (i + len, fa, me, lv - 1, fr, it, en, v, nt, tb, nm, L, ps) else if code < 32 then (i + len, -5, nI th, lv - 1, fr, it, en, v, nt, tb, nm, L, ps) else (i + len, fa, me, lv - 1, fr, it, en, v, nt, tb, nm, L ++ [(code, lkV v)], ps)) := rfl
theorem bS_u : bStar T b (i, fa, me, lv, fr, it, en, v, nt, tb, nm, L, ps) = (if lv ≠ 0 then (i + 2, fa, me, lv - 1, fr, it, en, v, nt, tb, nm, L, ps) else if b then (pgE T (T.length - (i + 2)) 0 (i + 2), fa, me, lv - 1, fr, it, en, v, nt, tb, nm, L, ps) else (i + 2, fa, me, lv - 1, fr, it, en, v, nt, tb, nm, L, ps)) := rfl
theorem bO_lv {w d : Nat} (h : lv ≠ 0) : bObey th b w n d (i, fa, me, lv, fr, it, en, v, nt, tb, nm, L, ps) = (i, fa, me, lv - 1, fr, it, en, v, nt, tb, nm, L, ps) := by
  rw [bO_u, if_pos h]
theorem hxC_s {x y : Nat} (h1 : hxV (tc T k) = some x) (h2 : hxV (tc T (k + 1)) = some y) : hxC T k = some (16 * x + y) := by
  unfold hxC
  rw [h1, h2]
theorem hxC_n (h : hxV (tc T k) = none ∨ hxV (tc T (k + 1)) = none) : hxC T k = none := by
  unfold hxC
  rcases h with h | h
  · rw [h]
  · rw [h]
    cases hxV (tc T k) <;> rfl
end BB
section MO23
variable {l : Launch} {G : bp_G} {H0 : Heap} {M : Nat → Nat} {h0 h : bp_H} {tw : Int32} {i : Nat} {fa : Int32} {fm : Int32} {tl : Int32} {lk : Nat} {al : Nat} {ind : Nat} {sk : Nat} {dp : Nat} {lv : Nat} {fr : Bool} {en : Nat} {nf : Nat} {nn : Nat} {dg : Nat} {nu : Int32} {kd : Nat} {pn : Int32} {pe : Nat} {T : List Nat} {xs : List Nat} {L : List (Nat × Nat)} {ps : List (Nat × Nat × Nat)} {L1 : List (Nat × Nat)} {p1 : List (Nat × Nat × Nat)} {nt : List (Nat → Nat)} {tb : List Nat} {fd : List Nat} {c s : Nat} {Q : Option Value → bp_H → Nat → Nat → Prop} {v : Nat → Nat} {j th : Nat} {b : Bool} {nm : List Nat}
set_option maxRecDepth 100000 in
set_option maxHeartbeats 4000000 in
theorem s_Mo_readBackslash  (hB0 : MoX M h0 h tw i 0 fm tl (mlV v) (v 3) (v 4) (v 5) nt.length lv false tb.length nf nn dg nu kd pn pe T xs L ps L1 p1 nt tb fd) (hT : okT T) (hok : okX T i lv false v nt tb nm L1 p1) (hi : i < T.length) (hnt : ¬ nt = []) (hQ : ∀ h', OUTB M h0 h' tw tl kd pn pe T xs L ps (bBack T i b (i, 0, -1, lv, false, false, false, v, nt, tb, nm, L1, p1)) i → Q none h' c s) : bp_AM l G H0 (5, 115, false, false) M_Mo_readBackslash h c s [.ref (M 0), .int (bI b)] Q := by
  refine bp_of (ls := [some (.ref (M 0)), some (.int (bI b)), none, none, none, none]) (by decide) dt_Mo_readBackslash (Nat.le_of_ble_eq_true rfl) (fun q hq => hq) false ?_
  have hT4 := hT.1
  have hV := hok.2.2.1
  have hlv := hok.2.1
  have htl := hok.2.2.2.2.2.1.1
  have htb := hok.2.2.2.2.2.1.2.2 rfl
  have hLi := hok.2.2.2.2.2.2.2.1
  have okp := hok.2.2.2.2.2.2.2.2
  have hp16 := okp.2.1
  have hends := okp.ends
  have hoN := okN_back (th := i) (b := b) (fa := 0) (me := -1) (fr := false) (en := false) hT hok hi
  refine bp_aload_n (q := 1) 0 rfl rfl rfl rfl ?_
  refine bp_getI (q := 4) (ci := 9) (j := 12) 1 rfl rfl fl_Mo_90_9 hB0.kb rfl ?_
  rw [hB0.i12]
  refine bp_istore_n (q := 5) 2 rfl rfl rfl (by decide) (bp_up2 rfl) ?_
  refine bp_aload_n (q := 6) 3 rfl rfl rfl rfl ?_
  refine bp_aload_n (q := 7) 4 rfl rfl rfl rfl ?_
  refine bp_getI (q := 10) (ci := 9) (j := 12) 5 rfl rfl fl_Mo_90_9 hB0.kb rfl ?_
  rw [hB0.i12]
  refine bp_iconst (v := 1) (q := 11) 6 rfl rfl (by decide) ?_
  refine bp_iadd (q := 12) 7 rfl rfl ?_
  rw [nI_1]
  refine bp_callV (q := 15) (ci := 9) 8 rfl rfl cw_Mo_charAt lk_Mo_83 rfl hB0.kb wd1445 wd43 rfl rfl (Nat.le_of_ble_eq_true rfl) ⟨Nat.le_of_ble_eq_true rfl, Nat.le_of_ble_eq_true rfl⟩ (s_Mo_charAt (ro := false) hB0 hT (by omega) ?_)
  refine bp_istore_n (q := 16) 9 rfl rfl rfl (by decide) (bp_up3 rfl) ?_
  refine bp_iload_n (q := 17) 10 rfl rfl rfl rfl ?_
  refine bp_callS (q := 20) 11 rfl rfl cw_Mo_small lk_Mo_162 wd1472 rfl rfl (Nat.le_of_ble_eq_true rfl) ⟨Nat.le_of_ble_eq_true rfl, Nat.le_of_ble_eq_true rfl⟩ (s_Mo_small (ro := false) (by have := tc_lt hT (i + 1); omega) ?_)
  refine bp_if_eq (q := 23) (tgt := 43) 12 rfl rfl (by decide) (fun z20 => ?_) (fun z20 => ?_)
  · refine bp_iload_n (q := 44) 23 rfl rfl rfl rfl ?_
    refine bp_bipush (v := 42) (q := 46) 24 rfl rfl (by decide) ?_
    refine bp_icmp_ne (q := 49) (tgt := 77) 25 rfl rfl (by decide) (fun z46 => ?_) (fun z46 => ?_)
    · refine bp_iload_n (q := 78) 40 rfl rfl rfl rfl ?_
      refine bp_bipush (v := 39) (q := 80) 41 rfl rfl (by decide) ?_
      refine bp_icmp_ne (q := 83) (tgt := 199) 42 rfl rfl (by decide) (fun z80 => ?_) (fun z80 => ?_)
      · refine bp_aload_n (q := 200) 104 rfl rfl rfl rfl ?_
        refine bp_iload_n (q := 201) 105 rfl rfl rfl rfl ?_
        refine bp_bipush (v := 123) (q := 203) 106 rfl rfl (by decide) ?_
        refine bp_icmp_eq (q := 206) (tgt := 228) 107 rfl rfl (by decide) (fun z203 => ?_) (fun z203 => ?_)
        · refine bp_iconst (v := 0) (q := 229) 119 rfl rfl (by decide) ?_
          refine bp_bipush (v := -4) (q := 231) 120 rfl rfl (by decide) ?_
          refine bp_iload_n (q := 232) 121 rfl rfl rfl rfl ?_
          refine bp_callV (q := 235) (ci := 9) 122 rfl rfl cw_Mo_failIf lk_Mo_118 rfl hB0.kb wd1449 wd44 rfl rfl (Nat.le_of_ble_eq_true rfl) ⟨Nat.le_of_ble_eq_true rfl, Nat.le_of_ble_eq_true rfl⟩ (s_Mo_failIfN hB0 rfl ?_)
          refine bp_aload_n (q := 236) 123 rfl rfl rfl rfl ?_
          refine bp_dup (q := 237) 124 rfl rfl rfl ?_
          refine bp_getI (q := 240) (ci := 9) (j := 12) 125 rfl rfl fl_Mo_90_9 hB0.kb rfl ?_
          rw [hB0.i12]
          refine bp_iconst (v := 2) (q := 241) 126 rfl rfl (by decide) ?_
          refine bp_iadd (q := 242) 127 rfl rfl ?_
          refine bp_putI (q := 245) (ci := 9) (j := 12) 128 rfl rfl fl_Mo_90_9 cl9 hB0.kb (fun r hr => by cases hr; rfl) (by decide) rfl rfl ?_
          refine bp_nx (X := fun h1 => MoX M h0 h1 tw (i + 2) 0 fm tl (mlV v) (v 3) (v 4) (v 5) nt.length lv false tb.length nf nn dg nu kd pn pe T xs L ps L1 p1 nt tb fd) (hB0.s12 (nI_add i 2)) (fun h1 hB1 => ?_)
          refine bp_aload_n (q := 246) 129 rfl rfl rfl rfl ?_
          refine bp_getI (q := 249) (ci := 9) (j := 13) 130 rfl rfl fl_Mo_69_9 hB1.kb rfl ?_
          rw [hB1.i13]
          refine bp_if_ne (q := 252) (tgt := 276) 131 rfl rfl (by decide) (fun z => absurd z (by decide)) (fun z249 => ?_)
          refine bp_aload_n (q := 253) 132 rfl rfl rfl rfl ?_
          refine bp_callV (q := 256) (ci := 9) 133 rfl rfl cw_Mo_leftOut lk_Mo_150 rfl hB1.kb wd1483 wd51 rfl rfl (Nat.le_of_ble_eq_true rfl) ⟨Nat.le_of_ble_eq_true rfl, Nat.le_of_ble_eq_true rfl⟩ (s_Mo_leftOut hB1 (by omega) (fun h2 hB2 => ?_))
          refine bp_if_ne (q := 259) (tgt := 276) 134 rfl rfl (by decide) (fun z256 => ?_) (fun z256 => ?_)
          · refine bp_vret 143 rfl rfl  ⟨_, rfl, ?_⟩
            have ns : ¬ smL (tc T (i + 1)) = true := by rw [bI0.mp z20]; decide
            have y42 : ¬ tc T (i + 1) = 42 := (fun e => z46 (by rw [e]; rfl))
            have y39 : ¬ tc T (i + 1) = 39 := (fun e => z80 (by rw [e]; rfl))
            have y123 := (nI_eq_iff (a := tc T (i + 1)) (b := 123) (by have := tc_lt hT (i + 1); omega) (by decide)).mp (by first | exact z203 | exact Classical.not_not.mp z203)
            have e8 : (bBack T i b (i, 0, -1, lv, false, false, false, v, nt, tb, nm, L1, p1)) = bLetter i (tc T (i + 1)) 2 (i, 0, -1, lv, false, false, false, v, nt, tb, nm, L1, p1) := by rw [bB_u, if_neg ns, if_neg (fun z => y39 z.1), if_pos (by omega)]
            have y256 : lv ≠ 0 := of_decide_eq_true (bI1 z256)
            exact hQ _ (OUTB.ok (v := v) (nm := nm) hB2 (by rw [decide_eq_false hnt]; exact e8.trans (bL_u.trans (if_pos y256))) hoN)
          · refine bp_aload_n (q := 260) 135 rfl rfl rfl rfl ?_
            refine bp_iload_n (q := 261) 136 rfl rfl rfl rfl ?_
            refine bp_bipush (v := 126) (q := 263) 137 rfl rfl (by decide) ?_
            refine bp_icmp_ne (q := 266) (tgt := 272) 138 rfl rfl (by decide) (fun z263 => ?_) (fun z263 => ?_)
            · refine bp_iload_n (q := 273) 141 rfl rfl rfl rfl ?_
              refine bp_callV (q := 276) (ci := 9) 142 rfl rfl cw_Mo_braceLetter lk_Mo_154 rfl hB2.kb wd1519 wd56 rfl rfl (Nat.le_of_ble_eq_true rfl) ⟨Nat.le_of_ble_eq_true rfl, Nat.le_of_ble_eq_true rfl⟩ (s_Mo_braceLetter (u := tc T (i + 1)) (y := lkV v) hB2 (mlV_cm hV) (by omega) hends (fun h3 hB3 => ?_))
              refine bp_vret 143 rfl rfl  ⟨_, rfl, ?_⟩
              have ns : ¬ smL (tc T (i + 1)) = true := by rw [bI0.mp z20]; decide
              have y42 : ¬ tc T (i + 1) = 42 := (fun e => z46 (by rw [e]; rfl))
              have y39 : ¬ tc T (i + 1) = 39 := (fun e => z80 (by rw [e]; rfl))
              have y123 := (nI_eq_iff (a := tc T (i + 1)) (b := 123) (by have := tc_lt hT (i + 1); omega) (by decide)).mp (by first | exact z203 | exact Classical.not_not.mp z203)
              have e8 : (bBack T i b (i, 0, -1, lv, false, false, false, v, nt, tb, nm, L1, p1)) = bLetter i (tc T (i + 1)) 2 (i, 0, -1, lv, false, false, false, v, nt, tb, nm, L1, p1) := by rw [bB_u, if_neg ns, if_neg (fun z => y39 z.1), if_pos (by omega)]
              have y256 : ¬ lv ≠ 0 := of_decide_eq_false (bI0.mp (by first | exact z256 | exact Classical.not_not.mp z256))
              exact hQ _ (OUTB.ok (v := v) (nm := nm) hB3 (by rw [decide_eq_false hnt]; exact e8.trans (bL_u.trans ((if_neg y256).trans (if_neg (by omega))))) hoN)
            · refine bp_sipush (v := 160) (q := 269) 139 rfl rfl (by decide) ?_
              refine bp_goto (tgt := 273) 140 rfl (by decide) ?_
              refine bp_callV (q := 276) (ci := 9) 142 rfl rfl cw_Mo_braceLetter lk_Mo_154 rfl hB2.kb wd1519 wd56 rfl rfl (Nat.le_of_ble_eq_true rfl) ⟨Nat.le_of_ble_eq_true rfl, Nat.le_of_ble_eq_true rfl⟩ (s_Mo_braceLetter (u := 160) (y := lkV v) hB2 (mlV_cm hV) (by omega) hends (fun h3 hB3 => ?_))
              refine bp_vret 143 rfl rfl  ⟨_, rfl, ?_⟩
              have ns : ¬ smL (tc T (i + 1)) = true := by rw [bI0.mp z20]; decide
              have y42 : ¬ tc T (i + 1) = 42 := (fun e => z46 (by rw [e]; rfl))
              have y39 : ¬ tc T (i + 1) = 39 := (fun e => z80 (by rw [e]; rfl))
              have y123 := (nI_eq_iff (a := tc T (i + 1)) (b := 123) (by have := tc_lt hT (i + 1); omega) (by decide)).mp (by first | exact z203 | exact Classical.not_not.mp z203)
              have e8 : (bBack T i b (i, 0, -1, lv, false, false, false, v, nt, tb, nm, L1, p1)) = bLetter i (tc T (i + 1)) 2 (i, 0, -1, lv, false, false, false, v, nt, tb, nm, L1, p1) := by rw [bB_u, if_neg ns, if_neg (fun z => y39 z.1), if_pos (by omega)]
              have y256 : ¬ lv ≠ 0 := of_decide_eq_false (bI0.mp (by first | exact z256 | exact Classical.not_not.mp z256))
              have y126 := (nI_eq_iff (a := tc T (i + 1)) (b := 126) (by have := tc_lt hT (i + 1); omega) (by decide)).mp (by first | exact z263 | exact Classical.not_not.mp z263)
              omega
        · refine bp_iload_n (q := 207) 108 rfl rfl rfl rfl ?_
          refine bp_bipush (v := 125) (q := 209) 109 rfl rfl (by decide) ?_
          refine bp_icmp_eq (q := 212) (tgt := 228) 110 rfl rfl (by decide) (fun z209 => ?_) (fun z209 => ?_)
          · refine bp_iconst (v := 0) (q := 229) 119 rfl rfl (by decide) ?_
            refine bp_bipush (v := -4) (q := 231) 120 rfl rfl (by decide) ?_
            refine bp_iload_n (q := 232) 121 rfl rfl rfl rfl ?_
            refine bp_callV (q := 235) (ci := 9) 122 rfl rfl cw_Mo_failIf lk_Mo_118 rfl hB0.kb wd1449 wd44 rfl rfl (Nat.le_of_ble_eq_true rfl) ⟨Nat.le_of_ble_eq_true rfl, Nat.le_of_ble_eq_true rfl⟩ (s_Mo_failIfN hB0 rfl ?_)
            refine bp_aload_n (q := 236) 123 rfl rfl rfl rfl ?_
            refine bp_dup (q := 237) 124 rfl rfl rfl ?_
            refine bp_getI (q := 240) (ci := 9) (j := 12) 125 rfl rfl fl_Mo_90_9 hB0.kb rfl ?_
            rw [hB0.i12]
            refine bp_iconst (v := 2) (q := 241) 126 rfl rfl (by decide) ?_
            refine bp_iadd (q := 242) 127 rfl rfl ?_
            refine bp_putI (q := 245) (ci := 9) (j := 12) 128 rfl rfl fl_Mo_90_9 cl9 hB0.kb (fun r hr => by cases hr; rfl) (by decide) rfl rfl ?_
            refine bp_nx (X := fun h1 => MoX M h0 h1 tw (i + 2) 0 fm tl (mlV v) (v 3) (v 4) (v 5) nt.length lv false tb.length nf nn dg nu kd pn pe T xs L ps L1 p1 nt tb fd) (hB0.s12 (nI_add i 2)) (fun h1 hB1 => ?_)
            refine bp_aload_n (q := 246) 129 rfl rfl rfl rfl ?_
            refine bp_getI (q := 249) (ci := 9) (j := 13) 130 rfl rfl fl_Mo_69_9 hB1.kb rfl ?_
            rw [hB1.i13]
            refine bp_if_ne (q := 252) (tgt := 276) 131 rfl rfl (by decide) (fun z => absurd z (by decide)) (fun z249 => ?_)
            refine bp_aload_n (q := 253) 132 rfl rfl rfl rfl ?_
            refine bp_callV (q := 256) (ci := 9) 133 rfl rfl cw_Mo_leftOut lk_Mo_150 rfl hB1.kb wd1483 wd51 rfl rfl (Nat.le_of_ble_eq_true rfl) ⟨Nat.le_of_ble_eq_true rfl, Nat.le_of_ble_eq_true rfl⟩ (s_Mo_leftOut hB1 (by omega) (fun h2 hB2 => ?_))
            refine bp_if_ne (q := 259) (tgt := 276) 134 rfl rfl (by decide) (fun z256 => ?_) (fun z256 => ?_)
            · refine bp_vret 143 rfl rfl  ⟨_, rfl, ?_⟩
              have ns : ¬ smL (tc T (i + 1)) = true := by rw [bI0.mp z20]; decide
              have y42 : ¬ tc T (i + 1) = 42 := (fun e => z46 (by rw [e]; rfl))
              have y39 : ¬ tc T (i + 1) = 39 := (fun e => z80 (by rw [e]; rfl))
              have y123 : ¬ tc T (i + 1) = 123 := (fun e => z203 (by rw [e]; rfl))
              have y125 := (nI_eq_iff (a := tc T (i + 1)) (b := 125) (by have := tc_lt hT (i + 1); omega) (by decide)).mp (by first | exact z209 | exact Classical.not_not.mp z209)
              have e8 : (bBack T i b (i, 0, -1, lv, false, false, false, v, nt, tb, nm, L1, p1)) = bLetter i (tc T (i + 1)) 2 (i, 0, -1, lv, false, false, false, v, nt, tb, nm, L1, p1) := by rw [bB_u, if_neg ns, if_neg (fun z => y39 z.1), if_pos (by omega)]
              have y256 : lv ≠ 0 := of_decide_eq_true (bI1 z256)
              exact hQ _ (OUTB.ok (v := v) (nm := nm) hB2 (by rw [decide_eq_false hnt]; exact e8.trans (bL_u.trans (if_pos y256))) hoN)
            · refine bp_aload_n (q := 260) 135 rfl rfl rfl rfl ?_
              refine bp_iload_n (q := 261) 136 rfl rfl rfl rfl ?_
              refine bp_bipush (v := 126) (q := 263) 137 rfl rfl (by decide) ?_
              refine bp_icmp_ne (q := 266) (tgt := 272) 138 rfl rfl (by decide) (fun z263 => ?_) (fun z263 => ?_)
              · refine bp_iload_n (q := 273) 141 rfl rfl rfl rfl ?_
                refine bp_callV (q := 276) (ci := 9) 142 rfl rfl cw_Mo_braceLetter lk_Mo_154 rfl hB2.kb wd1519 wd56 rfl rfl (Nat.le_of_ble_eq_true rfl) ⟨Nat.le_of_ble_eq_true rfl, Nat.le_of_ble_eq_true rfl⟩ (s_Mo_braceLetter (u := tc T (i + 1)) (y := lkV v) hB2 (mlV_cm hV) (by omega) hends (fun h3 hB3 => ?_))
                refine bp_vret 143 rfl rfl  ⟨_, rfl, ?_⟩
                have ns : ¬ smL (tc T (i + 1)) = true := by rw [bI0.mp z20]; decide
                have y42 : ¬ tc T (i + 1) = 42 := (fun e => z46 (by rw [e]; rfl))
                have y39 : ¬ tc T (i + 1) = 39 := (fun e => z80 (by rw [e]; rfl))
                have y123 : ¬ tc T (i + 1) = 123 := (fun e => z203 (by rw [e]; rfl))
                have y125 := (nI_eq_iff (a := tc T (i + 1)) (b := 125) (by have := tc_lt hT (i + 1); omega) (by decide)).mp (by first | exact z209 | exact Classical.not_not.mp z209)
                have e8 : (bBack T i b (i, 0, -1, lv, false, false, false, v, nt, tb, nm, L1, p1)) = bLetter i (tc T (i + 1)) 2 (i, 0, -1, lv, false, false, false, v, nt, tb, nm, L1, p1) := by rw [bB_u, if_neg ns, if_neg (fun z => y39 z.1), if_pos (by omega)]
                have y256 : ¬ lv ≠ 0 := of_decide_eq_false (bI0.mp (by first | exact z256 | exact Classical.not_not.mp z256))
                exact hQ _ (OUTB.ok (v := v) (nm := nm) hB3 (by rw [decide_eq_false hnt]; exact e8.trans (bL_u.trans ((if_neg y256).trans (if_neg (by omega))))) hoN)
              · refine bp_sipush (v := 160) (q := 269) 139 rfl rfl (by decide) ?_
                refine bp_goto (tgt := 273) 140 rfl (by decide) ?_
                refine bp_callV (q := 276) (ci := 9) 142 rfl rfl cw_Mo_braceLetter lk_Mo_154 rfl hB2.kb wd1519 wd56 rfl rfl (Nat.le_of_ble_eq_true rfl) ⟨Nat.le_of_ble_eq_true rfl, Nat.le_of_ble_eq_true rfl⟩ (s_Mo_braceLetter (u := 160) (y := lkV v) hB2 (mlV_cm hV) (by omega) hends (fun h3 hB3 => ?_))
                refine bp_vret 143 rfl rfl  ⟨_, rfl, ?_⟩
                have ns : ¬ smL (tc T (i + 1)) = true := by rw [bI0.mp z20]; decide
                have y42 : ¬ tc T (i + 1) = 42 := (fun e => z46 (by rw [e]; rfl))
                have y39 : ¬ tc T (i + 1) = 39 := (fun e => z80 (by rw [e]; rfl))
                have y123 : ¬ tc T (i + 1) = 123 := (fun e => z203 (by rw [e]; rfl))
                have y125 := (nI_eq_iff (a := tc T (i + 1)) (b := 125) (by have := tc_lt hT (i + 1); omega) (by decide)).mp (by first | exact z209 | exact Classical.not_not.mp z209)
                have e8 : (bBack T i b (i, 0, -1, lv, false, false, false, v, nt, tb, nm, L1, p1)) = bLetter i (tc T (i + 1)) 2 (i, 0, -1, lv, false, false, false, v, nt, tb, nm, L1, p1) := by rw [bB_u, if_neg ns, if_neg (fun z => y39 z.1), if_pos (by omega)]
                have y256 : ¬ lv ≠ 0 := of_decide_eq_false (bI0.mp (by first | exact z256 | exact Classical.not_not.mp z256))
                have y126 := (nI_eq_iff (a := tc T (i + 1)) (b := 126) (by have := tc_lt hT (i + 1); omega) (by decide)).mp (by first | exact z263 | exact Classical.not_not.mp z263)
                omega
          · refine bp_iload_n (q := 213) 111 rfl rfl rfl rfl ?_
            refine bp_bipush (v := 92) (q := 215) 112 rfl rfl (by decide) ?_
            refine bp_icmp_eq (q := 218) (tgt := 228) 113 rfl rfl (by decide) (fun z215 => ?_) (fun z215 => ?_)
            · refine bp_iconst (v := 0) (q := 229) 119 rfl rfl (by decide) ?_
              refine bp_bipush (v := -4) (q := 231) 120 rfl rfl (by decide) ?_
              refine bp_iload_n (q := 232) 121 rfl rfl rfl rfl ?_
              refine bp_callV (q := 235) (ci := 9) 122 rfl rfl cw_Mo_failIf lk_Mo_118 rfl hB0.kb wd1449 wd44 rfl rfl (Nat.le_of_ble_eq_true rfl) ⟨Nat.le_of_ble_eq_true rfl, Nat.le_of_ble_eq_true rfl⟩ (s_Mo_failIfN hB0 rfl ?_)
              refine bp_aload_n (q := 236) 123 rfl rfl rfl rfl ?_
              refine bp_dup (q := 237) 124 rfl rfl rfl ?_
              refine bp_getI (q := 240) (ci := 9) (j := 12) 125 rfl rfl fl_Mo_90_9 hB0.kb rfl ?_
              rw [hB0.i12]
              refine bp_iconst (v := 2) (q := 241) 126 rfl rfl (by decide) ?_
              refine bp_iadd (q := 242) 127 rfl rfl ?_
              refine bp_putI (q := 245) (ci := 9) (j := 12) 128 rfl rfl fl_Mo_90_9 cl9 hB0.kb (fun r hr => by cases hr; rfl) (by decide) rfl rfl ?_
              refine bp_nx (X := fun h1 => MoX M h0 h1 tw (i + 2) 0 fm tl (mlV v) (v 3) (v 4) (v 5) nt.length lv false tb.length nf nn dg nu kd pn pe T xs L ps L1 p1 nt tb fd) (hB0.s12 (nI_add i 2)) (fun h1 hB1 => ?_)
              refine bp_aload_n (q := 246) 129 rfl rfl rfl rfl ?_
              refine bp_getI (q := 249) (ci := 9) (j := 13) 130 rfl rfl fl_Mo_69_9 hB1.kb rfl ?_
              rw [hB1.i13]
              refine bp_if_ne (q := 252) (tgt := 276) 131 rfl rfl (by decide) (fun z => absurd z (by decide)) (fun z249 => ?_)
              refine bp_aload_n (q := 253) 132 rfl rfl rfl rfl ?_
              refine bp_callV (q := 256) (ci := 9) 133 rfl rfl cw_Mo_leftOut lk_Mo_150 rfl hB1.kb wd1483 wd51 rfl rfl (Nat.le_of_ble_eq_true rfl) ⟨Nat.le_of_ble_eq_true rfl, Nat.le_of_ble_eq_true rfl⟩ (s_Mo_leftOut hB1 (by omega) (fun h2 hB2 => ?_))
              refine bp_if_ne (q := 259) (tgt := 276) 134 rfl rfl (by decide) (fun z256 => ?_) (fun z256 => ?_)
              · refine bp_vret 143 rfl rfl  ⟨_, rfl, ?_⟩
                have ns : ¬ smL (tc T (i + 1)) = true := by rw [bI0.mp z20]; decide
                have y42 : ¬ tc T (i + 1) = 42 := (fun e => z46 (by rw [e]; rfl))
                have y39 : ¬ tc T (i + 1) = 39 := (fun e => z80 (by rw [e]; rfl))
                have y123 : ¬ tc T (i + 1) = 123 := (fun e => z203 (by rw [e]; rfl))
                have y125 : ¬ tc T (i + 1) = 125 := (fun e => z209 (by rw [e]; rfl))
                have y92 := (nI_eq_iff (a := tc T (i + 1)) (b := 92) (by have := tc_lt hT (i + 1); omega) (by decide)).mp (by first | exact z215 | exact Classical.not_not.mp z215)
                have e8 : (bBack T i b (i, 0, -1, lv, false, false, false, v, nt, tb, nm, L1, p1)) = bLetter i (tc T (i + 1)) 2 (i, 0, -1, lv, false, false, false, v, nt, tb, nm, L1, p1) := by rw [bB_u, if_neg ns, if_neg (fun z => y39 z.1), if_pos (by omega)]
                have y256 : lv ≠ 0 := of_decide_eq_true (bI1 z256)
                exact hQ _ (OUTB.ok (v := v) (nm := nm) hB2 (by rw [decide_eq_false hnt]; exact e8.trans (bL_u.trans (if_pos y256))) hoN)
              · refine bp_aload_n (q := 260) 135 rfl rfl rfl rfl ?_
                refine bp_iload_n (q := 261) 136 rfl rfl rfl rfl ?_
                refine bp_bipush (v := 126) (q := 263) 137 rfl rfl (by decide) ?_
                refine bp_icmp_ne (q := 266) (tgt := 272) 138 rfl rfl (by decide) (fun z263 => ?_) (fun z263 => ?_)
                · refine bp_iload_n (q := 273) 141 rfl rfl rfl rfl ?_
                  refine bp_callV (q := 276) (ci := 9) 142 rfl rfl cw_Mo_braceLetter lk_Mo_154 rfl hB2.kb wd1519 wd56 rfl rfl (Nat.le_of_ble_eq_true rfl) ⟨Nat.le_of_ble_eq_true rfl, Nat.le_of_ble_eq_true rfl⟩ (s_Mo_braceLetter (u := tc T (i + 1)) (y := lkV v) hB2 (mlV_cm hV) (by omega) hends (fun h3 hB3 => ?_))
                  refine bp_vret 143 rfl rfl  ⟨_, rfl, ?_⟩
                  have ns : ¬ smL (tc T (i + 1)) = true := by rw [bI0.mp z20]; decide
                  have y42 : ¬ tc T (i + 1) = 42 := (fun e => z46 (by rw [e]; rfl))
                  have y39 : ¬ tc T (i + 1) = 39 := (fun e => z80 (by rw [e]; rfl))
                  have y123 : ¬ tc T (i + 1) = 123 := (fun e => z203 (by rw [e]; rfl))
                  have y125 : ¬ tc T (i + 1) = 125 := (fun e => z209 (by rw [e]; rfl))
                  have y92 := (nI_eq_iff (a := tc T (i + 1)) (b := 92) (by have := tc_lt hT (i + 1); omega) (by decide)).mp (by first | exact z215 | exact Classical.not_not.mp z215)
                  have e8 : (bBack T i b (i, 0, -1, lv, false, false, false, v, nt, tb, nm, L1, p1)) = bLetter i (tc T (i + 1)) 2 (i, 0, -1, lv, false, false, false, v, nt, tb, nm, L1, p1) := by rw [bB_u, if_neg ns, if_neg (fun z => y39 z.1), if_pos (by omega)]
                  have y256 : ¬ lv ≠ 0 := of_decide_eq_false (bI0.mp (by first | exact z256 | exact Classical.not_not.mp z256))
                  exact hQ _ (OUTB.ok (v := v) (nm := nm) hB3 (by rw [decide_eq_false hnt]; exact e8.trans (bL_u.trans ((if_neg y256).trans (if_neg (by omega))))) hoN)
                · refine bp_sipush (v := 160) (q := 269) 139 rfl rfl (by decide) ?_
                  refine bp_goto (tgt := 273) 140 rfl (by decide) ?_
                  refine bp_callV (q := 276) (ci := 9) 142 rfl rfl cw_Mo_braceLetter lk_Mo_154 rfl hB2.kb wd1519 wd56 rfl rfl (Nat.le_of_ble_eq_true rfl) ⟨Nat.le_of_ble_eq_true rfl, Nat.le_of_ble_eq_true rfl⟩ (s_Mo_braceLetter (u := 160) (y := lkV v) hB2 (mlV_cm hV) (by omega) hends (fun h3 hB3 => ?_))
                  refine bp_vret 143 rfl rfl  ⟨_, rfl, ?_⟩
                  have ns : ¬ smL (tc T (i + 1)) = true := by rw [bI0.mp z20]; decide
                  have y42 : ¬ tc T (i + 1) = 42 := (fun e => z46 (by rw [e]; rfl))
                  have y39 : ¬ tc T (i + 1) = 39 := (fun e => z80 (by rw [e]; rfl))
                  have y123 : ¬ tc T (i + 1) = 123 := (fun e => z203 (by rw [e]; rfl))
                  have y125 : ¬ tc T (i + 1) = 125 := (fun e => z209 (by rw [e]; rfl))
                  have y92 := (nI_eq_iff (a := tc T (i + 1)) (b := 92) (by have := tc_lt hT (i + 1); omega) (by decide)).mp (by first | exact z215 | exact Classical.not_not.mp z215)
                  have e8 : (bBack T i b (i, 0, -1, lv, false, false, false, v, nt, tb, nm, L1, p1)) = bLetter i (tc T (i + 1)) 2 (i, 0, -1, lv, false, false, false, v, nt, tb, nm, L1, p1) := by rw [bB_u, if_neg ns, if_neg (fun z => y39 z.1), if_pos (by omega)]
                  have y256 : ¬ lv ≠ 0 := of_decide_eq_false (bI0.mp (by first | exact z256 | exact Classical.not_not.mp z256))
                  have y126 := (nI_eq_iff (a := tc T (i + 1)) (b := 126) (by have := tc_lt hT (i + 1); omega) (by decide)).mp (by first | exact z263 | exact Classical.not_not.mp z263)
                  omega
            · refine bp_iload_n (q := 219) 114 rfl rfl rfl rfl ?_
              refine bp_bipush (v := 126) (q := 221) 115 rfl rfl (by decide) ?_
              refine bp_icmp_eq (q := 224) (tgt := 228) 116 rfl rfl (by decide) (fun z221 => ?_) (fun z221 => ?_)
              · refine bp_iconst (v := 0) (q := 229) 119 rfl rfl (by decide) ?_
                refine bp_bipush (v := -4) (q := 231) 120 rfl rfl (by decide) ?_
                refine bp_iload_n (q := 232) 121 rfl rfl rfl rfl ?_
                refine bp_callV (q := 235) (ci := 9) 122 rfl rfl cw_Mo_failIf lk_Mo_118 rfl hB0.kb wd1449 wd44 rfl rfl (Nat.le_of_ble_eq_true rfl) ⟨Nat.le_of_ble_eq_true rfl, Nat.le_of_ble_eq_true rfl⟩ (s_Mo_failIfN hB0 rfl ?_)
                refine bp_aload_n (q := 236) 123 rfl rfl rfl rfl ?_
                refine bp_dup (q := 237) 124 rfl rfl rfl ?_
                refine bp_getI (q := 240) (ci := 9) (j := 12) 125 rfl rfl fl_Mo_90_9 hB0.kb rfl ?_
                rw [hB0.i12]
                refine bp_iconst (v := 2) (q := 241) 126 rfl rfl (by decide) ?_
                refine bp_iadd (q := 242) 127 rfl rfl ?_
                refine bp_putI (q := 245) (ci := 9) (j := 12) 128 rfl rfl fl_Mo_90_9 cl9 hB0.kb (fun r hr => by cases hr; rfl) (by decide) rfl rfl ?_
                refine bp_nx (X := fun h1 => MoX M h0 h1 tw (i + 2) 0 fm tl (mlV v) (v 3) (v 4) (v 5) nt.length lv false tb.length nf nn dg nu kd pn pe T xs L ps L1 p1 nt tb fd) (hB0.s12 (nI_add i 2)) (fun h1 hB1 => ?_)
                refine bp_aload_n (q := 246) 129 rfl rfl rfl rfl ?_
                refine bp_getI (q := 249) (ci := 9) (j := 13) 130 rfl rfl fl_Mo_69_9 hB1.kb rfl ?_
                rw [hB1.i13]
                refine bp_if_ne (q := 252) (tgt := 276) 131 rfl rfl (by decide) (fun z => absurd z (by decide)) (fun z249 => ?_)
                refine bp_aload_n (q := 253) 132 rfl rfl rfl rfl ?_
                refine bp_callV (q := 256) (ci := 9) 133 rfl rfl cw_Mo_leftOut lk_Mo_150 rfl hB1.kb wd1483 wd51 rfl rfl (Nat.le_of_ble_eq_true rfl) ⟨Nat.le_of_ble_eq_true rfl, Nat.le_of_ble_eq_true rfl⟩ (s_Mo_leftOut hB1 (by omega) (fun h2 hB2 => ?_))
                refine bp_if_ne (q := 259) (tgt := 276) 134 rfl rfl (by decide) (fun z256 => ?_) (fun z256 => ?_)
                · refine bp_vret 143 rfl rfl  ⟨_, rfl, ?_⟩
                  have ns : ¬ smL (tc T (i + 1)) = true := by rw [bI0.mp z20]; decide
                  have y42 : ¬ tc T (i + 1) = 42 := (fun e => z46 (by rw [e]; rfl))
                  have y39 : ¬ tc T (i + 1) = 39 := (fun e => z80 (by rw [e]; rfl))
                  have y123 : ¬ tc T (i + 1) = 123 := (fun e => z203 (by rw [e]; rfl))
                  have y125 : ¬ tc T (i + 1) = 125 := (fun e => z209 (by rw [e]; rfl))
                  have y92 : ¬ tc T (i + 1) = 92 := (fun e => z215 (by rw [e]; rfl))
                  have y126 := (nI_eq_iff (a := tc T (i + 1)) (b := 126) (by have := tc_lt hT (i + 1); omega) (by decide)).mp (by first | exact z221 | exact Classical.not_not.mp z221)
                  have e8 : (bBack T i b (i, 0, -1, lv, false, false, false, v, nt, tb, nm, L1, p1)) = bLetter i 160 2 (i, 0, -1, lv, false, false, false, v, nt, tb, nm, L1, p1) := by rw [bB_u, if_neg ns, if_neg (fun z => y39 z.1), if_neg (by omega), if_pos y126]
                  have y256 : lv ≠ 0 := of_decide_eq_true (bI1 z256)
                  exact hQ _ (OUTB.ok (v := v) (nm := nm) hB2 (by rw [decide_eq_false hnt]; exact e8.trans (bL_u.trans (if_pos y256))) hoN)
                · refine bp_aload_n (q := 260) 135 rfl rfl rfl rfl ?_
                  refine bp_iload_n (q := 261) 136 rfl rfl rfl rfl ?_
                  refine bp_bipush (v := 126) (q := 263) 137 rfl rfl (by decide) ?_
                  refine bp_icmp_ne (q := 266) (tgt := 272) 138 rfl rfl (by decide) (fun z263 => ?_) (fun z263 => ?_)
                  · refine bp_iload_n (q := 273) 141 rfl rfl rfl rfl ?_
                    refine bp_callV (q := 276) (ci := 9) 142 rfl rfl cw_Mo_braceLetter lk_Mo_154 rfl hB2.kb wd1519 wd56 rfl rfl (Nat.le_of_ble_eq_true rfl) ⟨Nat.le_of_ble_eq_true rfl, Nat.le_of_ble_eq_true rfl⟩ (s_Mo_braceLetter (u := tc T (i + 1)) (y := lkV v) hB2 (mlV_cm hV) (by omega) hends (fun h3 hB3 => ?_))
                    refine bp_vret 143 rfl rfl  ⟨_, rfl, ?_⟩
                    have y126 := (nI_eq_iff (a := tc T (i + 1)) (b := 126) (by have := tc_lt hT (i + 1); omega) (by decide)).mp (by first | exact z221 | exact Classical.not_not.mp z221)
                    exact absurd (by rw [y126]; rfl) z263
                  · refine bp_sipush (v := 160) (q := 269) 139 rfl rfl (by decide) ?_
                    refine bp_goto (tgt := 273) 140 rfl (by decide) ?_
                    refine bp_callV (q := 276) (ci := 9) 142 rfl rfl cw_Mo_braceLetter lk_Mo_154 rfl hB2.kb wd1519 wd56 rfl rfl (Nat.le_of_ble_eq_true rfl) ⟨Nat.le_of_ble_eq_true rfl, Nat.le_of_ble_eq_true rfl⟩ (s_Mo_braceLetter (u := 160) (y := lkV v) hB2 (mlV_cm hV) (by omega) hends (fun h3 hB3 => ?_))
                    refine bp_vret 143 rfl rfl  ⟨_, rfl, ?_⟩
                    have ns : ¬ smL (tc T (i + 1)) = true := by rw [bI0.mp z20]; decide
                    have y42 : ¬ tc T (i + 1) = 42 := (fun e => z46 (by rw [e]; rfl))
                    have y39 : ¬ tc T (i + 1) = 39 := (fun e => z80 (by rw [e]; rfl))
                    have y123 : ¬ tc T (i + 1) = 123 := (fun e => z203 (by rw [e]; rfl))
                    have y125 : ¬ tc T (i + 1) = 125 := (fun e => z209 (by rw [e]; rfl))
                    have y92 : ¬ tc T (i + 1) = 92 := (fun e => z215 (by rw [e]; rfl))
                    have y126 := (nI_eq_iff (a := tc T (i + 1)) (b := 126) (by have := tc_lt hT (i + 1); omega) (by decide)).mp (by first | exact z221 | exact Classical.not_not.mp z221)
                    have e8 : (bBack T i b (i, 0, -1, lv, false, false, false, v, nt, tb, nm, L1, p1)) = bLetter i 160 2 (i, 0, -1, lv, false, false, false, v, nt, tb, nm, L1, p1) := by rw [bB_u, if_neg ns, if_neg (fun z => y39 z.1), if_neg (by omega), if_pos y126]
                    have y256 : ¬ lv ≠ 0 := of_decide_eq_false (bI0.mp (by first | exact z256 | exact Classical.not_not.mp z256))
                    exact hQ _ (OUTB.ok (v := v) (nm := nm) hB3 (by rw [decide_eq_false hnt]; exact e8.trans (bL_u.trans ((if_neg y256).trans (if_neg (by omega))))) hoN)
              · refine bp_iconst (v := 1) (q := 225) 117 rfl rfl (by decide) ?_
                refine bp_goto (tgt := 229) 118 rfl (by decide) ?_
                refine bp_bipush (v := -4) (q := 231) 120 rfl rfl (by decide) ?_
                refine bp_iload_n (q := 232) 121 rfl rfl rfl rfl ?_
                refine bp_callV (q := 235) (ci := 9) 122 rfl rfl cw_Mo_failIf lk_Mo_118 rfl hB0.kb wd1449 wd44 rfl rfl (Nat.le_of_ble_eq_true rfl) ⟨Nat.le_of_ble_eq_true rfl, Nat.le_of_ble_eq_true rfl⟩ (s_Mo_failIf0 hB0 (by decide) rfl (fun h1 hB1 => ?_))
                refine bp_aload_n (q := 236) 123 rfl rfl rfl rfl ?_
                refine bp_dup (q := 237) 124 rfl rfl rfl ?_
                refine bp_getI (q := 240) (ci := 9) (j := 12) 125 rfl rfl fl_Mo_90_9 hB1.kb rfl ?_
                rw [hB1.i12]
                refine bp_iconst (v := 2) (q := 241) 126 rfl rfl (by decide) ?_
                refine bp_iadd (q := 242) 127 rfl rfl ?_
                refine bp_putI (q := 245) (ci := 9) (j := 12) 128 rfl rfl fl_Mo_90_9 cl9 hB1.kb (fun r hr => by cases hr; rfl) (by decide) rfl rfl ?_
                refine bp_nx (X := fun h2 => MoX M h0 h2 tw (i + 2) (-4) (nI i) tl (mlV v) (v 3) (v 4) (v 5) nt.length lv false tb.length nf nn dg nu kd pn pe T xs L ps L1 p1 nt tb fd) (hB1.s12 (nI_add i 2)) (fun h2 hB2 => ?_)
                refine bp_aload_n (q := 246) 129 rfl rfl rfl rfl ?_
                refine bp_getI (q := 249) (ci := 9) (j := 13) 130 rfl rfl fl_Mo_69_9 hB2.kb rfl ?_
                rw [hB2.i13]
                refine bp_if_ne (q := 252) (tgt := 276) 131 rfl rfl (by decide) (fun z249 => ?_) (fun z => absurd z (by decide))
                refine bp_vret 143 rfl rfl  ⟨_, rfl, ?_⟩
                have ns : ¬ smL (tc T (i + 1)) = true := by rw [bI0.mp z20]; decide
                have y42 : ¬ tc T (i + 1) = 42 := (fun e => z46 (by rw [e]; rfl))
                have y39 : ¬ tc T (i + 1) = 39 := (fun e => z80 (by rw [e]; rfl))
                have y123 : ¬ tc T (i + 1) = 123 := (fun e => z203 (by rw [e]; rfl))
                have y125 : ¬ tc T (i + 1) = 125 := (fun e => z209 (by rw [e]; rfl))
                have y92 : ¬ tc T (i + 1) = 92 := (fun e => z215 (by rw [e]; rfl))
                have y126 : ¬ tc T (i + 1) = 126 := (fun e => z221 (by rw [e]; rfl))
                have e7 : (bBack T i b (i, 0, -1, lv, false, false, false, v, nt, tb, nm, L1, p1)) = (i, -4, nI i, lv, false, false, false, v, nt, tb, nm, L1, p1) := by rw [bB_u, if_neg ns, if_neg (fun z => y39 z.1), if_neg (by omega), if_neg (by omega), if_neg y42]
                exact hQ _ (OUTB.bad hB2 (by rw [e7]) (by rw [e7]) (by decide))
      · refine bp_aload_n (q := 84) 43 rfl rfl rfl rfl ?_
        refine bp_aload_n (q := 85) 44 rfl rfl rfl rfl ?_
        refine bp_getI (q := 88) (ci := 9) (j := 12) 45 rfl rfl fl_Mo_90_9 hB0.kb rfl ?_
        rw [hB0.i12]
        refine bp_iconst (v := 2) (q := 89) 46 rfl rfl (by decide) ?_
        refine bp_iadd (q := 90) 47 rfl rfl ?_
        rw [show nI i + 2 = nI (i + 2) from nI_add i 2]
        refine bp_callV (q := 93) (ci := 9) 48 rfl rfl cw_Mo_charAt lk_Mo_83 rfl hB0.kb wd1445 wd43 rfl rfl (Nat.le_of_ble_eq_true rfl) ⟨Nat.le_of_ble_eq_true rfl, Nat.le_of_ble_eq_true rfl⟩ (s_Mo_charAt (ro := false) hB0 hT (by omega) ?_)
        refine bp_callS (q := 96) 49 rfl rfl cw_Mo_hex lk_Mo_175 wd1560 rfl rfl (Nat.le_of_ble_eq_true rfl) ⟨Nat.le_of_ble_eq_true rfl, Nat.le_of_ble_eq_true rfl⟩ (s_Mo_hex (ro := false) (n := tc T (i + 2)) (by have := tc_lt hT (i + 2); omega) ?_)
        cases hx : hxV (tc T (i + 2)) with
        | none =>
          dsimp only
          refine bp_istore (q := 98) 50 rfl rfl (by decide) (bp_up4 rfl) ?_
          refine bp_aload_n (q := 99) 51 rfl rfl rfl rfl ?_
          refine bp_aload_n (q := 100) 52 rfl rfl rfl rfl ?_
          refine bp_getI (q := 103) (ci := 9) (j := 12) 53 rfl rfl fl_Mo_90_9 hB0.kb rfl ?_
          rw [hB0.i12]
          refine bp_iconst (v := 3) (q := 104) 54 rfl rfl (by decide) ?_
          refine bp_iadd (q := 105) 55 rfl rfl ?_
          rw [show nI i + 3 = nI (i + 3) from nI_add i 3]
          refine bp_callV (q := 108) (ci := 9) 56 rfl rfl cw_Mo_charAt lk_Mo_83 rfl hB0.kb wd1445 wd43 rfl rfl (Nat.le_of_ble_eq_true rfl) ⟨Nat.le_of_ble_eq_true rfl, Nat.le_of_ble_eq_true rfl⟩ (s_Mo_charAt (ro := false) hB0 hT (by omega) ?_)
          refine bp_callS (q := 111) 57 rfl rfl cw_Mo_hex lk_Mo_175 wd1560 rfl rfl (Nat.le_of_ble_eq_true rfl) ⟨Nat.le_of_ble_eq_true rfl, Nat.le_of_ble_eq_true rfl⟩ (s_Mo_hex (ro := false) (n := tc T (i + 3)) (by have := tc_lt hT (i + 3); omega) ?_)
          cases hy : hxV (tc T (i + 3)) with
          | none =>
            dsimp only
            refine bp_istore (q := 113) 58 rfl rfl (by decide) (bp_up5 rfl) ?_
            refine bp_aload_n (q := 114) 59 rfl rfl rfl rfl ?_
            refine bp_iload (q := 116) 60 rfl rfl rfl ?_
            refine bp_if_lt (q := 119) (tgt := 124) 61 rfl rfl (by decide) (fun z116 => ?_) (fun z => absurd z (by decide))
            refine bp_iconst (v := 1) (q := 125) 64 rfl rfl (by decide) ?_
            refine bp_goto (tgt := 129) 65 rfl (by decide) ?_
            refine bp_bipush (v := -4) (q := 131) 67 rfl rfl (by decide) ?_
            refine bp_iload_n (q := 132) 68 rfl rfl rfl rfl ?_
            refine bp_callV (q := 135) (ci := 9) 69 rfl rfl cw_Mo_failIf lk_Mo_118 rfl hB0.kb wd1449 wd44 rfl rfl (Nat.le_of_ble_eq_true rfl) ⟨Nat.le_of_ble_eq_true rfl, Nat.le_of_ble_eq_true rfl⟩ (s_Mo_failIf0 hB0 (by decide) rfl (fun h1 hB1 => ?_))
            refine bp_aload_n (q := 136) 70 rfl rfl rfl rfl ?_
            refine bp_dup (q := 137) 71 rfl rfl rfl ?_
            refine bp_getI (q := 140) (ci := 9) (j := 12) 72 rfl rfl fl_Mo_90_9 hB1.kb rfl ?_
            rw [hB1.i12]
            refine bp_iconst (v := 4) (q := 141) 73 rfl rfl (by decide) ?_
            refine bp_iadd (q := 142) 74 rfl rfl ?_
            refine bp_putI (q := 145) (ci := 9) (j := 12) 75 rfl rfl fl_Mo_90_9 cl9 hB1.kb (fun r hr => by cases hr; rfl) (by decide) rfl rfl ?_
            refine bp_nx (X := fun h2 => MoX M h0 h2 tw (i + 4) (-4) (nI i) tl (mlV v) (v 3) (v 4) (v 5) nt.length lv false tb.length nf nn dg nu kd pn pe T xs L ps L1 p1 nt tb fd) (hB1.s12 (nI_add i 4)) (fun h2 hB2 => ?_)
            refine bp_aload_n (q := 146) 76 rfl rfl rfl rfl ?_
            refine bp_getI (q := 149) (ci := 9) (j := 13) 77 rfl rfl fl_Mo_69_9 hB2.kb rfl ?_
            rw [hB2.i13]
            refine bp_if_ne (q := 152) (tgt := 196) 78 rfl rfl (by decide) (fun z149 => ?_) (fun z => absurd z (by decide))
            refine bp_goto (tgt := 276) 103 rfl (by decide) ?_
            refine bp_vret 143 rfl rfl  ⟨_, rfl, ?_⟩
            have ns : ¬ smL (tc T (i + 1)) = true := by rw [bI0.mp z20]; decide
            have y42 : ¬ tc T (i + 1) = 42 := (fun e => z46 (by rw [e]; rfl))
            have y39 := (nI_eq_iff (a := tc T (i + 1)) (b := 39) (by have := tc_lt hT (i + 1); omega) (by decide)).mp (by first | exact z80 | exact Classical.not_not.mp z80)
            have hC := hxC_n (Or.inl hx)
            have e7 : (bBack T i b (i, 0, -1, lv, false, false, false, v, nt, tb, nm, L1, p1)) = (i, -4, nI i, lv, false, false, false, v, nt, tb, nm, L1, p1) := by rw [bB_u, if_neg ns, if_neg (fun z => by have := z.2; rw [hC] at this; cases this), if_neg (by omega), if_neg (by omega), if_neg y42]
            exact hQ _ (OUTB.bad hB2 (by rw [e7]) (by rw [e7]) (by decide))
          | some y =>
            dsimp only
            have hly := (hxV_lt hy).1
            refine bp_istore (q := 113) 58 rfl rfl (by decide) (bp_up5 rfl) ?_
            refine bp_aload_n (q := 114) 59 rfl rfl rfl rfl ?_
            refine bp_iload (q := 116) 60 rfl rfl rfl ?_
            refine bp_if_lt (q := 119) (tgt := 124) 61 rfl rfl (by decide) (fun z116 => ?_) (fun z => absurd z (by decide))
            refine bp_iconst (v := 1) (q := 125) 64 rfl rfl (by decide) ?_
            refine bp_goto (tgt := 129) 65 rfl (by decide) ?_
            refine bp_bipush (v := -4) (q := 131) 67 rfl rfl (by decide) ?_
            refine bp_iload_n (q := 132) 68 rfl rfl rfl rfl ?_
            refine bp_callV (q := 135) (ci := 9) 69 rfl rfl cw_Mo_failIf lk_Mo_118 rfl hB0.kb wd1449 wd44 rfl rfl (Nat.le_of_ble_eq_true rfl) ⟨Nat.le_of_ble_eq_true rfl, Nat.le_of_ble_eq_true rfl⟩ (s_Mo_failIf0 hB0 (by decide) rfl (fun h1 hB1 => ?_))
            refine bp_aload_n (q := 136) 70 rfl rfl rfl rfl ?_
            refine bp_dup (q := 137) 71 rfl rfl rfl ?_
            refine bp_getI (q := 140) (ci := 9) (j := 12) 72 rfl rfl fl_Mo_90_9 hB1.kb rfl ?_
            rw [hB1.i12]
            refine bp_iconst (v := 4) (q := 141) 73 rfl rfl (by decide) ?_
            refine bp_iadd (q := 142) 74 rfl rfl ?_
            refine bp_putI (q := 145) (ci := 9) (j := 12) 75 rfl rfl fl_Mo_90_9 cl9 hB1.kb (fun r hr => by cases hr; rfl) (by decide) rfl rfl ?_
            refine bp_nx (X := fun h2 => MoX M h0 h2 tw (i + 4) (-4) (nI i) tl (mlV v) (v 3) (v 4) (v 5) nt.length lv false tb.length nf nn dg nu kd pn pe T xs L ps L1 p1 nt tb fd) (hB1.s12 (nI_add i 4)) (fun h2 hB2 => ?_)
            refine bp_aload_n (q := 146) 76 rfl rfl rfl rfl ?_
            refine bp_getI (q := 149) (ci := 9) (j := 13) 77 rfl rfl fl_Mo_69_9 hB2.kb rfl ?_
            rw [hB2.i13]
            refine bp_if_ne (q := 152) (tgt := 196) 78 rfl rfl (by decide) (fun z149 => ?_) (fun z => absurd z (by decide))
            refine bp_goto (tgt := 276) 103 rfl (by decide) ?_
            refine bp_vret 143 rfl rfl  ⟨_, rfl, ?_⟩
            have ns : ¬ smL (tc T (i + 1)) = true := by rw [bI0.mp z20]; decide
            have y42 : ¬ tc T (i + 1) = 42 := (fun e => z46 (by rw [e]; rfl))
            have y39 := (nI_eq_iff (a := tc T (i + 1)) (b := 39) (by have := tc_lt hT (i + 1); omega) (by decide)).mp (by first | exact z80 | exact Classical.not_not.mp z80)
            have hC := hxC_n (Or.inl hx)
            have e7 : (bBack T i b (i, 0, -1, lv, false, false, false, v, nt, tb, nm, L1, p1)) = (i, -4, nI i, lv, false, false, false, v, nt, tb, nm, L1, p1) := by rw [bB_u, if_neg ns, if_neg (fun z => by have := z.2; rw [hC] at this; cases this), if_neg (by omega), if_neg (by omega), if_neg y42]
            exact hQ _ (OUTB.bad hB2 (by rw [e7]) (by rw [e7]) (by decide))
        | some x =>
          dsimp only
          have hlx := (hxV_lt hx).1
          refine bp_istore (q := 98) 50 rfl rfl (by decide) (bp_up4 rfl) ?_
          refine bp_aload_n (q := 99) 51 rfl rfl rfl rfl ?_
          refine bp_aload_n (q := 100) 52 rfl rfl rfl rfl ?_
          refine bp_getI (q := 103) (ci := 9) (j := 12) 53 rfl rfl fl_Mo_90_9 hB0.kb rfl ?_
          rw [hB0.i12]
          refine bp_iconst (v := 3) (q := 104) 54 rfl rfl (by decide) ?_
          refine bp_iadd (q := 105) 55 rfl rfl ?_
          rw [show nI i + 3 = nI (i + 3) from nI_add i 3]
          refine bp_callV (q := 108) (ci := 9) 56 rfl rfl cw_Mo_charAt lk_Mo_83 rfl hB0.kb wd1445 wd43 rfl rfl (Nat.le_of_ble_eq_true rfl) ⟨Nat.le_of_ble_eq_true rfl, Nat.le_of_ble_eq_true rfl⟩ (s_Mo_charAt (ro := false) hB0 hT (by omega) ?_)
          refine bp_callS (q := 111) 57 rfl rfl cw_Mo_hex lk_Mo_175 wd1560 rfl rfl (Nat.le_of_ble_eq_true rfl) ⟨Nat.le_of_ble_eq_true rfl, Nat.le_of_ble_eq_true rfl⟩ (s_Mo_hex (ro := false) (n := tc T (i + 3)) (by have := tc_lt hT (i + 3); omega) ?_)
          cases hy : hxV (tc T (i + 3)) with
          | none =>
            dsimp only
            refine bp_istore (q := 113) 58 rfl rfl (by decide) (bp_up5 rfl) ?_
            refine bp_aload_n (q := 114) 59 rfl rfl rfl rfl ?_
            refine bp_iload (q := 116) 60 rfl rfl rfl ?_
            refine bp_if_lt (q := 119) (tgt := 124) 61 rfl rfl (by decide) (fun z116 => ?_) (fun z116 => ?_)
            · exact absurd z116 (by rw [Int32.lt_iff_toInt_lt, nI_toInt (by omega)]; show ¬ (x : Int) < 0; omega)
            · refine bp_iload (q := 121) 62 rfl rfl rfl ?_
              refine bp_if_ge (q := 124) (tgt := 128) 63 rfl rfl (by decide) (fun z => absurd z (by decide)) (fun z121 => ?_)
              refine bp_iconst (v := 1) (q := 125) 64 rfl rfl (by decide) ?_
              refine bp_goto (tgt := 129) 65 rfl (by decide) ?_
              refine bp_bipush (v := -4) (q := 131) 67 rfl rfl (by decide) ?_
              refine bp_iload_n (q := 132) 68 rfl rfl rfl rfl ?_
              refine bp_callV (q := 135) (ci := 9) 69 rfl rfl cw_Mo_failIf lk_Mo_118 rfl hB0.kb wd1449 wd44 rfl rfl (Nat.le_of_ble_eq_true rfl) ⟨Nat.le_of_ble_eq_true rfl, Nat.le_of_ble_eq_true rfl⟩ (s_Mo_failIf0 hB0 (by decide) rfl (fun h1 hB1 => ?_))
              refine bp_aload_n (q := 136) 70 rfl rfl rfl rfl ?_
              refine bp_dup (q := 137) 71 rfl rfl rfl ?_
              refine bp_getI (q := 140) (ci := 9) (j := 12) 72 rfl rfl fl_Mo_90_9 hB1.kb rfl ?_
              rw [hB1.i12]
              refine bp_iconst (v := 4) (q := 141) 73 rfl rfl (by decide) ?_
              refine bp_iadd (q := 142) 74 rfl rfl ?_
              refine bp_putI (q := 145) (ci := 9) (j := 12) 75 rfl rfl fl_Mo_90_9 cl9 hB1.kb (fun r hr => by cases hr; rfl) (by decide) rfl rfl ?_
              refine bp_nx (X := fun h2 => MoX M h0 h2 tw (i + 4) (-4) (nI i) tl (mlV v) (v 3) (v 4) (v 5) nt.length lv false tb.length nf nn dg nu kd pn pe T xs L ps L1 p1 nt tb fd) (hB1.s12 (nI_add i 4)) (fun h2 hB2 => ?_)
              refine bp_aload_n (q := 146) 76 rfl rfl rfl rfl ?_
              refine bp_getI (q := 149) (ci := 9) (j := 13) 77 rfl rfl fl_Mo_69_9 hB2.kb rfl ?_
              rw [hB2.i13]
              refine bp_if_ne (q := 152) (tgt := 196) 78 rfl rfl (by decide) (fun z149 => ?_) (fun z => absurd z (by decide))
              refine bp_goto (tgt := 276) 103 rfl (by decide) ?_
              refine bp_vret 143 rfl rfl  ⟨_, rfl, ?_⟩
              have ns : ¬ smL (tc T (i + 1)) = true := by rw [bI0.mp z20]; decide
              have y42 : ¬ tc T (i + 1) = 42 := (fun e => z46 (by rw [e]; rfl))
              have y39 := (nI_eq_iff (a := tc T (i + 1)) (b := 39) (by have := tc_lt hT (i + 1); omega) (by decide)).mp (by first | exact z80 | exact Classical.not_not.mp z80)
              have hC := hxC_n (Or.inr hy)
              have e7 : (bBack T i b (i, 0, -1, lv, false, false, false, v, nt, tb, nm, L1, p1)) = (i, -4, nI i, lv, false, false, false, v, nt, tb, nm, L1, p1) := by rw [bB_u, if_neg ns, if_neg (fun z => by have := z.2; rw [hC] at this; cases this), if_neg (by omega), if_neg (by omega), if_neg y42]
              exact hQ _ (OUTB.bad hB2 (by rw [e7]) (by rw [e7]) (by decide))
          | some y =>
            dsimp only
            have hly := (hxV_lt hy).1
            refine bp_istore (q := 113) 58 rfl rfl (by decide) (bp_up5 rfl) ?_
            refine bp_aload_n (q := 114) 59 rfl rfl rfl rfl ?_
            refine bp_iload (q := 116) 60 rfl rfl rfl ?_
            refine bp_if_lt (q := 119) (tgt := 124) 61 rfl rfl (by decide) (fun z116 => ?_) (fun z116 => ?_)
            · exact absurd z116 (by rw [Int32.lt_iff_toInt_lt, nI_toInt (by omega)]; show ¬ (x : Int) < 0; omega)
            · refine bp_iload (q := 121) 62 rfl rfl rfl ?_
              refine bp_if_ge (q := 124) (tgt := 128) 63 rfl rfl (by decide) (fun z121 => ?_) (fun z121 => ?_)
              · refine bp_iconst (v := 0) (q := 129) 66 rfl rfl (by decide) ?_
                refine bp_bipush (v := -4) (q := 131) 67 rfl rfl (by decide) ?_
                refine bp_iload_n (q := 132) 68 rfl rfl rfl rfl ?_
                refine bp_callV (q := 135) (ci := 9) 69 rfl rfl cw_Mo_failIf lk_Mo_118 rfl hB0.kb wd1449 wd44 rfl rfl (Nat.le_of_ble_eq_true rfl) ⟨Nat.le_of_ble_eq_true rfl, Nat.le_of_ble_eq_true rfl⟩ (s_Mo_failIfN hB0 rfl ?_)
                refine bp_aload_n (q := 136) 70 rfl rfl rfl rfl ?_
                refine bp_dup (q := 137) 71 rfl rfl rfl ?_
                refine bp_getI (q := 140) (ci := 9) (j := 12) 72 rfl rfl fl_Mo_90_9 hB0.kb rfl ?_
                rw [hB0.i12]
                refine bp_iconst (v := 4) (q := 141) 73 rfl rfl (by decide) ?_
                refine bp_iadd (q := 142) 74 rfl rfl ?_
                refine bp_putI (q := 145) (ci := 9) (j := 12) 75 rfl rfl fl_Mo_90_9 cl9 hB0.kb (fun r hr => by cases hr; rfl) (by decide) rfl rfl ?_
                refine bp_nx (X := fun h1 => MoX M h0 h1 tw (i + 4) 0 fm tl (mlV v) (v 3) (v 4) (v 5) nt.length lv false tb.length nf nn dg nu kd pn pe T xs L ps L1 p1 nt tb fd) (hB0.s12 (nI_add i 4)) (fun h1 hB1 => ?_)
                refine bp_aload_n (q := 146) 76 rfl rfl rfl rfl ?_
                refine bp_getI (q := 149) (ci := 9) (j := 13) 77 rfl rfl fl_Mo_69_9 hB1.kb rfl ?_
                rw [hB1.i13]
                refine bp_if_ne (q := 152) (tgt := 196) 78 rfl rfl (by decide) (fun z => absurd z (by decide)) (fun z149 => ?_)
                refine bp_aload_n (q := 153) 79 rfl rfl rfl rfl ?_
                refine bp_callV (q := 156) (ci := 9) 80 rfl rfl cw_Mo_leftOut lk_Mo_150 rfl hB1.kb wd1483 wd51 rfl rfl (Nat.le_of_ble_eq_true rfl) ⟨Nat.le_of_ble_eq_true rfl, Nat.le_of_ble_eq_true rfl⟩ (s_Mo_leftOut hB1 (by omega) (fun h2 hB2 => ?_))
                refine bp_if_ne (q := 159) (tgt := 196) 81 rfl rfl (by decide) (fun z156 => ?_) (fun z156 => ?_)
                · refine bp_goto (tgt := 276) 103 rfl (by decide) ?_
                  refine bp_vret 143 rfl rfl  ⟨_, rfl, ?_⟩
                  have ns : ¬ smL (tc T (i + 1)) = true := by rw [bI0.mp z20]; decide
                  have y42 : ¬ tc T (i + 1) = 42 := (fun e => z46 (by rw [e]; rfl))
                  have y39 := (nI_eq_iff (a := tc T (i + 1)) (b := 39) (by have := tc_lt hT (i + 1); omega) (by decide)).mp (by first | exact z80 | exact Classical.not_not.mp z80)
                  have hC := hxC_s hx hy
                  have e8 : (bBack T i b (i, 0, -1, lv, false, false, false, v, nt, tb, nm, L1, p1)) = bLetter i (16 * x + y) 4 (i, 0, -1, lv, false, false, false, v, nt, tb, nm, L1, p1) := by rw [bB_u, if_neg ns, if_pos ⟨y39, by rw [hC]; rfl⟩, hC]; rfl
                  have y156 : lv ≠ 0 := of_decide_eq_true (bI1 z156)
                  exact hQ _ (OUTB.ok (v := v) (nm := nm) hB2 (by rw [decide_eq_false hnt]; exact e8.trans (bL_u.trans (if_pos y156))) hoN)
                · refine bp_aload_n (q := 160) 82 rfl rfl rfl rfl ?_
                  refine bp_bipush (v := 16) (q := 162) 83 rfl rfl (by decide) ?_
                  refine bp_iload (q := 164) 84 rfl rfl rfl ?_
                  refine bp_imul (q := 165) 85 rfl rfl ?_
                  refine bp_iload (q := 167) 86 rfl rfl rfl ?_
                  refine bp_iadd (q := 168) 87 rfl rfl ?_
                  rw [show (16 : Int32) * nI x + nI y = nI (16 * x + y) from by rw [show (16 : Int32) = nI 16 from rfl, nI_mul, nI_add]]
                  refine bp_bipush (v := 32) (q := 170) 88 rfl rfl (by decide) ?_
                  refine bp_icmp_ge (q := 173) (tgt := 177) 89 rfl rfl (by decide) (fun z170 => ?_) (fun z170 => ?_)
                  · refine bp_iconst (v := 0) (q := 178) 92 rfl rfl (by decide) ?_
                    refine bp_bipush (v := -5) (q := 180) 93 rfl rfl (by decide) ?_
                    refine bp_iload_n (q := 181) 94 rfl rfl rfl rfl ?_
                    refine bp_callV (q := 184) (ci := 9) 95 rfl rfl cw_Mo_failIf lk_Mo_118 rfl hB2.kb wd1449 wd44 rfl rfl (Nat.le_of_ble_eq_true rfl) ⟨Nat.le_of_ble_eq_true rfl, Nat.le_of_ble_eq_true rfl⟩ (s_Mo_failIfN hB2 rfl ?_)
                    refine bp_aload_n (q := 185) 96 rfl rfl rfl rfl ?_
                    refine bp_bipush (v := 16) (q := 187) 97 rfl rfl (by decide) ?_
                    refine bp_iload (q := 189) 98 rfl rfl rfl ?_
                    refine bp_imul (q := 190) 99 rfl rfl ?_
                    refine bp_iload (q := 192) 100 rfl rfl rfl ?_
                    refine bp_iadd (q := 193) 101 rfl rfl ?_
                    rw [show (16 : Int32) * nI x + nI y = nI (16 * x + y) from by rw [show (16 : Int32) = nI 16 from rfl, nI_mul, nI_add]]
                    refine bp_callV (q := 196) (ci := 9) 102 rfl rfl cw_Mo_braceLetter lk_Mo_154 rfl hB2.kb wd1519 wd56 rfl rfl (Nat.le_of_ble_eq_true rfl) ⟨Nat.le_of_ble_eq_true rfl, Nat.le_of_ble_eq_true rfl⟩ (s_Mo_braceLetter (u := 16 * x + y) (y := lkV v) hB2 (mlV_cm hV) (by omega) hends (fun h3 hB3 => ?_))
                    refine bp_goto (tgt := 276) 103 rfl (by decide) ?_
                    refine bp_vret 143 rfl rfl  ⟨_, rfl, ?_⟩
                    have ns : ¬ smL (tc T (i + 1)) = true := by rw [bI0.mp z20]; decide
                    have y42 : ¬ tc T (i + 1) = 42 := (fun e => z46 (by rw [e]; rfl))
                    have y39 := (nI_eq_iff (a := tc T (i + 1)) (b := 39) (by have := tc_lt hT (i + 1); omega) (by decide)).mp (by first | exact z80 | exact Classical.not_not.mp z80)
                    have hC := hxC_s hx hy
                    have e8 : (bBack T i b (i, 0, -1, lv, false, false, false, v, nt, tb, nm, L1, p1)) = bLetter i (16 * x + y) 4 (i, 0, -1, lv, false, false, false, v, nt, tb, nm, L1, p1) := by rw [bB_u, if_neg ns, if_pos ⟨y39, by rw [hC]; rfl⟩, hC]; rfl
                    have y156 : ¬ lv ≠ 0 := of_decide_eq_false (bI0.mp (by first | exact z156 | exact Classical.not_not.mp z156))
                    have y32 : ¬ 16 * x + y < 32 := by have := (nI_le_iff (a := 32) (by decide) (by omega)).mp z170; omega
                    exact hQ _ (OUTB.ok (v := v) (nm := nm) hB3 (by rw [decide_eq_false hnt]; exact e8.trans (bL_u.trans ((if_neg y156).trans (if_neg y32)))) hoN)
                  · refine bp_iconst (v := 1) (q := 174) 90 rfl rfl (by decide) ?_
                    refine bp_goto (tgt := 178) 91 rfl (by decide) ?_
                    refine bp_bipush (v := -5) (q := 180) 93 rfl rfl (by decide) ?_
                    refine bp_iload_n (q := 181) 94 rfl rfl rfl rfl ?_
                    refine bp_callV (q := 184) (ci := 9) 95 rfl rfl cw_Mo_failIf lk_Mo_118 rfl hB2.kb wd1449 wd44 rfl rfl (Nat.le_of_ble_eq_true rfl) ⟨Nat.le_of_ble_eq_true rfl, Nat.le_of_ble_eq_true rfl⟩ (s_Mo_failIf0 hB2 (by decide) rfl (fun h3 hB3 => ?_))
                    refine bp_aload_n (q := 185) 96 rfl rfl rfl rfl ?_
                    refine bp_bipush (v := 16) (q := 187) 97 rfl rfl (by decide) ?_
                    refine bp_iload (q := 189) 98 rfl rfl rfl ?_
                    refine bp_imul (q := 190) 99 rfl rfl ?_
                    refine bp_iload (q := 192) 100 rfl rfl rfl ?_
                    refine bp_iadd (q := 193) 101 rfl rfl ?_
                    rw [show (16 : Int32) * nI x + nI y = nI (16 * x + y) from by rw [show (16 : Int32) = nI 16 from rfl, nI_mul, nI_add]]
                    refine bp_callV (q := 196) (ci := 9) 102 rfl rfl cw_Mo_braceLetter lk_Mo_154 rfl hB3.kb wd1519 wd56 rfl rfl (Nat.le_of_ble_eq_true rfl) ⟨Nat.le_of_ble_eq_true rfl, Nat.le_of_ble_eq_true rfl⟩ (s_Mo_braceLetter (u := 16 * x + y) (y := lkV v) hB3 (mlV_cm hV) (by omega) hends (fun h4 hB4 => ?_))
                    refine bp_goto (tgt := 276) 103 rfl (by decide) ?_
                    refine bp_vret 143 rfl rfl  ⟨_, rfl, ?_⟩
                    have ns : ¬ smL (tc T (i + 1)) = true := by rw [bI0.mp z20]; decide
                    have y42 : ¬ tc T (i + 1) = 42 := (fun e => z46 (by rw [e]; rfl))
                    have y39 := (nI_eq_iff (a := tc T (i + 1)) (b := 39) (by have := tc_lt hT (i + 1); omega) (by decide)).mp (by first | exact z80 | exact Classical.not_not.mp z80)
                    have hC := hxC_s hx hy
                    have e8 : (bBack T i b (i, 0, -1, lv, false, false, false, v, nt, tb, nm, L1, p1)) = bLetter i (16 * x + y) 4 (i, 0, -1, lv, false, false, false, v, nt, tb, nm, L1, p1) := by rw [bB_u, if_neg ns, if_pos ⟨y39, by rw [hC]; rfl⟩, hC]; rfl
                    have y156 : ¬ lv ≠ 0 := of_decide_eq_false (bI0.mp (by first | exact z156 | exact Classical.not_not.mp z156))
                    have y32 : 16 * x + y < 32 := Nat.not_le.mp (fun e => z170 ((nI_le_iff (a := 32) (by decide) (by omega)).mpr e))
                    have e7 := e8.trans (bL_u.trans ((if_neg y156).trans (if_pos y32)))
                    exact hQ _ (OUTB.bad hB4 (by rw [e7]) (by rw [e7]) (by decide))
              · exact absurd (Int32.not_le.mp z121) (by rw [Int32.lt_iff_toInt_lt, nI_toInt (by omega)]; show ¬ (y : Int) < 0; omega)
    · refine bp_aload_n (q := 50) 26 rfl rfl rfl rfl ?_
      refine bp_dup (q := 51) 27 rfl rfl rfl ?_
      refine bp_getI (q := 54) (ci := 9) (j := 12) 28 rfl rfl fl_Mo_90_9 hB0.kb rfl ?_
      rw [hB0.i12]
      refine bp_iconst (v := 2) (q := 55) 29 rfl rfl (by decide) ?_
      refine bp_iadd (q := 56) 30 rfl rfl ?_
      refine bp_putI (q := 59) (ci := 9) (j := 12) 31 rfl rfl fl_Mo_90_9 cl9 hB0.kb (fun r hr => by cases hr; rfl) (by decide) rfl rfl ?_
      refine bp_nx (X := fun h1 => MoX M h0 h1 tw (i + 2) 0 fm tl (mlV v) (v 3) (v 4) (v 5) nt.length lv false tb.length nf nn dg nu kd pn pe T xs L ps L1 p1 nt tb fd) (hB0.s12 (nI_add i 2)) (fun h1 hB1 => ?_)
      refine bp_aload_n (q := 60) 32 rfl rfl rfl rfl ?_
      refine bp_callV (q := 63) (ci := 9) 33 rfl rfl cw_Mo_leftOut lk_Mo_150 rfl hB1.kb wd1483 wd51 rfl rfl (Nat.le_of_ble_eq_true rfl) ⟨Nat.le_of_ble_eq_true rfl, Nat.le_of_ble_eq_true rfl⟩ (s_Mo_leftOut hB1 (by omega) (fun h2 hB2 => ?_))
      refine bp_if_ne (q := 66) (tgt := 276) 34 rfl rfl (by decide) (fun z63 => ?_) (fun z63 => ?_)
      · refine bp_vret 143 rfl rfl  ⟨_, rfl, ?_⟩
        have ns : ¬ smL (tc T (i + 1)) = true := by rw [bI0.mp z20]; decide
        have y42 := (nI_eq_iff (a := tc T (i + 1)) (b := 42) (by have := tc_lt hT (i + 1); omega) (by decide)).mp (by first | exact z46 | exact Classical.not_not.mp z46)
        have e8 : (bBack T i b (i, 0, -1, lv, false, false, false, v, nt, tb, nm, L1, p1)) = bStar T b (i, 0, -1, lv, false, false, false, v, nt, tb, nm, L1, p1) := by rw [bB_u, if_neg ns, if_neg (by omega), if_neg (by omega), if_neg (by omega), if_pos y42]
        have y63 : lv ≠ 0 := of_decide_eq_true (bI1 z63)
        exact hQ _ (OUTB.ok (v := v) (nm := nm) hB2 (by rw [decide_eq_false hnt]; exact e8.trans (bS_u.trans (if_pos y63))) hoN)
      · refine bp_iload_n (q := 67) 35 rfl rfl rfl rfl ?_
        refine bp_if_eq (q := 70) (tgt := 276) 36 rfl rfl (by decide) (fun z67 => ?_) (fun z67 => ?_)
        · refine bp_vret 143 rfl rfl  ⟨_, rfl, ?_⟩
          have ns : ¬ smL (tc T (i + 1)) = true := by rw [bI0.mp z20]; decide
          have y42 := (nI_eq_iff (a := tc T (i + 1)) (b := 42) (by have := tc_lt hT (i + 1); omega) (by decide)).mp (by first | exact z46 | exact Classical.not_not.mp z46)
          have e8 : (bBack T i b (i, 0, -1, lv, false, false, false, v, nt, tb, nm, L1, p1)) = bStar T b (i, 0, -1, lv, false, false, false, v, nt, tb, nm, L1, p1) := by rw [bB_u, if_neg ns, if_neg (by omega), if_neg (by omega), if_neg (by omega), if_pos y42]
          have y63 : ¬ lv ≠ 0 := of_decide_eq_false (bI0.mp (by first | exact z63 | exact Classical.not_not.mp z63))
          have yb : b = false := bI0.mp z67
          subst yb
          exact hQ _ (OUTB.ok (v := v) (nm := nm) hB2 (by rw [decide_eq_false hnt]; exact e8.trans (bS_u.trans ((if_neg y63).trans (if_neg (by decide))))) hoN)
        · refine bp_aload_n (q := 71) 37 rfl rfl rfl rfl ?_
          refine bp_callV (q := 74) (ci := 9) 38 rfl rfl cw_Mo_pass lk_Mo_172 rfl hB2.kb wd1557 wd61 rfl rfl (Nat.le_of_ble_eq_true rfl) ⟨Nat.le_of_ble_eq_true rfl, Nat.le_of_ble_eq_true rfl⟩ (s_Mo_pass hB2 hT (by omega) (fun zp h3 i9 hB3 => ?_) (fun zp h3 hB3 => ?_))
          · refine bp_goto (tgt := 276) 39 rfl (by decide) ?_
            refine bp_vret 143 rfl rfl  ⟨_, rfl, ?_⟩
            have ns : ¬ smL (tc T (i + 1)) = true := by rw [bI0.mp z20]; decide
            have y42 := (nI_eq_iff (a := tc T (i + 1)) (b := 42) (by have := tc_lt hT (i + 1); omega) (by decide)).mp (by first | exact z46 | exact Classical.not_not.mp z46)
            have e8 : (bBack T i b (i, 0, -1, lv, false, false, false, v, nt, tb, nm, L1, p1)) = bStar T b (i, 0, -1, lv, false, false, false, v, nt, tb, nm, L1, p1) := by rw [bB_u, if_neg ns, if_neg (by omega), if_neg (by omega), if_neg (by omega), if_pos y42]
            have y63 : ¬ lv ≠ 0 := of_decide_eq_false (bI0.mp (by first | exact z63 | exact Classical.not_not.mp z63))
            have yb : b = true := bI1 z67
            subst yb
            have e7 := e8.trans (bS_u.trans ((if_neg y63).trans (if_pos rfl)))
            have eR : RR T (bBack T i true (i, 0, -1, lv, false, false, false, v, nt, tb, nm, L1, p1)) = bFin T (pgE T (T.length - (i + 2)) 0 (i + 2), 0, -1, lv - 1, false, false, false, v, nt, tb, nm, L1, p1) := by rw [e7]; exact RR_fin rfl (Or.inl zp)
            exact hQ _ (OUTB.bad2 hB3 (by rw [eR]; rfl) (by rw [eR]; rfl) (by decide))
          · refine bp_goto (tgt := 276) 39 rfl (by decide) ?_
            refine bp_vret 143 rfl rfl  ⟨_, rfl, ?_⟩
            have ns : ¬ smL (tc T (i + 1)) = true := by rw [bI0.mp z20]; decide
            have y42 := (nI_eq_iff (a := tc T (i + 1)) (b := 42) (by have := tc_lt hT (i + 1); omega) (by decide)).mp (by first | exact z46 | exact Classical.not_not.mp z46)
            have e8 : (bBack T i b (i, 0, -1, lv, false, false, false, v, nt, tb, nm, L1, p1)) = bStar T b (i, 0, -1, lv, false, false, false, v, nt, tb, nm, L1, p1) := by rw [bB_u, if_neg ns, if_neg (by omega), if_neg (by omega), if_neg (by omega), if_pos y42]
            have y63 : ¬ lv ≠ 0 := of_decide_eq_false (bI0.mp (by first | exact z63 | exact Classical.not_not.mp z63))
            have yb : b = true := bI1 z67
            subst yb
            exact hQ _ (OUTB.ok (v := v) (nm := nm) hB3 (by rw [decide_eq_false hnt]; exact e8.trans (bS_u.trans ((if_neg y63).trans (if_pos rfl)))) hoN)
  · refine bp_aload_n (q := 24) 13 rfl rfl rfl rfl ?_
    refine bp_callV (q := 27) (ci := 9) 14 rfl rfl cw_Mo_scan lk_Mo_165 rfl hB0.kb wd1476 wd50 rfl rfl (Nat.le_of_ble_eq_true rfl) ⟨Nat.le_of_ble_eq_true rfl, Nat.le_of_ble_eq_true rfl⟩ (s_Mo_scan hB0 hT (bI1 z20) (fun h1 nu_ hnu_ hB1 => ?_))
    refine bp_aload_n (q := 28) 15 rfl rfl rfl rfl ?_
    refine bp_callV (q := 31) (ci := 9) 16 rfl rfl cw_Mo_leftOut lk_Mo_150 rfl hB1.kb wd1483 wd51 rfl rfl (Nat.le_of_ble_eq_true rfl) ⟨Nat.le_of_ble_eq_true rfl, Nat.le_of_ble_eq_true rfl⟩ (s_Mo_leftOut hB1 (by omega) (fun h2 hB2 => ?_))
    refine bp_if_ne (q := 34) (tgt := 276) 17 rfl rfl (by decide) (fun z31 => ?_) (fun z31 => ?_)
    · refine bp_vret 143 rfl rfl  ⟨_, rfl, ?_⟩
      have y31 : lv ≠ 0 := of_decide_eq_true (bI1 z31)
      exact hQ _ (OUTB.ok (v := v) (nm := nm) hB2 (by rw [decide_eq_false hnt]; exact (bB_u.trans (if_pos (bI1 z20))).trans (bO_lv y31)) hoN)
    · refine bp_aload_n (q := 35) 18 rfl rfl rfl rfl ?_
      refine bp_iload_n (q := 36) 19 rfl rfl rfl rfl ?_
      refine bp_iload_n (q := 37) 20 rfl rfl rfl rfl ?_
      have hs := bI1 z20
      have hsT := sm_in hs
      have y31 : lv = 0 := by have := of_decide_eq_false (bI0.mp (by first | exact z31 | exact Classical.not_not.mp z31)); omega
      subst y31
      have hwT : i + 1 ≤ wdT T i ∧ wdT T i ≤ T.length := slE_in T (T.length - (i + 1)) (i + 1) (by omega)
      have hwi : i < wdN T i := by have := (wdN_in hs).1; omega
      have hLi : L1.length < 400 := by have := hT.1; omega
      have hdl : nuD T (wdT T i) < 1000000 := by have := dgE_in T (T.length - nuK T (wdT T i)) (nuK T (wdT T i)) 0 0 (nuK_in hwT.2).1; have := (nuK_in hwT.2).1; have := hT.1; unfold nuD nuX; omega
      have e9 : bBack T i b (i, 0, -1, 0, false, false, false, v, nt, tb, nm, L1, p1) = bObey i b (wdf T (i + 1) (wdT T i) 15 1) (nuV T (wdT T i)) (nuD T (wdT T i)) (wdN T i, 0, -1, 0, false, false, false, v, nt, tb, nm, L1, p1) := (bB_u).trans (if_pos hs)
      have hoO := hoN
      rw [e9] at hoO
      refine bp_callV (q := 40) (ci := 9) 21 rfl rfl cw_Mo_obey lk_Mo_168 rfl hB2.kb wd1487 wd52 rfl rfl (Nat.le_of_ble_eq_true rfl) ⟨Nat.le_of_ble_eq_true rfl, Nat.le_of_ble_eq_true rfl⟩ (s_Mo_obey (j := i) (nm := nm) hB2 hV (nuV_r T (wdT T i)) hnu_ htb htl hLi hends hwi hT hnt hp16 (by omega) (by omega) (by omega) hwT.1 hoO (fun h9 ho => ?_))
      refine bp_goto (tgt := 276) 22 rfl (by decide) ?_
      refine bp_vret 143 rfl rfl  ⟨_, rfl, ?_⟩
      exact hQ _ (ho.tr (by rw [e9]))
end MO23
