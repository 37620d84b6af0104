/-! the reference reads a thing -/
section BW
variable {T : List Nat} {i : Nat} {fa me : Int32} {fr it en : Bool} {lv : Nat} {v u : Nat → Nat} {nt ns : List (Nat → Nat)} {tb nm : List Nat} {L : List (Nat × Nat)} {ps : List (Nat × Nat × Nat)}
theorem bT_u : bThing T (i, fa, me, lv, fr, false, en, v, nt, tb, nm, L, ps) = (if tc T i = 10 then (i + 1, fa, me, lv, fr, false, en, v, nt, tb, nm, L, ps)
  else if tc T i = 123 then bOpen i (i, fa, me, lv, true, false, en, v, nt, tb, nm, L, ps)
  else if tc T i = 125 then bClose (i, fa, me, lv, false, false, en, v, nt, tb, nm, L, ps)
  else if tc T i = 92 then bBack T i fr (i, fa, me, lv, false, false, en, v, nt, tb, nm, L, ps)
  else bLetter i (tc T i) 1 (i, fa, me, lv, false, false, en, v, nt, tb, nm, L, ps)) := rfl
theorem bOp_u : bOpen i (i, fa, me, lv, fr, it, en, v, nt, tb, nm, L, ps) = (if 12 ≤ nt.length then (i, -7, nI i, 0, fr, it, en, v, nt, tb, nm, L, ps) else (i + 1, fa, me, 0, fr, it, en, v, nt ++ [v], tb, nm, L, ps)) := rfl
theorem bCl_u : bClose (i, fa, me, lv, fr, it, en, v, ns ++ [u], tb, nm, L, ps) = (i + 1, fa, me, 0, fr, it, decide (ns = []), u, ns, tb, nm, L, ps) := by
  show (i + 1, fa, me, 0, fr, it, decide ((ns ++ [u]).dropLast = []), (ns ++ [u]).getLastD v, (ns ++ [u]).dropLast, tb, nm, L, ps) = _
  rw [List.dropLast_concat, show (ns ++ [u]).getLastD v = u from by simp]
end BW
section MO24
variable {l : Launch} {G : bp_G} {H0 : Heap} {M : Nat → Nat} {h0 h : bp_H} {tw : Int32} {i : Nat} {fa : Int32} {fm : Int32} {tl : Int32} {lk : Nat} {al : Nat} {ind : Nat} {sk : Nat} {dp : Nat} {lv : Nat} {fr : Bool} {en : Nat} {nf : Nat} {nn : Nat} {dg : Nat} {nu : Int32} {kd : Nat} {pn : Int32} {pe : Nat} {T : List Nat} {xs : List Nat} {L : List (Nat × Nat)} {ps : List (Nat × Nat × Nat)} {L1 : List (Nat × Nat)} {p1 : List (Nat × Nat × Nat)} {nt : List (Nat → Nat)} {tb : List Nat} {fd : List Nat} {c s : Nat} {Q : Option Value → bp_H → Nat → Nat → Prop} {v : Nat → Nat} {nm : List Nat}
set_option maxRecDepth 100000 in
set_option maxHeartbeats 4000000 in
theorem s_Mo_readThing  (hB0 : MoX M h0 h tw i 0 fm tl (mlV v) (v 3) (v 4) (v 5) nt.length lv fr tb.length nf nn dg nu kd pn pe T xs L ps L1 p1 nt tb fd) (hC : okC T) (hok : okX T i lv false v nt tb nm L1 p1) (hst : ¬ nt = [] ∨ tc T i = 123) (hQ : ∀ h', OUTB M h0 h' tw tl kd pn pe T xs L ps (i, 0, -1, lv, fr, false, false, v, nt, tb, nm, L1, p1) i → Q none h' c s) : bp_AM l G H0 (6, 140, false, false) M_Mo_readThing h c s [.ref (M 0)] Q := by
  refine bp_of (ls := [some (.ref (M 0)), none, none]) (by decide) dt_Mo_readThing (Nat.le_of_ble_eq_true rfl) (fun q hq => hq) false ?_
  have hT := hC.1
  have hT4 := hT.1
  have hiT := hok.1
  have hV := hok.2.2.1
  have hlv := hok.2.1
  have hLi := hok.2.2.2.2.2.2.2.1
  have okp := hok.2.2.2.2.2.2.2.2
  have hends := okp.ends
  refine bp_aload_n (q := 1) 0 rfl rfl rfl rfl ?_
  refine bp_aload_n (q := 2) 1 rfl rfl rfl rfl ?_
  refine bp_getI (q := 5) (ci := 9) (j := 12) 2 rfl rfl fl_Mo_90_9 hB0.kb rfl ?_
  rw [hB0.i12]
  refine bp_callV (q := 8) (ci := 9) 3 rfl rfl cw_Mo_charAt lk_Mo_83 rfl hB0.kb wd1445 wd43 rfl rfl (Nat.le_of_ble_eq_true rfl) ⟨Nat.le_of_ble_eq_true rfl, Nat.le_of_ble_eq_true rfl⟩ (s_Mo_charAt (ro := false) hB0 hT (by omega) ?_)
  refine bp_istore_n (q := 9) 4 rfl rfl rfl (by decide) (bp_up1 rfl) ?_
  refine bp_aload_n (q := 10) 5 rfl rfl rfl rfl ?_
  refine bp_getI (q := 13) (ci := 9) (j := 23) 6 rfl rfl fl_Mo_122_9 hB0.kb rfl ?_
  rw [hB0.i23]
  refine bp_istore_n (q := 14) 7 rfl rfl rfl (by decide) (bp_up2 rfl) ?_
  refine bp_aload_n (q := 15) 8 rfl rfl rfl rfl ?_
  refine bp_iload_n (q := 16) 9 rfl rfl rfl rfl ?_
  refine bp_bipush (v := 123) (q := 18) 10 rfl rfl (by decide) ?_
  refine bp_icmp_eq (q := 21) (tgt := 34) 11 rfl rfl (by decide) (fun z18 => ?_) (fun z18 => ?_)
  · refine bp_iconst (v := 1) (q := 35) 18 rfl rfl (by decide) ?_
    refine bp_goto (tgt := 39) 19 rfl (by decide) ?_
    refine bp_putI (q := 42) (ci := 9) (j := 23) 21 rfl rfl fl_Mo_122_9 cl9 hB0.kb (fun r hr => by cases hr; rfl) (by decide) rfl rfl ?_
    refine bp_nx (X := fun h1 => MoX M h0 h1 tw i 0 fm tl (mlV v) (v 3) (v 4) (v 5) nt.length lv true tb.length nf nn dg nu kd pn pe T xs L ps L1 p1 nt tb fd) (hB0.s23 rfl) (fun h1 hB1 => ?_)
    refine bp_aload_n (q := 43) 22 rfl rfl rfl rfl ?_
    refine bp_getI (q := 46) (ci := 9) (j := 12) 23 rfl rfl fl_Mo_90_9 hB1.kb rfl ?_
    rw [hB1.i12]
    refine bp_aload_n (q := 47) 24 rfl rfl rfl rfl ?_
    refine bp_getI (q := 50) (ci := 9) (j := 1) 25 rfl rfl fl_Mo_63_9 hB1.kb rfl ?_
    rw [hB1.i1]
    refine bp_icmp_lt (q := 53) (tgt := 66) 26 rfl rfl (by decide) (fun z50 => ?_) (fun z50 => ?_)
    · refine bp_iload_n (q := 67) 33 rfl rfl rfl rfl ?_
      refine bp_bipush (v := 123) (q := 69) 34 rfl rfl (by decide) ?_
      refine bp_icmp_ne (q := 72) (tgt := 125) 35 rfl rfl (by decide) (fun z69 => ?_) (fun z69 => ?_)
      · exact absurd (by first | exact z18 | exact Classical.not_not.mp z18) z69
      · refine bp_aload_n (q := 73) 36 rfl rfl rfl rfl ?_
        refine bp_aload_n (q := 74) 37 rfl rfl rfl rfl ?_
        refine bp_getI (q := 77) (ci := 9) (j := 20) 38 rfl rfl fl_Mo_93_9 hB1.kb rfl ?_
        rw [hB1.i20]
        refine bp_bipush (v := 12) (q := 79) 39 rfl rfl (by decide) ?_
        refine bp_icmp_ne (q := 82) (tgt := 86) 40 rfl rfl (by decide) (fun z79 => ?_) (fun z79 => ?_)
        · refine bp_iconst (v := 0) (q := 87) 43 rfl rfl (by decide) ?_
          refine bp_bipush (v := -7) (q := 89) 44 rfl rfl (by decide) ?_
          refine bp_aload_n (q := 90) 45 rfl rfl rfl rfl ?_
          refine bp_getI (q := 93) (ci := 9) (j := 12) 46 rfl rfl fl_Mo_90_9 hB1.kb rfl ?_
          rw [hB1.i12]
          refine bp_callV (q := 96) (ci := 9) 47 rfl rfl cw_Mo_failIf lk_Mo_118 rfl hB1.kb wd1449 wd44 rfl rfl (Nat.le_of_ble_eq_true rfl) ⟨Nat.le_of_ble_eq_true rfl, Nat.le_of_ble_eq_true rfl⟩ (s_Mo_failIfN hB1 rfl ?_)
          refine bp_aload_n (q := 97) 48 rfl rfl rfl rfl ?_
          refine bp_iconst (v := 0) (q := 98) 49 rfl rfl (by decide) ?_
          refine bp_putI (q := 101) (ci := 9) (j := 22) 50 rfl rfl fl_Mo_108_9 cl9 hB1.kb (fun r hr => by cases hr; rfl) (by decide) rfl rfl ?_
          refine bp_nx (X := fun h2 => MoX M h0 h2 tw i 0 fm tl (mlV v) (v 3) (v 4) (v 5) nt.length 0 true tb.length nf nn dg nu kd pn pe T xs L ps L1 p1 nt tb fd) (hB1.s22 rfl) (fun h2 hB2 => ?_)
          refine bp_aload_n (q := 102) 51 rfl rfl rfl rfl ?_
          refine bp_getI (q := 105) (ci := 9) (j := 13) 52 rfl rfl fl_Mo_69_9 hB2.kb rfl ?_
          rw [hB2.i13]
          refine bp_if_ne (q := 108) (tgt := 112) 53 rfl rfl (by decide) (fun z => absurd z (by decide)) (fun z105 => ?_)
          refine bp_aload_n (q := 109) 54 rfl rfl rfl rfl ?_
          have y79 : ¬ nt.length = 12 := fun e => z79 (by rw [e]; rfl)
          have hn12 := hok.2.2.2.2.1
          refine bp_callV (q := 112) (ci := 9) 55 rfl rfl cw_Mo_note lk_Mo_140 rfl hB2.kb wd1461 wd47 rfl rfl (Nat.le_of_ble_eq_true rfl) ⟨Nat.le_of_ble_eq_true rfl, Nat.le_of_ble_eq_true rfl⟩ (s_Mo_note hB2 (by omega) (fun h3 hB3 => ?_))
          refine bp_aload_n (q := 113) 56 rfl rfl rfl rfl ?_
          refine bp_dup (q := 114) 57 rfl rfl rfl ?_
          refine bp_getI (q := 117) (ci := 9) (j := 12) 58 rfl rfl fl_Mo_90_9 hB3.kb rfl ?_
          rw [hB3.i12]
          refine bp_iconst (v := 1) (q := 118) 59 rfl rfl (by decide) ?_
          refine bp_iadd (q := 119) 60 rfl rfl ?_
          refine bp_putI (q := 122) (ci := 9) (j := 12) 61 rfl rfl fl_Mo_90_9 cl9 hB3.kb (fun r hr => by cases hr; rfl) (by decide) rfl rfl ?_
          refine bp_nx (X := fun h4 => MoX M h0 h4 tw (i + 1) 0 fm tl (mlV v) (v 3) (v 4) (v 5) (nt.length + 1) 0 true tb.length nf nn dg nu kd pn pe T xs L ps L1 p1 (nt ++ [v]) tb fd) (hB3.s12 (nI_1 i)) (fun h4 hB4 => ?_)
          refine bp_goto (tgt := 195) 62 rfl (by decide) ?_
          refine bp_vret 100 rfl rfl  ⟨_, rfl, ?_⟩
          have hi : i < T.length := Nat.not_le.mp (fun e => absurd (nI_le e (by omega)) (by first | exact z50 | exact Int32.not_le.mpr z50))
          have hst9 := RR_step hT (σ := (i, 0, -1, lv, fr, false, false, v, nt, tb, nm, L1, p1)) hok rfl hi rfl
          have y := (nI_eq_iff (a := tc T i) (b := 123) (by have := tc_lt hT i; omega) (by decide)).mp (by first | exact z69 | exact Classical.not_not.mp z69)
          have hoN : okN T i (bThing T (i, 0, -1, lv, fr, false, false, v, nt, tb, nm, L1, p1)) := okB_thing hT hok hi
          have e7 := (bT_u (T := T) (i := i) (fa := 0) (me := -1) (lv := lv) (fr := fr) (en := false) (v := v) (nt := nt) (tb := tb) (nm := nm) (L := L1) (ps := p1)).trans ((if_neg (by omega)).trans ((if_pos y).trans (bOp_u.trans (if_neg (by omega)))))
          rw [show nt.length + 1 = (nt ++ [v]).length from by rw [List.length_append]; rfl] at hB4
          exact hQ _ ((OUTB.ok (v := v) (nm := nm) hB4 (by rw [decide_eq_false (fun e => by cases nt <;> cases e)]; exact e7) hoN).tr hst9)
        · refine bp_iconst (v := 1) (q := 83) 41 rfl rfl (by decide) ?_
          refine bp_goto (tgt := 87) 42 rfl (by decide) ?_
          refine bp_bipush (v := -7) (q := 89) 44 rfl rfl (by decide) ?_
          refine bp_aload_n (q := 90) 45 rfl rfl rfl rfl ?_
          refine bp_getI (q := 93) (ci := 9) (j := 12) 46 rfl rfl fl_Mo_90_9 hB1.kb rfl ?_
          rw [hB1.i12]
          refine bp_callV (q := 96) (ci := 9) 47 rfl rfl cw_Mo_failIf lk_Mo_118 rfl hB1.kb wd1449 wd44 rfl rfl (Nat.le_of_ble_eq_true rfl) ⟨Nat.le_of_ble_eq_true rfl, Nat.le_of_ble_eq_true rfl⟩ (s_Mo_failIf0 hB1 (by decide) rfl (fun h2 hB2 => ?_))
          refine bp_aload_n (q := 97) 48 rfl rfl rfl rfl ?_
          refine bp_iconst (v := 0) (q := 98) 49 rfl rfl (by decide) ?_
          refine bp_putI (q := 101) (ci := 9) (j := 22) 50 rfl rfl fl_Mo_108_9 cl9 hB2.kb (fun r hr => by cases hr; rfl) (by decide) rfl rfl ?_
          refine bp_nx (X := fun h3 => MoX M h0 h3 tw i (-7) (nI i) tl (mlV v) (v 3) (v 4) (v 5) nt.length 0 true tb.length nf nn dg nu kd pn pe T xs L ps L1 p1 nt tb fd) (hB2.s22 rfl) (fun h3 hB3 => ?_)
          refine bp_aload_n (q := 102) 51 rfl rfl rfl rfl ?_
          refine bp_getI (q := 105) (ci := 9) (j := 13) 52 rfl rfl fl_Mo_69_9 hB3.kb rfl ?_
          rw [hB3.i13]
          refine bp_if_ne (q := 108) (tgt := 112) 53 rfl rfl (by decide) (fun z105 => ?_) (fun z => absurd z (by decide))
          refine bp_aload_n (q := 113) 56 rfl rfl rfl rfl ?_
          refine bp_dup (q := 114) 57 rfl rfl rfl ?_
          refine bp_getI (q := 117) (ci := 9) (j := 12) 58 rfl rfl fl_Mo_90_9 hB3.kb rfl ?_
          rw [hB3.i12]
          refine bp_iconst (v := 1) (q := 118) 59 rfl rfl (by decide) ?_
          refine bp_iadd (q := 119) 60 rfl rfl ?_
          refine bp_putI (q := 122) (ci := 9) (j := 12) 61 rfl rfl fl_Mo_90_9 cl9 hB3.kb (fun r hr => by cases hr; rfl) (by decide) rfl rfl ?_
          refine bp_nx (X := fun h4 => MoX M h0 h4 tw (i + 1) (-7) (nI i) tl (mlV v) (v 3) (v 4) (v 5) nt.length 0 true tb.length nf nn dg nu kd pn pe T xs L ps L1 p1 nt tb fd) (hB3.s12 (nI_1 i)) (fun h4 hB4 => ?_)
          refine bp_goto (tgt := 195) 62 rfl (by decide) ?_
          refine bp_vret 100 rfl rfl  ⟨_, rfl, ?_⟩
          have hi : i < T.length := Nat.not_le.mp (fun e => absurd (nI_le e (by omega)) (by first | exact z50 | exact Int32.not_le.mpr z50))
          have hst9 := RR_step hT (σ := (i, 0, -1, lv, fr, false, false, v, nt, tb, nm, L1, p1)) hok rfl hi rfl
          have y := (nI_eq_iff (a := tc T i) (b := 123) (by have := tc_lt hT i; omega) (by decide)).mp (by first | exact z69 | exact Classical.not_not.mp z69)
          have hoN : okN T i (bThing T (i, 0, -1, lv, fr, false, false, v, nt, tb, nm, L1, p1)) := okB_thing hT hok hi
          have y79 := (nI_eq_iff (a := nt.length) (b := 12) (by have := hok.2.2.2.2.1; omega) (by decide)).mp (by first | exact z79 | exact Classical.not_not.mp z79)
          have e7 := (bT_u (T := T) (i := i) (fa := 0) (me := -1) (lv := lv) (fr := fr) (en := false) (v := v) (nt := nt) (tb := tb) (nm := nm) (L := L1) (ps := p1)).trans ((if_neg (by omega)).trans ((if_pos y).trans (bOp_u.trans (if_pos (by omega)))))
          exact hQ _ ((OUTB.bad hB4 (by rw [e7]) (by rw [e7]) (by decide)).tr hst9)
    · refine bp_aload_n (q := 54) 27 rfl rfl rfl rfl ?_
      refine bp_bipush (v := -2) (q := 56) 28 rfl rfl (by decide) ?_
      refine bp_aload_n (q := 57) 29 rfl rfl rfl rfl ?_
      refine bp_getI (q := 60) (ci := 9) (j := 1) 30 rfl rfl fl_Mo_63_9 hB1.kb rfl ?_
      rw [hB1.i1]
      refine bp_callV (q := 63) (ci := 9) 31 rfl rfl cw_Mo_fail lk_Mo_75 rfl hB1.kb wd1453 wd45 rfl rfl (Nat.le_of_ble_eq_true rfl) ⟨Nat.le_of_ble_eq_true rfl, Nat.le_of_ble_eq_true rfl⟩ (s_Mo_fail0 hB1 rfl (fun h2 hB2 => ?_))
      refine bp_goto (tgt := 195) 32 rfl (by decide) ?_
      refine bp_vret 100 rfl rfl  ⟨_, rfl, ?_⟩
      have hge : T.length ≤ i := Nat.not_lt.mp (fun e => absurd ((nI_lt_iff (by omega) (by omega)).mpr e) (by first | exact z50 | exact Int32.not_lt.mpr z50))
      have eR : RR T (i, 0, -1, lv, fr, false, false, v, nt, tb, nm, L1, p1) = bFin T (i, 0, -1, lv, fr, false, false, v, nt, tb, nm, L1, p1) := RR_fin rfl (Or.inl hge)
      exact hQ _ (OUTB.bad2 hB2 (by rw [eR]; rfl) (by rw [eR]; rfl) (by decide))
  · refine bp_aload_n (q := 22) 12 rfl rfl rfl rfl ?_
    refine bp_getI (q := 25) (ci := 9) (j := 23) 13 rfl rfl fl_Mo_122_9 hB0.kb rfl ?_
    rw [hB0.i23]
    refine bp_if_eq (q := 28) (tgt := 38) 14 rfl rfl (by decide) (fun z25 => ?_) (fun z25 => ?_)
    · refine bp_iconst (v := 0) (q := 39) 20 rfl rfl (by decide) ?_
      refine bp_putI (q := 42) (ci := 9) (j := 23) 21 rfl rfl fl_Mo_122_9 cl9 hB0.kb (fun r hr => by cases hr; rfl) (by decide) rfl rfl ?_
      refine bp_nx (X := fun h1 => MoX M h0 h1 tw i 0 fm tl (mlV v) (v 3) (v 4) (v 5) nt.length lv false tb.length nf nn dg nu kd pn pe T xs L ps L1 p1 nt tb fd) (hB0.s23 rfl) (fun h1 hB1 => ?_)
      refine bp_aload_n (q := 43) 22 rfl rfl rfl rfl ?_
      refine bp_getI (q := 46) (ci := 9) (j := 12) 23 rfl rfl fl_Mo_90_9 hB1.kb rfl ?_
      rw [hB1.i12]
      refine bp_aload_n (q := 47) 24 rfl rfl rfl rfl ?_
      refine bp_getI (q := 50) (ci := 9) (j := 1) 25 rfl rfl fl_Mo_63_9 hB1.kb rfl ?_
      rw [hB1.i1]
      refine bp_icmp_lt (q := 53) (tgt := 66) 26 rfl rfl (by decide) (fun z50 => ?_) (fun z50 => ?_)
      · refine bp_iload_n (q := 67) 33 rfl rfl rfl rfl ?_
        refine bp_bipush (v := 123) (q := 69) 34 rfl rfl (by decide) ?_
        refine bp_icmp_ne (q := 72) (tgt := 125) 35 rfl rfl (by decide) (fun z69 => ?_) (fun z69 => ?_)
        · refine bp_iload_n (q := 126) 63 rfl rfl rfl rfl ?_
          refine bp_bipush (v := 125) (q := 128) 64 rfl rfl (by decide) ?_
          refine bp_icmp_ne (q := 131) (tgt := 153) 65 rfl rfl (by decide) (fun z128 => ?_) (fun z128 => ?_)
          · refine bp_iload_n (q := 154) 78 rfl rfl rfl rfl ?_
            refine bp_bipush (v := 92) (q := 156) 79 rfl rfl (by decide) ?_
            refine bp_icmp_ne (q := 159) (tgt := 167) 80 rfl rfl (by decide) (fun z156 => ?_) (fun z156 => ?_)
            · refine bp_aload_n (q := 168) 85 rfl rfl rfl rfl ?_
              refine bp_dup (q := 169) 86 rfl rfl rfl ?_
              refine bp_getI (q := 172) (ci := 9) (j := 12) 87 rfl rfl fl_Mo_90_9 hB1.kb rfl ?_
              rw [hB1.i12]
              refine bp_iconst (v := 1) (q := 173) 88 rfl rfl (by decide) ?_
              refine bp_iadd (q := 174) 89 rfl rfl ?_
              refine bp_putI (q := 177) (ci := 9) (j := 12) 90 rfl rfl fl_Mo_90_9 cl9 hB1.kb (fun r hr => by cases hr; rfl) (by decide) rfl rfl ?_
              refine bp_nx (X := fun h2 => MoX M h0 h2 tw (i + 1) 0 fm tl (mlV v) (v 3) (v 4) (v 5) nt.length lv false tb.length nf nn dg nu kd pn pe T xs L ps L1 p1 nt tb fd) (hB1.s12 (nI_1 i)) (fun h2 hB2 => ?_)
              refine bp_iload_n (q := 178) 91 rfl rfl rfl rfl ?_
              refine bp_bipush (v := 10) (q := 180) 92 rfl rfl (by decide) ?_
              refine bp_icmp_eq (q := 183) (tgt := 195) 93 rfl rfl (by decide) (fun z180 => ?_) (fun z180 => ?_)
              · refine bp_vret 100 rfl rfl  ⟨_, rfl, ?_⟩
                have hi : i < T.length := Nat.not_le.mp (fun e => absurd (nI_le e (by omega)) (by first | exact z50 | exact Int32.not_le.mpr z50))
                have hst9 := RR_step hT (σ := (i, 0, -1, lv, fr, false, false, v, nt, tb, nm, L1, p1)) hok rfl hi rfl
                have y92 : ¬ tc T i = 92 := (fun e => z156 (by rw [e]; rfl))
                have y123 : ¬ tc T i = 123 := (fun e => z69 (by rw [e]; rfl))
                have y125 : ¬ tc T i = 125 := (fun e => z128 (by rw [e]; rfl))
                have hnt : ¬ nt = [] := hst.resolve_right y123
                have hoN : okN T i (bThing T (i, 0, -1, lv, fr, false, false, v, nt, tb, nm, L1, p1)) := okB_thing hT hok hi
                have y := (nI_eq_iff (a := tc T i) (b := 10) (by have := tc_lt hT i; omega) (by decide)).mp (by first | exact z180 | exact Classical.not_not.mp z180)
                have yf : fr = false := bI0.mp (by first | exact z25 | exact Classical.not_not.mp z25)
                subst yf
                exact hQ _ ((OUTB.ok (v := v) (nm := nm) hB2 (by rw [decide_eq_false hnt]; exact bT_u.trans (if_pos y)) hoN).tr hst9)
              · refine bp_aload_n (q := 184) 94 rfl rfl rfl rfl ?_
                refine bp_callV (q := 187) (ci := 9) 95 rfl rfl cw_Mo_leftOut lk_Mo_150 rfl hB2.kb wd1483 wd51 rfl rfl (Nat.le_of_ble_eq_true rfl) ⟨Nat.le_of_ble_eq_true rfl, Nat.le_of_ble_eq_true rfl⟩ (s_Mo_leftOut hB2 (by omega) (fun h3 hB3 => ?_))
                refine bp_if_ne (q := 190) (tgt := 195) 96 rfl rfl (by decide) (fun z187 => ?_) (fun z187 => ?_)
                · refine bp_vret 100 rfl rfl  ⟨_, rfl, ?_⟩
                  have hi : i < T.length := Nat.not_le.mp (fun e => absurd (nI_le e (by omega)) (by first | exact z50 | exact Int32.not_le.mpr z50))
                  have hst9 := RR_step hT (σ := (i, 0, -1, lv, fr, false, false, v, nt, tb, nm, L1, p1)) hok rfl hi rfl
                  have y92 : ¬ tc T i = 92 := (fun e => z156 (by rw [e]; rfl))
                  have y123 : ¬ tc T i = 123 := (fun e => z69 (by rw [e]; rfl))
                  have y125 : ¬ tc T i = 125 := (fun e => z128 (by rw [e]; rfl))
                  have hnt : ¬ nt = [] := hst.resolve_right y123
                  have hoN : okN T i (bThing T (i, 0, -1, lv, fr, false, false, v, nt, tb, nm, L1, p1)) := okB_thing hT hok hi
                  have y10 : ¬ tc T i = 10 := (fun e => z180 (by rw [e]; rfl))
                  have e8 := (bT_u (T := T) (i := i) (fa := 0) (me := -1) (lv := lv) (fr := fr) (en := false) (v := v) (nt := nt) (tb := tb) (nm := nm) (L := L1) (ps := p1)).trans ((if_neg y10).trans ((if_neg y123).trans ((if_neg y125).trans (if_neg y92))))
                  have y187 : lv ≠ 0 := of_decide_eq_true (bI1 z187)
                  exact hQ _ ((OUTB.ok (v := v) (nm := nm) hB3 (by rw [decide_eq_false hnt]; exact e8.trans (bL_u.trans (if_pos y187))) hoN).tr hst9)
                · refine bp_aload_n (q := 191) 97 rfl rfl rfl rfl ?_
                  refine bp_iload_n (q := 192) 98 rfl rfl rfl rfl ?_
                  have hi : i < T.length := Nat.not_le.mp (fun e => absurd (nI_le e (by omega)) (by first | exact z50 | exact Int32.not_le.mpr z50))
                  refine bp_callV (q := 195) (ci := 9) 99 rfl rfl cw_Mo_braceLetter lk_Mo_154 rfl hB3.kb wd1519 wd56 rfl rfl (Nat.le_of_ble_eq_true rfl) ⟨Nat.le_of_ble_eq_true rfl, Nat.le_of_ble_eq_true rfl⟩ (s_Mo_braceLetter (u := tc T i) (y := lkV v) hB3 (mlV_cm hV) (by omega) hends (fun h4 hB4 => ?_))
                  refine bp_vret 100 rfl rfl  ⟨_, rfl, ?_⟩
                  have hst9 := RR_step hT (σ := (i, 0, -1, lv, fr, false, false, v, nt, tb, nm, L1, p1)) hok rfl hi rfl
                  have y92 : ¬ tc T i = 92 := (fun e => z156 (by rw [e]; rfl))
                  have y123 : ¬ tc T i = 123 := (fun e => z69 (by rw [e]; rfl))
                  have y125 : ¬ tc T i = 125 := (fun e => z128 (by rw [e]; rfl))
                  have hnt : ¬ nt = [] := hst.resolve_right y123
                  have hoN : okN T i (bThing T (i, 0, -1, lv, fr, false, false, v, nt, tb, nm, L1, p1)) := okB_thing hT hok hi
                  have y10 : ¬ tc T i = 10 := (fun e => z180 (by rw [e]; rfl))
                  have e8 := (bT_u (T := T) (i := i) (fa := 0) (me := -1) (lv := lv) (fr := fr) (en := false) (v := v) (nt := nt) (tb := tb) (nm := nm) (L := L1) (ps := p1)).trans ((if_neg y10).trans ((if_neg y123).trans ((if_neg y125).trans (if_neg y92))))
                  have y187 : ¬ lv ≠ 0 := of_decide_eq_false (bI0.mp (by first | exact z187 | exact Classical.not_not.mp z187))
                  have y32 : ¬ tc T i < 32 := by have := (hC.2 i hi).resolve_left y10; omega
                  exact hQ _ ((OUTB.ok (v := v) (nm := nm) hB4 (by rw [decide_eq_false hnt]; exact e8.trans (bL_u.trans ((if_neg y187).trans (if_neg y32)))) hoN).tr hst9)
            · refine bp_aload_n (q := 160) 81 rfl rfl rfl rfl ?_
              refine bp_iload_n (q := 161) 82 rfl rfl rfl rfl ?_
              have hi : i < T.length := Nat.not_le.mp (fun e => absurd (nI_le e (by omega)) (by first | exact z50 | exact Int32.not_le.mpr z50))
              have hnt : ¬ nt = [] := hst.resolve_right (fun e => by rw [(nI_eq_iff (a := tc T i) (b := 92) (by have := tc_lt hT i; omega) (by decide)).mp (by first | exact z156 | exact Classical.not_not.mp z156)] at e; exact absurd e (by decide))
              refine bp_callV (q := 164) (ci := 9) 83 rfl rfl cw_Mo_readBackslash lk_Mo_146 rfl hB1.kb wd1469 wd49 rfl rfl (Nat.le_of_ble_eq_true rfl) ⟨Nat.le_of_ble_eq_true rfl, Nat.le_of_ble_eq_true rfl⟩ (s_Mo_readBackslash (b := fr) (nm := nm) hB1 hT hok hi hnt (fun h9 ho => ?_))
              refine bp_goto (tgt := 195) 84 rfl (by decide) ?_
              refine bp_vret 100 rfl rfl  ⟨_, rfl, ?_⟩
              have y92 := (nI_eq_iff (a := tc T i) (b := 92) (by have := tc_lt hT i; omega) (by decide)).mp (by first | exact z156 | exact Classical.not_not.mp z156)
              exact hQ _ (ho.tr ((RR_step hT (σ := (i, 0, -1, lv, fr, false, false, v, nt, tb, nm, L1, p1)) hok rfl hi rfl).trans (by rw [bT_u, if_neg (by omega), if_neg (by omega), if_neg (by omega), if_pos y92])))
          · refine bp_aload_n (q := 132) 66 rfl rfl rfl rfl ?_
            refine bp_iconst (v := 0) (q := 133) 67 rfl rfl (by decide) ?_
            refine bp_putI (q := 136) (ci := 9) (j := 22) 68 rfl rfl fl_Mo_108_9 cl9 hB1.kb (fun r hr => by cases hr; rfl) (by decide) rfl rfl ?_
            refine bp_nx (X := fun h2 => MoX M h0 h2 tw i 0 fm tl (mlV v) (v 3) (v 4) (v 5) nt.length 0 false tb.length nf nn dg nu kd pn pe T xs L ps L1 p1 nt tb fd) (hB1.s22 rfl) (fun h2 hB2 => ?_)
            refine bp_aload_n (q := 137) 69 rfl rfl rfl rfl ?_
            have hnt : ¬ nt = [] := hst.resolve_right (fun e => by rw [(nI_eq_iff (a := tc T i) (b := 125) (by have := tc_lt hT i; omega) (by decide)).mp (by first | exact z128 | exact Classical.not_not.mp z128)] at e; exact absurd e (by decide))
            obtain ⟨ns, u, e⟩ := (nil_or_snoc nt).resolve_left hnt
            subst e
            have hn12 : ns.length + 1 ≤ 12 := by have := hok.2.2.2.2.1; rw [List.length_append] at this; exact this
            have hB2 : MoX M h0 h2 tw i 0 fm tl (mlV v) (v 3) (v 4) (v 5) (ns.length + 1) 0 false tb.length nf nn dg nu kd pn pe T xs L ps L1 p1 (ns ++ [u]) tb fd := by
              have z := hB2
              rw [List.length_append] at z
              exact z
            refine bp_callV (q := 140) (ci := 9) 70 rfl rfl cw_Mo_recall lk_Mo_143 rfl hB2.kb wd1465 wd48 rfl rfl (Nat.le_of_ble_eq_true rfl) ⟨Nat.le_of_ble_eq_true rfl, Nat.le_of_ble_eq_true rfl⟩ (s_Mo_recall (v := u) hB2 (by omega) (fun h3 hB3 => ?_))
            refine bp_aload_n (q := 141) 71 rfl rfl rfl rfl ?_
            refine bp_dup (q := 142) 72 rfl rfl rfl ?_
            refine bp_getI (q := 145) (ci := 9) (j := 12) 73 rfl rfl fl_Mo_90_9 hB3.kb rfl ?_
            rw [hB3.i12]
            refine bp_iconst (v := 1) (q := 146) 74 rfl rfl (by decide) ?_
            refine bp_iadd (q := 147) 75 rfl rfl ?_
            refine bp_putI (q := 150) (ci := 9) (j := 12) 76 rfl rfl fl_Mo_90_9 cl9 hB3.kb (fun r hr => by cases hr; rfl) (by decide) rfl rfl ?_
            refine bp_nx (X := fun h4 => MoX M h0 h4 tw (i + 1) 0 fm tl (mlV u) (u 3) (u 4) (u 5) ns.length 0 false tb.length nf nn dg nu kd pn pe T xs L ps L1 p1 ns tb fd) (hB3.s12 (nI_1 i)) (fun h4 hB4 => ?_)
            refine bp_goto (tgt := 195) 77 rfl (by decide) ?_
            refine bp_vret 100 rfl rfl  ⟨_, rfl, ?_⟩
            have hi : i < T.length := Nat.not_le.mp (fun e => absurd (nI_le e (by omega)) (by first | exact z50 | exact Int32.not_le.mpr z50))
            have hst9 := RR_step hT (σ := (i, 0, -1, lv, fr, false, false, v, ns ++ [u], tb, nm, L1, p1)) hok rfl hi rfl
            have y := (nI_eq_iff (a := tc T i) (b := 125) (by have := tc_lt hT i; omega) (by decide)).mp (by first | exact z128 | exact Classical.not_not.mp z128)
            have hoN : okN T i (bThing T (i, 0, -1, lv, fr, false, false, v, ns ++ [u], tb, nm, L1, p1)) := okB_thing hT hok hi
            exact hQ _ ((OUTB.ok (v := u) (nm := nm) hB4 ((bt_125b y).trans bCl_u) hoN).tr hst9)
        · exact absurd (by first | exact z69 | exact Classical.not_not.mp z69) z18
      · refine bp_aload_n (q := 54) 27 rfl rfl rfl rfl ?_
        refine bp_bipush (v := -2) (q := 56) 28 rfl rfl (by decide) ?_
        refine bp_aload_n (q := 57) 29 rfl rfl rfl rfl ?_
        refine bp_getI (q := 60) (ci := 9) (j := 1) 30 rfl rfl fl_Mo_63_9 hB1.kb rfl ?_
        rw [hB1.i1]
        refine bp_callV (q := 63) (ci := 9) 31 rfl rfl cw_Mo_fail lk_Mo_75 rfl hB1.kb wd1453 wd45 rfl rfl (Nat.le_of_ble_eq_true rfl) ⟨Nat.le_of_ble_eq_true rfl, Nat.le_of_ble_eq_true rfl⟩ (s_Mo_fail0 hB1 rfl (fun h2 hB2 => ?_))
        refine bp_goto (tgt := 195) 32 rfl (by decide) ?_
        refine bp_vret 100 rfl rfl  ⟨_, rfl, ?_⟩
        have hge : T.length ≤ i := Nat.not_lt.mp (fun e => absurd ((nI_lt_iff (by omega) (by omega)).mpr e) (by first | exact z50 | exact Int32.not_lt.mpr z50))
        have eR : RR T (i, 0, -1, lv, fr, false, false, v, nt, tb, nm, L1, p1) = bFin T (i, 0, -1, lv, fr, false, false, v, nt, tb, nm, L1, p1) := RR_fin rfl (Or.inl hge)
        exact hQ _ (OUTB.bad2 hB2 (by rw [eR]; rfl) (by rw [eR]; rfl) (by decide))
    · refine bp_iload_n (q := 29) 15 rfl rfl rfl rfl ?_
      refine bp_bipush (v := 10) (q := 31) 16 rfl rfl (by decide) ?_
      refine bp_icmp_ne (q := 34) (tgt := 38) 17 rfl rfl (by decide) (fun z31 => ?_) (fun z31 => ?_)
      · refine bp_iconst (v := 0) (q := 39) 20 rfl rfl (by decide) ?_
        refine bp_putI (q := 42) (ci := 9) (j := 23) 21 rfl rfl fl_Mo_122_9 cl9 hB0.kb (fun r hr => by cases hr; rfl) (by decide) rfl rfl ?_
        refine bp_nx (X := fun h1 => MoX M h0 h1 tw i 0 fm tl (mlV v) (v 3) (v 4) (v 5) nt.length lv false tb.length nf nn dg nu kd pn pe T xs L ps L1 p1 nt tb fd) (hB0.s23 rfl) (fun h1 hB1 => ?_)
        refine bp_aload_n (q := 43) 22 rfl rfl rfl rfl ?_
        refine bp_getI (q := 46) (ci := 9) (j := 12) 23 rfl rfl fl_Mo_90_9 hB1.kb rfl ?_
        rw [hB1.i12]
        refine bp_aload_n (q := 47) 24 rfl rfl rfl rfl ?_
        refine bp_getI (q := 50) (ci := 9) (j := 1) 25 rfl rfl fl_Mo_63_9 hB1.kb rfl ?_
        rw [hB1.i1]
        refine bp_icmp_lt (q := 53) (tgt := 66) 26 rfl rfl (by decide) (fun z50 => ?_) (fun z50 => ?_)
        · refine bp_iload_n (q := 67) 33 rfl rfl rfl rfl ?_
          refine bp_bipush (v := 123) (q := 69) 34 rfl rfl (by decide) ?_
          refine bp_icmp_ne (q := 72) (tgt := 125) 35 rfl rfl (by decide) (fun z69 => ?_) (fun z69 => ?_)
          · refine bp_iload_n (q := 126) 63 rfl rfl rfl rfl ?_
            refine bp_bipush (v := 125) (q := 128) 64 rfl rfl (by decide) ?_
            refine bp_icmp_ne (q := 131) (tgt := 153) 65 rfl rfl (by decide) (fun z128 => ?_) (fun z128 => ?_)
            · refine bp_iload_n (q := 154) 78 rfl rfl rfl rfl ?_
              refine bp_bipush (v := 92) (q := 156) 79 rfl rfl (by decide) ?_
              refine bp_icmp_ne (q := 159) (tgt := 167) 80 rfl rfl (by decide) (fun z156 => ?_) (fun z156 => ?_)
              · refine bp_aload_n (q := 168) 85 rfl rfl rfl rfl ?_
                refine bp_dup (q := 169) 86 rfl rfl rfl ?_
                refine bp_getI (q := 172) (ci := 9) (j := 12) 87 rfl rfl fl_Mo_90_9 hB1.kb rfl ?_
                rw [hB1.i12]
                refine bp_iconst (v := 1) (q := 173) 88 rfl rfl (by decide) ?_
                refine bp_iadd (q := 174) 89 rfl rfl ?_
                refine bp_putI (q := 177) (ci := 9) (j := 12) 90 rfl rfl fl_Mo_90_9 cl9 hB1.kb (fun r hr => by cases hr; rfl) (by decide) rfl rfl ?_
                refine bp_nx (X := fun h2 => MoX M h0 h2 tw (i + 1) 0 fm tl (mlV v) (v 3) (v 4) (v 5) nt.length lv false tb.length nf nn dg nu kd pn pe T xs L ps L1 p1 nt tb fd) (hB1.s12 (nI_1 i)) (fun h2 hB2 => ?_)
                refine bp_iload_n (q := 178) 91 rfl rfl rfl rfl ?_
                refine bp_bipush (v := 10) (q := 180) 92 rfl rfl (by decide) ?_
                refine bp_icmp_eq (q := 183) (tgt := 195) 93 rfl rfl (by decide) (fun z180 => ?_) (fun z180 => ?_)
                · exact absurd (by first | exact z180 | exact Classical.not_not.mp z180) z31
                · refine bp_aload_n (q := 184) 94 rfl rfl rfl rfl ?_
                  refine bp_callV (q := 187) (ci := 9) 95 rfl rfl cw_Mo_leftOut lk_Mo_150 rfl hB2.kb wd1483 wd51 rfl rfl (Nat.le_of_ble_eq_true rfl) ⟨Nat.le_of_ble_eq_true rfl, Nat.le_of_ble_eq_true rfl⟩ (s_Mo_leftOut hB2 (by omega) (fun h3 hB3 => ?_))
                  refine bp_if_ne (q := 190) (tgt := 195) 96 rfl rfl (by decide) (fun z187 => ?_) (fun z187 => ?_)
                  · refine bp_vret 100 rfl rfl  ⟨_, rfl, ?_⟩
                    have hi : i < T.length := Nat.not_le.mp (fun e => absurd (nI_le e (by omega)) (by first | exact z50 | exact Int32.not_le.mpr z50))
                    have hst9 := RR_step hT (σ := (i, 0, -1, lv, fr, false, false, v, nt, tb, nm, L1, p1)) hok rfl hi rfl
                    have y92 : ¬ tc T i = 92 := (fun e => z156 (by rw [e]; rfl))
                    have y123 : ¬ tc T i = 123 := (fun e => z69 (by rw [e]; rfl))
                    have y125 : ¬ tc T i = 125 := (fun e => z128 (by rw [e]; rfl))
                    have hnt : ¬ nt = [] := hst.resolve_right y123
                    have hoN : okN T i (bThing T (i, 0, -1, lv, fr, false, false, v, nt, tb, nm, L1, p1)) := okB_thing hT hok hi
                    have y10 : ¬ tc T i = 10 := (fun e => z180 (by rw [e]; rfl))
                    have e8 := (bT_u (T := T) (i := i) (fa := 0) (me := -1) (lv := lv) (fr := fr) (en := false) (v := v) (nt := nt) (tb := tb) (nm := nm) (L := L1) (ps := p1)).trans ((if_neg y10).trans ((if_neg y123).trans ((if_neg y125).trans (if_neg y92))))
                    have y187 : lv ≠ 0 := of_decide_eq_true (bI1 z187)
                    exact hQ _ ((OUTB.ok (v := v) (nm := nm) hB3 (by rw [decide_eq_false hnt]; exact e8.trans (bL_u.trans (if_pos y187))) hoN).tr hst9)
                  · refine bp_aload_n (q := 191) 97 rfl rfl rfl rfl ?_
                    refine bp_iload_n (q := 192) 98 rfl rfl rfl rfl ?_
                    have hi : i < T.length := Nat.not_le.mp (fun e => absurd (nI_le e (by omega)) (by first | exact z50 | exact Int32.not_le.mpr z50))
                    refine bp_callV (q := 195) (ci := 9) 99 rfl rfl cw_Mo_braceLetter lk_Mo_154 rfl hB3.kb wd1519 wd56 rfl rfl (Nat.le_of_ble_eq_true rfl) ⟨Nat.le_of_ble_eq_true rfl, Nat.le_of_ble_eq_true rfl⟩ (s_Mo_braceLetter (u := tc T i) (y := lkV v) hB3 (mlV_cm hV) (by omega) hends (fun h4 hB4 => ?_))
                    refine bp_vret 100 rfl rfl  ⟨_, rfl, ?_⟩
                    have hst9 := RR_step hT (σ := (i, 0, -1, lv, fr, false, false, v, nt, tb, nm, L1, p1)) hok rfl hi rfl
                    have y92 : ¬ tc T i = 92 := (fun e => z156 (by rw [e]; rfl))
                    have y123 : ¬ tc T i = 123 := (fun e => z69 (by rw [e]; rfl))
                    have y125 : ¬ tc T i = 125 := (fun e => z128 (by rw [e]; rfl))
                    have hnt : ¬ nt = [] := hst.resolve_right y123
                    have hoN : okN T i (bThing T (i, 0, -1, lv, fr, false, false, v, nt, tb, nm, L1, p1)) := okB_thing hT hok hi
                    have y10 : ¬ tc T i = 10 := (fun e => z180 (by rw [e]; rfl))
                    have e8 := (bT_u (T := T) (i := i) (fa := 0) (me := -1) (lv := lv) (fr := fr) (en := false) (v := v) (nt := nt) (tb := tb) (nm := nm) (L := L1) (ps := p1)).trans ((if_neg y10).trans ((if_neg y123).trans ((if_neg y125).trans (if_neg y92))))
                    have y187 : ¬ lv ≠ 0 := of_decide_eq_false (bI0.mp (by first | exact z187 | exact Classical.not_not.mp z187))
                    have y32 : ¬ tc T i < 32 := by have := (hC.2 i hi).resolve_left y10; omega
                    exact hQ _ ((OUTB.ok (v := v) (nm := nm) hB4 (by rw [decide_eq_false hnt]; exact e8.trans (bL_u.trans ((if_neg y187).trans (if_neg y32)))) hoN).tr hst9)
              · refine bp_aload_n (q := 160) 81 rfl rfl rfl rfl ?_
                refine bp_iload_n (q := 161) 82 rfl rfl rfl rfl ?_
                have hi : i < T.length := Nat.not_le.mp (fun e => absurd (nI_le e (by omega)) (by first | exact z50 | exact Int32.not_le.mpr z50))
                have hnt : ¬ nt = [] := hst.resolve_right (fun e => by rw [(nI_eq_iff (a := tc T i) (b := 92) (by have := tc_lt hT i; omega) (by decide)).mp (by first | exact z156 | exact Classical.not_not.mp z156)] at e; exact absurd e (by decide))
                refine bp_callV (q := 164) (ci := 9) 83 rfl rfl cw_Mo_readBackslash lk_Mo_146 rfl hB1.kb wd1469 wd49 rfl rfl (Nat.le_of_ble_eq_true rfl) ⟨Nat.le_of_ble_eq_true rfl, Nat.le_of_ble_eq_true rfl⟩ (s_Mo_readBackslash (b := fr) (nm := nm) hB1 hT hok hi hnt (fun h9 ho => ?_))
                refine bp_goto (tgt := 195) 84 rfl (by decide) ?_
                refine bp_vret 100 rfl rfl  ⟨_, rfl, ?_⟩
                have y92 := (nI_eq_iff (a := tc T i) (b := 92) (by have := tc_lt hT i; omega) (by decide)).mp (by first | exact z156 | exact Classical.not_not.mp z156)
                exact hQ _ (ho.tr ((RR_step hT (σ := (i, 0, -1, lv, fr, false, false, v, nt, tb, nm, L1, p1)) hok rfl hi rfl).trans (by rw [bT_u, if_neg (by omega), if_neg (by omega), if_neg (by omega), if_pos y92])))
            · refine bp_aload_n (q := 132) 66 rfl rfl rfl rfl ?_
              refine bp_iconst (v := 0) (q := 133) 67 rfl rfl (by decide) ?_
              refine bp_putI (q := 136) (ci := 9) (j := 22) 68 rfl rfl fl_Mo_108_9 cl9 hB1.kb (fun r hr => by cases hr; rfl) (by decide) rfl rfl ?_
              refine bp_nx (X := fun h2 => MoX M h0 h2 tw i 0 fm tl (mlV v) (v 3) (v 4) (v 5) nt.length 0 false tb.length nf nn dg nu kd pn pe T xs L ps L1 p1 nt tb fd) (hB1.s22 rfl) (fun h2 hB2 => ?_)
              refine bp_aload_n (q := 137) 69 rfl rfl rfl rfl ?_
              have hnt : ¬ nt = [] := hst.resolve_right (fun e => by rw [(nI_eq_iff (a := tc T i) (b := 125) (by have := tc_lt hT i; omega) (by decide)).mp (by first | exact z128 | exact Classical.not_not.mp z128)] at e; exact absurd e (by decide))
              obtain ⟨ns, u, e⟩ := (nil_or_snoc nt).resolve_left hnt
              subst e
              have hn12 : ns.length + 1 ≤ 12 := by have := hok.2.2.2.2.1; rw [List.length_append] at this; exact this
              have hB2 : MoX M h0 h2 tw i 0 fm tl (mlV v) (v 3) (v 4) (v 5) (ns.length + 1) 0 false tb.length nf nn dg nu kd pn pe T xs L ps L1 p1 (ns ++ [u]) tb fd := by
                have z := hB2
                rw [List.length_append] at z
                exact z
              refine bp_callV (q := 140) (ci := 9) 70 rfl rfl cw_Mo_recall lk_Mo_143 rfl hB2.kb wd1465 wd48 rfl rfl (Nat.le_of_ble_eq_true rfl) ⟨Nat.le_of_ble_eq_true rfl, Nat.le_of_ble_eq_true rfl⟩ (s_Mo_recall (v := u) hB2 (by omega) (fun h3 hB3 => ?_))
              refine bp_aload_n (q := 141) 71 rfl rfl rfl rfl ?_
              refine bp_dup (q := 142) 72 rfl rfl rfl ?_
              refine bp_getI (q := 145) (ci := 9) (j := 12) 73 rfl rfl fl_Mo_90_9 hB3.kb rfl ?_
              rw [hB3.i12]
              refine bp_iconst (v := 1) (q := 146) 74 rfl rfl (by decide) ?_
              refine bp_iadd (q := 147) 75 rfl rfl ?_
              refine bp_putI (q := 150) (ci := 9) (j := 12) 76 rfl rfl fl_Mo_90_9 cl9 hB3.kb (fun r hr => by cases hr; rfl) (by decide) rfl rfl ?_
              refine bp_nx (X := fun h4 => MoX M h0 h4 tw (i + 1) 0 fm tl (mlV u) (u 3) (u 4) (u 5) ns.length 0 false tb.length nf nn dg nu kd pn pe T xs L ps L1 p1 ns tb fd) (hB3.s12 (nI_1 i)) (fun h4 hB4 => ?_)
              refine bp_goto (tgt := 195) 77 rfl (by decide) ?_
              refine bp_vret 100 rfl rfl  ⟨_, rfl, ?_⟩
              have hi : i < T.length := Nat.not_le.mp (fun e => absurd (nI_le e (by omega)) (by first | exact z50 | exact Int32.not_le.mpr z50))
              have hst9 := RR_step hT (σ := (i, 0, -1, lv, fr, false, false, v, ns ++ [u], tb, nm, L1, p1)) hok rfl hi rfl
              have y := (nI_eq_iff (a := tc T i) (b := 125) (by have := tc_lt hT i; omega) (by decide)).mp (by first | exact z128 | exact Classical.not_not.mp z128)
              have hoN : okN T i (bThing T (i, 0, -1, lv, fr, false, false, v, ns ++ [u], tb, nm, L1, p1)) := okB_thing hT hok hi
              exact hQ _ ((OUTB.ok (v := u) (nm := nm) hB4 ((bt_125b y).trans bCl_u) hoN).tr hst9)
          · exact absurd (by first | exact z69 | exact Classical.not_not.mp z69) z18
        · refine bp_aload_n (q := 54) 27 rfl rfl rfl rfl ?_
          refine bp_bipush (v := -2) (q := 56) 28 rfl rfl (by decide) ?_
          refine bp_aload_n (q := 57) 29 rfl rfl rfl rfl ?_
          refine bp_getI (q := 60) (ci := 9) (j := 1) 30 rfl rfl fl_Mo_63_9 hB1.kb rfl ?_
          rw [hB1.i1]
          refine bp_callV (q := 63) (ci := 9) 31 rfl rfl cw_Mo_fail lk_Mo_75 rfl hB1.kb wd1453 wd45 rfl rfl (Nat.le_of_ble_eq_true rfl) ⟨Nat.le_of_ble_eq_true rfl, Nat.le_of_ble_eq_true rfl⟩ (s_Mo_fail0 hB1 rfl (fun h2 hB2 => ?_))
          refine bp_goto (tgt := 195) 32 rfl (by decide) ?_
          refine bp_vret 100 rfl rfl  ⟨_, rfl, ?_⟩
          have hge : T.length ≤ i := Nat.not_lt.mp (fun e => absurd ((nI_lt_iff (by omega) (by omega)).mpr e) (by first | exact z50 | exact Int32.not_lt.mpr z50))
          have eR : RR T (i, 0, -1, lv, fr, false, false, v, nt, tb, nm, L1, p1) = bFin T (i, 0, -1, lv, fr, false, false, v, nt, tb, nm, L1, p1) := RR_fin rfl (Or.inl hge)
          exact hQ _ (OUTB.bad2 hB2 (by rw [eR]; rfl) (by rw [eR]; rfl) (by decide))
      · refine bp_iconst (v := 1) (q := 35) 18 rfl rfl (by decide) ?_
        refine bp_goto (tgt := 39) 19 rfl (by decide) ?_
        refine bp_putI (q := 42) (ci := 9) (j := 23) 21 rfl rfl fl_Mo_122_9 cl9 hB0.kb (fun r hr => by cases hr; rfl) (by decide) rfl rfl ?_
        refine bp_nx (X := fun h1 => MoX M h0 h1 tw i 0 fm tl (mlV v) (v 3) (v 4) (v 5) nt.length lv true tb.length nf nn dg nu kd pn pe T xs L ps L1 p1 nt tb fd) (hB0.s23 rfl) (fun h1 hB1 => ?_)
        refine bp_aload_n (q := 43) 22 rfl rfl rfl rfl ?_
        refine bp_getI (q := 46) (ci := 9) (j := 12) 23 rfl rfl fl_Mo_90_9 hB1.kb rfl ?_
        rw [hB1.i12]
        refine bp_aload_n (q := 47) 24 rfl rfl rfl rfl ?_
        refine bp_getI (q := 50) (ci := 9) (j := 1) 25 rfl rfl fl_Mo_63_9 hB1.kb rfl ?_
        rw [hB1.i1]
        refine bp_icmp_lt (q := 53) (tgt := 66) 26 rfl rfl (by decide) (fun z50 => ?_) (fun z50 => ?_)
        · refine bp_iload_n (q := 67) 33 rfl rfl rfl rfl ?_
          refine bp_bipush (v := 123) (q := 69) 34 rfl rfl (by decide) ?_
          refine bp_icmp_ne (q := 72) (tgt := 125) 35 rfl rfl (by decide) (fun z69 => ?_) (fun z69 => ?_)
          · refine bp_iload_n (q := 126) 63 rfl rfl rfl rfl ?_
            refine bp_bipush (v := 125) (q := 128) 64 rfl rfl (by decide) ?_
            refine bp_icmp_ne (q := 131) (tgt := 153) 65 rfl rfl (by decide) (fun z128 => ?_) (fun z128 => ?_)
            · refine bp_iload_n (q := 154) 78 rfl rfl rfl rfl ?_
              refine bp_bipush (v := 92) (q := 156) 79 rfl rfl (by decide) ?_
              refine bp_icmp_ne (q := 159) (tgt := 167) 80 rfl rfl (by decide) (fun z156 => ?_) (fun z156 => ?_)
              · refine bp_aload_n (q := 168) 85 rfl rfl rfl rfl ?_
                refine bp_dup (q := 169) 86 rfl rfl rfl ?_
                refine bp_getI (q := 172) (ci := 9) (j := 12) 87 rfl rfl fl_Mo_90_9 hB1.kb rfl ?_
                rw [hB1.i12]
                refine bp_iconst (v := 1) (q := 173) 88 rfl rfl (by decide) ?_
                refine bp_iadd (q := 174) 89 rfl rfl ?_
                refine bp_putI (q := 177) (ci := 9) (j := 12) 90 rfl rfl fl_Mo_90_9 cl9 hB1.kb (fun r hr => by cases hr; rfl) (by decide) rfl rfl ?_
                refine bp_nx (X := fun h2 => MoX M h0 h2 tw (i + 1) 0 fm tl (mlV v) (v 3) (v 4) (v 5) nt.length lv true tb.length nf nn dg nu kd pn pe T xs L ps L1 p1 nt tb fd) (hB1.s12 (nI_1 i)) (fun h2 hB2 => ?_)
                refine bp_iload_n (q := 178) 91 rfl rfl rfl rfl ?_
                refine bp_bipush (v := 10) (q := 180) 92 rfl rfl (by decide) ?_
                refine bp_icmp_eq (q := 183) (tgt := 195) 93 rfl rfl (by decide) (fun z180 => ?_) (fun z180 => ?_)
                · refine bp_vret 100 rfl rfl  ⟨_, rfl, ?_⟩
                  have hi : i < T.length := Nat.not_le.mp (fun e => absurd (nI_le e (by omega)) (by first | exact z50 | exact Int32.not_le.mpr z50))
                  have hst9 := RR_step hT (σ := (i, 0, -1, lv, fr, false, false, v, nt, tb, nm, L1, p1)) hok rfl hi rfl
                  have y92 : ¬ tc T i = 92 := (fun e => z156 (by rw [e]; rfl))
                  have y123 : ¬ tc T i = 123 := (fun e => z69 (by rw [e]; rfl))
                  have y125 : ¬ tc T i = 125 := (fun e => z128 (by rw [e]; rfl))
                  have hnt : ¬ nt = [] := hst.resolve_right y123
                  have hoN : okN T i (bThing T (i, 0, -1, lv, fr, false, false, v, nt, tb, nm, L1, p1)) := okB_thing hT hok hi
                  have y := (nI_eq_iff (a := tc T i) (b := 10) (by have := tc_lt hT i; omega) (by decide)).mp (by first | exact z180 | exact Classical.not_not.mp z180)
                  have yf : fr = true := bI1 z25
                  subst yf
                  exact hQ _ ((OUTB.ok (v := v) (nm := nm) hB2 (by rw [decide_eq_false hnt]; exact bT_u.trans (if_pos y)) hoN).tr hst9)
                · exact absurd (by first | exact z31 | exact Classical.not_not.mp z31) z180
              · exact absurd ((nI_eq_iff (a := tc T i) (b := 92) (by have := tc_lt hT i; omega) (by decide)).mp (by first | exact z156 | exact Classical.not_not.mp z156)) (by rw [(nI_eq_iff (a := tc T i) (b := 10) (by have := tc_lt hT i; omega) (by decide)).mp (by first | exact z31 | exact Classical.not_not.mp z31)]; decide)
            · exact absurd ((nI_eq_iff (a := tc T i) (b := 125) (by have := tc_lt hT i; omega) (by decide)).mp (by first | exact z128 | exact Classical.not_not.mp z128)) (by rw [(nI_eq_iff (a := tc T i) (b := 10) (by have := tc_lt hT i; omega) (by decide)).mp (by first | exact z31 | exact Classical.not_not.mp z31)]; decide)
          · exact absurd (by first | exact z69 | exact Classical.not_not.mp z69) z18
        · refine bp_aload_n (q := 54) 27 rfl rfl rfl rfl ?_
          refine bp_bipush (v := -2) (q := 56) 28 rfl rfl (by decide) ?_
          refine bp_aload_n (q := 57) 29 rfl rfl rfl rfl ?_
          refine bp_getI (q := 60) (ci := 9) (j := 1) 30 rfl rfl fl_Mo_63_9 hB1.kb rfl ?_
          rw [hB1.i1]
          refine bp_callV (q := 63) (ci := 9) 31 rfl rfl cw_Mo_fail lk_Mo_75 rfl hB1.kb wd1453 wd45 rfl rfl (Nat.le_of_ble_eq_true rfl) ⟨Nat.le_of_ble_eq_true rfl, Nat.le_of_ble_eq_true rfl⟩ (s_Mo_fail0 hB1 rfl (fun h2 hB2 => ?_))
          refine bp_goto (tgt := 195) 32 rfl (by decide) ?_
          refine bp_vret 100 rfl rfl  ⟨_, rfl, ?_⟩
          have hge : T.length ≤ i := Nat.not_lt.mp (fun e => absurd ((nI_lt_iff (by omega) (by omega)).mpr e) (by first | exact z50 | exact Int32.not_lt.mpr z50))
          have eR : RR T (i, 0, -1, lv, fr, false, false, v, nt, tb, nm, L1, p1) = bFin T (i, 0, -1, lv, fr, false, false, v, nt, tb, nm, L1, p1) := RR_fin rfl (Or.inl hge)
          exact hQ _ (OUTB.bad2 hB2 (by rw [eR]; rfl) (by rw [eR]; rfl) (by decide))
end MO24
