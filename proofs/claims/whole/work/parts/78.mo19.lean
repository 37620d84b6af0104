/-! the reference's table of colours -/
theorem sco_long {nm : List Nat} (h : 7 < nm.length) : sco nm 8 0 = none := by
  have : ∀ n k, k + n ≤ 8 → sco nm n k = none := by
    intro n
    induction n with
    | zero => intro k _; rfl
    | succ n ih =>
      intro k hk
      rw [sco, if_neg (fun z => ?_)]
      · exact ih (k + 1) (by omega)
      · have e := spl_all.mp z
        have : (cnT k).length ≤ 7 := by
          have : k = 0 ∨ k = 1 ∨ k = 2 ∨ k = 3 ∨ k = 4 ∨ k = 5 ∨ k = 6 ∨ k = 7 := by omega
          rcases this with e | e | e | e | e | e | e | e <;> subst e <;> decide
        rw [← e] at this
        omega
  exact this 8 0 (by decide)
theorem tC1 {tb nm : List Nat} (h : tb ≠ []) : ((if nm = [] then 0 else scl nm 8 0) = -1 ∧ enC tb nm = none) ∨ ∃ e, e < 8 ∧ (if nm = [] then 0 else scl nm 8 0) = nI e ∧ enC tb nm = some e := by
  unfold enC
  rw [if_neg h]
  by_cases z : nm = []
  · rw [if_pos z, if_pos z]; exact Or.inr ⟨0, by decide, rfl, rfl⟩
  · rw [if_neg z, if_neg z]
    rcases scl_eq nm 8 0 with e | ⟨j, h1, h2, h3, h4⟩
    · exact Or.inl ⟨e.2, e.1⟩
    · exact Or.inr ⟨j, by omega, h4, h3⟩
theorem tC2 {tb nm : List Nat} (h : tb ≠ []) (hl : 7 < nm.length) : enC tb nm = none := by
  unfold enC
  rw [if_neg h, if_neg (fun e => by rw [e] at hl; exact absurd hl (by decide)), sco_long hl]
theorem tC0 {tb nm : List Nat} (h : tb = []) : enC tb nm = some 0 := if_pos h
section BT
variable {T : List Nat} {k lv : Nat} {fa me : Int32} {fr en : Bool} {v : Nat → Nat} {nt : List (Nat → Nat)} {tb nm : List Nat} {L : List (Nat × Nat)} {ps : List (Nat × Nat × Nat)}
theorem bt_10 (h : tc T k = 10) : bThing T (k, fa, me, lv, fr, true, en, v, nt, tb, nm, L, ps) = (k + 1, fa, me, lv, fr, true, en, v, nt, tb, nm, L, ps) := if_pos h
theorem bt_sm (h : smL (tc T k) = true) : bThing T (k, fa, me, lv, fr, true, en, v, nt, tb, nm, L, ps) = (k + 1, fa, me, lv, fr, true, en, v, nt, tb, nm ++ [tc T k], L, ps) := ((if_neg (fun e => by rw [e] at h; exact absurd h (by decide))).trans (if_pos rfl)).trans (if_pos h)
theorem bt_59 (h : tc T k = 59) {e : Nat} (he : enC tb nm = some e) (hl : tb.length < 8) : bThing T (k, fa, me, lv, fr, true, en, v, nt, tb, nm, L, ps) = (k + 1, fa, me, lv, fr, true, en, v, nt, tb ++ [e], [], L, ps) := by
  show (if tc T k = 10 then _ else if true = true then bTab k (tc T k) (k, fa, me, lv, fr, true, en, v, nt, tb, nm, L, ps) else _) = _
  rw [if_neg (by rw [h]; decide), if_pos rfl]
  show (if smL (tc T k) = true then _ else if tc T k = 59 ∧ (enC tb nm).isSome = true ∧ tb.length < 8 then _ else if tc T k = 125 then (if nm = [] then bClose (k, fa, me, lv, fr, false, en, v, nt, (if tb = [] then [0] else tb), nm, L, ps) else _) else _) = _
  rw [if_neg (by rw [h]; decide), if_pos ⟨h, by rw [he]; rfl, hl⟩, he]; rfl
theorem bt_59f (h : tc T k = 59) (he : enC tb nm = none ∨ 8 ≤ tb.length) : bThing T (k, fa, me, lv, fr, true, en, v, nt, tb, nm, L, ps) = (k, -6, nI k, lv, fr, true, en, v, nt, tb, nm, L, ps) := by
  have hn : ¬ (tc T k = 59 ∧ (enC tb nm).isSome = true ∧ tb.length < 8) := fun z => by
    rcases he with q | q
    · have := z.2.1; rw [q] at this; cases this
    · have := z.2.2; omega
  show (if tc T k = 10 then _ else if true = true then bTab k (tc T k) (k, fa, me, lv, fr, true, en, v, nt, tb, nm, L, ps) else _) = _
  rw [if_neg (by rw [h]; decide), if_pos rfl]
  show (if smL (tc T k) = true then _ else if tc T k = 59 ∧ (enC tb nm).isSome = true ∧ tb.length < 8 then _ else if tc T k = 125 then (if nm = [] then bClose (k, fa, me, lv, fr, false, en, v, nt, (if tb = [] then [0] else tb), nm, L, ps) else _) else _) = _
  rw [if_neg (by rw [h]; decide), if_neg hn, if_neg (by rw [h]; decide)]
theorem bt_bad (h1 : ¬ tc T k = 10) (h2 : ¬ smL (tc T k) = true) (h3 : ¬ tc T k = 59) (h4 : ¬ tc T k = 125) : bThing T (k, fa, me, lv, fr, true, en, v, nt, tb, nm, L, ps) = (k, -6, nI k, lv, fr, true, en, v, nt, tb, nm, L, ps) := by
  show (if tc T k = 10 then _ else if true = true then bTab k (tc T k) (k, fa, me, lv, fr, true, en, v, nt, tb, nm, L, ps) else _) = _
  rw [if_neg h1, if_pos rfl]
  show (if smL (tc T k) = true then _ else if tc T k = 59 ∧ (enC tb nm).isSome = true ∧ tb.length < 8 then _ else if tc T k = 125 then (if nm = [] then bClose (k, fa, me, lv, fr, false, en, v, nt, (if tb = [] then [0] else tb), nm, L, ps) else _) else _) = _
  rw [if_neg h2, if_neg (fun z => h3 z.1), if_neg h4]
theorem bt_125f (h : tc T k = 125) (hn : nm ≠ []) : bThing T (k, fa, me, lv, fr, true, en, v, nt, tb, nm, L, ps) = (k, -6, nI k, lv, fr, true, en, v, nt, (if tb = [] then [0] else tb), nm, L, ps) := by
  show (if tc T k = 10 then _ else if true = true then bTab k (tc T k) (k, fa, me, lv, fr, true, en, v, nt, tb, nm, L, ps) else _) = _
  rw [if_neg (by rw [h]; decide), if_pos rfl]
  show (if smL (tc T k) = true then _ else if tc T k = 59 ∧ (enC tb nm).isSome = true ∧ tb.length < 8 then _ else if tc T k = 125 then (if nm = [] then bClose (k, fa, me, lv, fr, false, en, v, nt, (if tb = [] then [0] else tb), nm, L, ps) else _) else _) = _
  rw [if_neg (by rw [h]; decide), if_neg (fun z => by have := z.1; rw [h] at this; exact absurd this (by decide)), if_pos h, if_neg hn]
theorem bt_125a (h : tc T k = 125) : bThing T (k, fa, me, lv, fr, true, en, v, nt, tb, [], L, ps) = bClose (k, fa, me, lv, fr, false, en, v, nt, (if tb = [] then [0] else tb), [], L, ps) := by
  show (if tc T k = 10 then _ else if true = true then bTab k (tc T k) (k, fa, me, lv, fr, true, en, v, nt, tb, [], L, ps) else _) = _
  rw [if_neg (by rw [h]; decide), if_pos rfl]
  show (if smL (tc T k) = true then _ else if tc T k = 59 ∧ (enC tb []).isSome = true ∧ tb.length < 8 then _ else if tc T k = 125 then (if ([] : List Nat) = [] then bClose (k, fa, me, lv, fr, false, en, v, nt, (if tb = [] then [0] else tb), [], L, ps) else _) else _) = _
  rw [if_neg (by rw [h]; decide), if_neg (fun z => by have := z.1; rw [h] at this; exact absurd this (by decide)), if_pos h, if_pos rfl]
theorem bt_125b (h : tc T k = 125) : bThing T (k, fa, me, lv, fr, false, en, v, nt, tb, nm, L, ps) = bClose (k, fa, me, lv, false, false, en, v, nt, tb, nm, L, ps) := by
  show (if tc T k = 10 then _ else if false = true then _ else if tc T k = 123 then _ else if tc T k = 125 then bClose (k, fa, me, lv, false, false, en, v, nt, tb, nm, L, ps) else _) = _
  rw [if_neg (by rw [h]; decide), if_neg (by decide), if_neg (by rw [h]; decide), if_pos h]
theorem bt_125 (h : tc T k = 125) : bThing T (k, fa, me, lv, false, true, en, v, nt, tb, [], L, ps) = bThing T (k, fa, me, lv, false, false, en, v, nt, (if tb = [] then [0] else tb), [], L, ps) := (bt_125a h).trans (bt_125b h).symm
end BT
section MO19
variable {l : Launch} {G : bp_G} {H0 : Heap} {M : Nat → Nat} {h0 h : bp_H} {tw : Int32} {i : Nat} {fa : Int32} {fm : Int32} {tl : Int32} {lk : Nat} {al : Nat} {ind : Nat} {sk : Nat} {dp : Nat} {lv : Nat} {fr : Bool} {en : Nat} {nf : Nat} {nn : Nat} {dg : Nat} {nu : Int32} {kd : Nat} {pn : Int32} {pe : Nat} {T : List Nat} {xs : List Nat} {L : List (Nat × Nat)} {ps : List (Nat × Nat × Nat)} {L1 : List (Nat × Nat)} {p1 : List (Nat × Nat × Nat)} {nt : List (Nat → Nat)} {tb : List Nat} {fd : List Nat} {c s : Nat} {Q : Option Value → bp_H → Nat → Nat → Prop} {v : Nat → Nat} {j : Nat}
theorem OUTB.tr {ρ ρ' : BS} (ho : OUTB M h0 h tw tl kd pn pe T xs L ps ρ' j) (e : RR T ρ = RR T ρ') : OUTB M h0 h tw tl kd pn pe T xs L ps ρ j := by
  unfold OUTB at ho ⊢
  rw [e]; exact ho
theorem OUTB.bad2 {ρ : BS} (hB : MoX M h0 h tw i fa fm tl lk al ind sk dp lv fr en nf nn dg nu kd pn pe T xs L ps L1 p1 nt tb fd) (h1 : (RR T ρ).2.1 = fa) (h2 : (RR T ρ).2.2.1 = fm) (hf : fa ≠ 0) : OUTB M h0 h tw tl kd pn pe T xs L ps ρ j := Or.inr ⟨fa, fm, i, lk, al, ind, sk, dp, lv, fr, en, nf, nn, dg, nu, L1, p1, nt, tb, fd, hf, hB, h1, h2⟩
theorem MoX.push26 {x : Nat} (hB : MoX M h0 h tw i fa fm tl lk al ind sk dp lv fr en nf nn dg nu kd pn pe T xs L ps L1 p1 nt tb fd) (hl : fd.length < 8) : MoX M h0 (bp_sI h (M 26) fd.length (nI x)) tw i fa fm tl lk al ind sk dp lv fr en nf nn dg nu kd pn pe T xs L ps L1 p1 nt tb (fd ++ [x]) := hB.arr26 (bp_Fi.sI rfl) ⟨by rw [List.length_append]; exact hl, fun q hq => by
  rw [List.length_append] at hq
  rw [bp_I_sI]
  by_cases e : q = fd.length
  · rw [if_pos ⟨rfl, e⟩, e, n_sn']
  · have e2 : q < fd.length := by simp at hq; omega
    rw [if_neg (fun z => e z.2), n_sn e2]; exact hB.2.2.2.2.2.2.2.2.2.2 q e2⟩
set_option maxRecDepth 100000 in
set_option maxHeartbeats 4000000 in
theorem lp_tableF {n m : Int32} {x : Int64} {lo5 lo6 : Option Value} (hf : ¬ fa = 0) (hB0 : MoX M h0 h tw i fa fm tl lk al ind sk dp lv fr en nf nn dg nu kd pn pe T xs L ps L1 p1 nt tb fd) (hQ : Q none h c s) : bp_A l G H0 (2, 45, false, false) M_Mo_readTable h c s 7 [some (.ref (M 0)), some (.int n), some (.long x), none, some (.int m), lo5, lo6] [] (fun o h' c' s' => ∃ v, o = .returned v ∧ Q v h' c' s') := by
  refine bp_aload_n (q := 8) 6 rfl rfl rfl rfl ?_
  refine bp_getI (q := 11) (ci := 9) (j := 13) 7 rfl rfl fl_Mo_69_9 hB0.kb rfl ?_
  rw [hB0.i13]
  refine bp_if_ne (q := 14) (tgt := 242) 8 rfl rfl (by decide) (fun z11 => ?_) (fun z11 => ?_)
  · refine bp_aload_n (q := 243) 122 rfl rfl rfl rfl ?_
    refine bp_iload (q := 245) 123 rfl rfl rfl ?_
    refine bp_if_le (q := 248) (tgt := 252) 124 rfl rfl (by decide) (fun z245 => ?_) (fun z245 => ?_)
    · refine bp_iconst (v := 0) (q := 253) 127 rfl rfl (by decide) ?_
      refine bp_bipush (v := -6) (q := 255) 128 rfl rfl (by decide) ?_
      refine bp_aload_n (q := 256) 129 rfl rfl rfl rfl ?_
      refine bp_getI (q := 259) (ci := 9) (j := 12) 130 rfl rfl fl_Mo_90_9 hB0.kb rfl ?_
      rw [hB0.i12]
      refine bp_callV (q := 262) (ci := 9) 131 rfl rfl cw_Mo_failIf lk_Mo_118 rfl hB0.kb wd1449 wd44 rfl rfl (Nat.le_of_ble_eq_true rfl) ⟨Nat.le_of_ble_eq_true rfl, Nat.le_of_ble_eq_true rfl⟩ (s_Mo_failIf1 hB0 hf ?_)
      refine bp_aload_n (q := 263) 132 rfl rfl rfl rfl ?_
      refine bp_getI (q := 266) (ci := 9) (j := 13) 133 rfl rfl fl_Mo_69_9 hB0.kb rfl ?_
      rw [hB0.i13]
      refine bp_if_ne (q := 269) (tgt := 322) 134 rfl rfl (by decide) (fun z266 => ?_) (fun z266 => ?_)
      · exact bp_vret 162 rfl rfl  ⟨_, rfl, hQ⟩
      · exact absurd z266 hf
    · refine bp_iconst (v := 1) (q := 249) 125 rfl rfl (by decide) ?_
      refine bp_goto (tgt := 253) 126 rfl (by decide) ?_
      refine bp_bipush (v := -6) (q := 255) 128 rfl rfl (by decide) ?_
      refine bp_aload_n (q := 256) 129 rfl rfl rfl rfl ?_
      refine bp_getI (q := 259) (ci := 9) (j := 12) 130 rfl rfl fl_Mo_90_9 hB0.kb rfl ?_
      rw [hB0.i12]
      refine bp_callV (q := 262) (ci := 9) 131 rfl rfl cw_Mo_failIf lk_Mo_118 rfl hB0.kb wd1449 wd44 rfl rfl (Nat.le_of_ble_eq_true rfl) ⟨Nat.le_of_ble_eq_true rfl, Nat.le_of_ble_eq_true rfl⟩ (s_Mo_failIf1 hB0 hf ?_)
      refine bp_aload_n (q := 263) 132 rfl rfl rfl rfl ?_
      refine bp_getI (q := 266) (ci := 9) (j := 13) 133 rfl rfl fl_Mo_69_9 hB0.kb rfl ?_
      rw [hB0.i13]
      refine bp_if_ne (q := 269) (tgt := 322) 134 rfl rfl (by decide) (fun z266 => ?_) (fun z266 => ?_)
      · exact bp_vret 162 rfl rfl  ⟨_, rfl, hQ⟩
      · exact absurd z266 hf
  · exact absurd z11 hf
set_option maxRecDepth 100000 in
set_option maxHeartbeats 4000000 in
theorem lp_tableC {x : Int64} {m : Int32} {lo6 : Option Value} {e0 : Nat} (hfl : fd.length ≤ 8) : ∀ (n k : Nat) (h : bp_H), n + k = 8 → MoX M h0 h tw i 0 fm tl (mlV v) (v 3) (v 4) (v 5) nt.length lv fr e0 nf nn dg nu kd pn pe T xs L ps L1 p1 nt [] fd → (∀ q, q < k → bp_I h (M 25) q = nI ((if fd = [] then [0] else fd).getD q 0)) → (∀ h', MoX M h0 h' tw i 0 fm tl (mlV v) (v 3) (v 4) (v 5) nt.length lv fr ((if fd = [] then [0] else fd).length) nf nn dg nu kd pn pe T xs L ps L1 p1 nt (if fd = [] then [0] else fd) fd → Q none h' c s) → bp_A l G H0 (2, 45, false, false) M_Mo_readTable h c s 272 [some (.ref (M 0)), some (.int (nI fd.length)), some (.long x), none, some (.int m), some (.int (nI k)), lo6] [] (fun o h' c' s' => ∃ v, o = .returned v ∧ Q v h' c' s') := by
  intro n
  induction n with
  | zero =>
    intro k h hn hB0 hV hQ
    have hl8 : (if fd = [] then [0] else fd).length ≤ 8 := by
      by_cases e : fd = []
      · rw [if_pos e]; decide
      · rw [if_neg e]; exact hfl
    have hB0 := hB0.arr25 (h' := h) (tb' := if fd = [] then [0] else fd) ⟨rfl, rfl, rfl, fun _ _ _ => rfl⟩ ⟨hl8, fun q hq => hV q (by omega)⟩
    refine bp_iload (q := 274) 137 rfl rfl rfl ?_
    refine bp_bipush (v := 8) (q := 276) 138 rfl rfl (by decide) ?_
    refine bp_icmp_ge (q := 279) (tgt := 309) 139 rfl rfl (by decide) (fun z276 => ?_) (fun z276 => ?_)
    · refine bp_aload_n (q := 310) 155 rfl rfl rfl rfl ?_
      refine bp_iload_n (q := 311) 156 rfl rfl rfl rfl ?_
      refine bp_if_ne (q := 314) (tgt := 318) 157 rfl rfl (by decide) (fun z311 => ?_) (fun z311 => ?_)
      · refine bp_iload_n (q := 319) 160 rfl rfl rfl rfl ?_
        have yf : ¬ fd = [] := fun e => z311 (by rw [e]; rfl)
        refine bp_putI (q := 322) (ci := 9) (j := 24) 161 rfl rfl fl_Mo_126_9 cl9 hB0.kb (fun r hr => by cases hr; rfl) (by decide) rfl rfl ?_
        refine bp_nx (X := fun h1 => MoX M h0 h1 tw i 0 fm tl (mlV v) (v 3) (v 4) (v 5) nt.length lv fr ((if fd = [] then [0] else fd).length) nf nn dg nu kd pn pe T xs L ps L1 p1 nt (if fd = [] then [0] else fd) fd) (hB0.s24 (by rw [if_neg yf])) (fun h1 hB1 => ?_)
        exact bp_vret 162 rfl rfl  ⟨_, rfl, hQ _ hB1⟩
      · refine bp_iconst (v := 1) (q := 315) 158 rfl rfl (by decide) ?_
        have yf : fd = [] := List.eq_nil_of_length_eq_zero ((nI_eq_iff (b := 0) (by omega) (by decide)).mp z311)
        refine bp_goto (tgt := 319) 159 rfl (by decide) ?_
        refine bp_putI (q := 322) (ci := 9) (j := 24) 161 rfl rfl fl_Mo_126_9 cl9 hB0.kb (fun r hr => by cases hr; rfl) (by decide) rfl rfl ?_
        refine bp_nx (X := fun h1 => MoX M h0 h1 tw i 0 fm tl (mlV v) (v 3) (v 4) (v 5) nt.length lv fr ((if fd = [] then [0] else fd).length) nf nn dg nu kd pn pe T xs L ps L1 p1 nt (if fd = [] then [0] else fd) fd) (hB0.s24 (by rw [if_pos yf]; rfl)) (fun h1 hB1 => ?_)
        exact bp_vret 162 rfl rfl  ⟨_, rfl, hQ _ hB1⟩
    · exact absurd (nI_le (b := k) (a := 8) (by omega) (by omega)) z276
  | succ n ih =>
    intro k h hn hB0 hV hQ
    refine bp_iload (q := 274) 137 rfl rfl rfl ?_
    refine bp_bipush (v := 8) (q := 276) 138 rfl rfl (by decide) ?_
    refine bp_icmp_ge (q := 279) (tgt := 309) 139 rfl rfl (by decide) (fun z276 => ?_) (fun z276 => ?_)
    · exact absurd z276 (nI_ge (a := k) (b := 8) (by omega) (by decide))
    · refine bp_aload_n (q := 280) 140 rfl rfl rfl rfl ?_
      refine bp_getR (x := M 25) (q := 283) (ci := 9) (j := 25) 141 rfl rfl fl_Mo_46_9 hB0.kb rfl hB0.r25 ?_
      refine bp_iload (q := 285) 142 rfl rfl rfl ?_
      refine bp_iload (q := 287) 143 rfl rfl rfl ?_
      refine bp_iload_n (q := 288) 144 rfl rfl rfl rfl ?_
      refine bp_icmp_ge (q := 291) (tgt := 301) 145 rfl rfl (by decide) (fun z288 => ?_) (fun z288 => ?_)
      · refine bp_iconst (v := 0) (q := 302) 151 rfl rfl (by decide) ?_
        refine bp_iast (q := 303) 152 rfl rfl hB0.k25 (vp_inL hB0.l25 (by omega) (by decide))  ?_
        rw [nI_clamp (by omega)]
        have y288 : fd.length ≤ k := (nI_le_iff (by omega) (by omega)).mp z288
        have yv : (if fd = [] then [0] else fd).getD k 0 = 0 := by
          by_cases e : fd = []
          · rw [if_pos e]; cases k with | zero => rfl | succ k => rfl
          · rw [if_neg e, List.getD_eq_getElem?_getD, List.getElem?_eq_none y288]; rfl
        rw [show (0 : Int32) = nI ((if fd = [] then [0] else fd).getD k 0) from by rw [yv]; rfl]
        refine bp_iinc (v := nI (k + 1)) (q := 306) 153 rfl rfl rfl (nI_1 k) (by decide) (bp_up5 rfl) ?_
        refine bp_goto (tgt := 272) 154 rfl (by decide) ?_
        have hB1 := hB0.arr25 (h' := bp_sI h (M 25) k (nI ((if fd = [] then [0] else fd).getD k 0))) (tb' := []) (bp_Fi.sI rfl) ⟨by decide, fun q hq => absurd hq (Nat.not_lt_zero q)⟩
        exact ih (k + 1) _ (by omega) hB1 (fun q hq => by
          rw [bp_I_sI]
          by_cases e : q = k
          · rw [if_pos ⟨rfl, e⟩, e]
          · rw [if_neg (fun z => e z.2)]; exact hV q (by omega)) hQ
      · refine bp_aload_n (q := 292) 146 rfl rfl rfl rfl ?_
        refine bp_getR (x := M 26) (q := 295) (ci := 9) (j := 26) 147 rfl rfl fl_Mo_49_9 hB0.kb rfl hB0.r26 ?_
        refine bp_iload (q := 297) 148 rfl rfl rfl ?_
        refine bp_iald (q := 298) 149 rfl rfl hB0.k26 (vp_inL hB0.l26 (by omega) (by decide)) ?_
        rw [nI_clamp (by omega), hB0.2.2.2.2.2.2.2.2.2.2 k (by have := (nI_lt_iff (by omega) (by omega)).mp (Int32.not_le.mp z288); omega)]
        refine bp_goto (tgt := 302) 150 rfl (by decide) ?_
        refine bp_iast (q := 303) 152 rfl rfl hB0.k25 (vp_inL hB0.l25 (by omega) (by decide))  ?_
        rw [nI_clamp (by omega)]
        have y288 : k < fd.length := (nI_lt_iff (by omega) (by omega)).mp (Int32.not_le.mp z288)
        have yv : fd.getD k 0 = (if fd = [] then [0] else fd).getD k 0 := by rw [if_neg (fun e => by rw [e] at y288; exact absurd y288 (Nat.not_lt_zero k))]
        rw [yv]
        refine bp_iinc (v := nI (k + 1)) (q := 306) 153 rfl rfl rfl (nI_1 k) (by decide) (bp_up5 rfl) ?_
        refine bp_goto (tgt := 272) 154 rfl (by decide) ?_
        have hB1 := hB0.arr25 (h' := bp_sI h (M 25) k (nI ((if fd = [] then [0] else fd).getD k 0))) (tb' := []) (bp_Fi.sI rfl) ⟨by decide, fun q hq => absurd hq (Nat.not_lt_zero q)⟩
        exact ih (k + 1) _ (by omega) hB1 (fun q hq => by
          rw [bp_I_sI]
          by_cases e : q = k
          · rw [if_pos ⟨rfl, e⟩, e]
          · rw [if_neg (fun z => e z.2)]; exact hV q (by omega)) hQ
end MO19
