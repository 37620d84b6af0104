/-! the reference's pass, takeOver, finished -/
theorem nI_p1m {q : Nat} : nI (q + 1) + -1 = nI q := by
  rw [← Int32.sub_eq_add_neg]; exact nI_sub (b := 1) (by omega)
theorem nI_pn {q : Nat} (h : q < 100000) : ¬ nI (q + 1) ≤ 0 := fun z => by
  have := (nI_le_iff (a := q + 1) (b := 0) (by omega) (by decide)).mp z
  omega
section MO16
variable {l : Launch} {G : bp_G} {H0 : Heap} {M : Nat → Nat} {h0 h : bp_H} {tw : Int32} {i : Nat} {fa : Int32} {fm : Int32} {tl : Int32} {lk : Nat} {al : Nat} {ind : Nat} {sk : Nat} {dp : Nat} {lv : Nat} {fr : Bool} {en : Nat} {nf : Nat} {nn : Nat} {dg : Nat} {nu : Int32} {kd : Nat} {pn : Int32} {pe : Nat} {T : List Nat} {xs : List Nat} {L : List (Nat × Nat)} {ps : List (Nat × Nat × Nat)} {L1 : List (Nat × Nat)} {p1 : List (Nat × Nat × Nat)} {nt : List (Nat → Nat)} {tb : List Nat} {fd : List Nat} {c s : Nat} {Q : Option Value → bp_H → Nat → Nat → Prop}
set_option maxRecDepth 100000 in
set_option maxHeartbeats 4000000 in
theorem lp_Mo_passF {k q : Nat} {lo : Option Value} (hT : okT T) (hlo : lo = none ∨ ∃ r, lo = some (.int r)) (hk : T.length ≤ k) (hk2 : k < 10000) (hq : q < 10000) (hB0 : MoX M h0 h tw k 0 fm tl lk al ind sk dp lv fr en nf nn dg nu kd pn pe T xs L ps L1 p1 nt tb fd) (hQ : ∀ h' i', MoX M h0 h' tw i' (-2) (nI T.length) tl lk al ind sk dp lv fr en nf nn dg nu kd pn pe T xs L ps L1 p1 nt tb fd → Q none h' c s) : bp_A l G H0 (2, 45, false, false) M_Mo_pass h c s 2 [some (.ref (M 0)), some (.int (nI (q + 1))), lo] [] (fun o h' c' s' => ∃ v, o = .returned v ∧ Q v h' c' s') := by
  have hT4 := hT.1
  rcases hlo with e | ⟨r, e⟩
  · subst e
    refine bp_iload_n (q := 3) 2 rfl rfl rfl rfl ?_
    refine bp_if_le (q := 6) (tgt := 103) 3 rfl rfl (by decide) (fun z3 => ?_) (fun z3 => ?_)
    · exact absurd z3 (nI_pn (by omega))
    · refine bp_aload_n (q := 7) 4 rfl rfl rfl rfl ?_
      refine bp_getI (q := 10) (ci := 9) (j := 13) 5 rfl rfl fl_Mo_69_9 hB0.kb rfl ?_
      rw [hB0.i13]
      refine bp_if_ne (q := 13) (tgt := 103) 6 rfl rfl (by decide) (fun z10 => ?_) (fun z10 => ?_)
      · exact absurd rfl z10
      · refine bp_aload_n (q := 14) 7 rfl rfl rfl rfl ?_
        refine bp_aload_n (q := 15) 8 rfl rfl rfl rfl ?_
        refine bp_getI (q := 18) (ci := 9) (j := 12) 9 rfl rfl fl_Mo_90_9 hB0.kb rfl ?_
        rw [hB0.i12]
        refine bp_callV (q := 21) (ci := 9) 10 rfl rfl cw_Mo_charAt lk_Mo_83 rfl hB0.kb wd1445 wd43 rfl rfl (Nat.le_of_ble_eq_true rfl) ⟨Nat.le_of_ble_eq_true rfl, Nat.le_of_ble_eq_true rfl⟩ (s_Mo_charAt (ro := false) hB0 hT (by omega) ?_)
        refine bp_istore_n (q := 22) 11 rfl rfl rfl (by decide) (bp_up2 rfl) ?_
        refine bp_aload_n (q := 23) 12 rfl rfl rfl rfl ?_
        refine bp_aload_n (q := 24) 13 rfl rfl rfl rfl ?_
        refine bp_getI (q := 27) (ci := 9) (j := 12) 14 rfl rfl fl_Mo_90_9 hB0.kb rfl ?_
        rw [hB0.i12]
        refine bp_aload_n (q := 28) 15 rfl rfl rfl rfl ?_
        refine bp_getI (q := 31) (ci := 9) (j := 1) 16 rfl rfl fl_Mo_63_9 hB0.kb rfl ?_
        rw [hB0.i1]
        refine bp_icmp_lt (q := 34) (tgt := 38) 17 rfl rfl (by decide) (fun z31 => ?_) (fun z31 => ?_)
        · exact absurd ((nI_lt_iff (by omega) (by omega)).mp z31) (by omega)
        · refine bp_iconst (v := 1) (q := 35) 18 rfl rfl (by decide) ?_
          refine bp_goto (tgt := 39) 19 rfl (by decide) ?_
          refine bp_bipush (v := -2) (q := 41) 21 rfl rfl (by decide) ?_
          refine bp_aload_n (q := 42) 22 rfl rfl rfl rfl ?_
          refine bp_getI (q := 45) (ci := 9) (j := 1) 23 rfl rfl fl_Mo_63_9 hB0.kb rfl ?_
          rw [hB0.i1]
          refine bp_callV (q := 48) (ci := 9) 24 rfl rfl cw_Mo_failIf lk_Mo_118 rfl hB0.kb wd1449 wd44 rfl rfl (Nat.le_of_ble_eq_true rfl) ⟨Nat.le_of_ble_eq_true rfl, Nat.le_of_ble_eq_true rfl⟩ (s_Mo_failIf0 hB0 (by decide) rfl (fun h1 hB1 => ?_))
          refine bp_iload_n (q := 49) 25 rfl rfl rfl rfl ?_
          refine bp_iload_n (q := 50) 26 rfl rfl rfl rfl ?_
          refine bp_bipush (v := 123) (q := 52) 27 rfl rfl (by decide) ?_
          refine bp_icmp_ne (q := 55) (tgt := 59) 28 rfl rfl (by decide) (fun z52 => ?_) (fun z52 => ?_)
          · refine bp_iload_n (q := 60) 31 rfl rfl rfl rfl ?_
            refine bp_bipush (v := 125) (q := 62) 32 rfl rfl (by decide) ?_
            refine bp_icmp_ne (q := 65) (tgt := 69) 33 rfl rfl (by decide) (fun z62 => ?_) (fun z62 => ?_)
            · refine bp_iconst (v := 0) (q := 70) 36 rfl rfl (by decide) ?_
              refine bp_iadd (q := 71) 37 rfl rfl ?_
              rw [show nI (q + 1) + 0 = nI (q + 1) from nI_add (q + 1) 0]
              refine bp_istore_n (q := 72) 38 rfl rfl rfl (by decide) (bp_up1 rfl) ?_
              refine bp_aload_n (q := 73) 39 rfl rfl rfl rfl ?_
              refine bp_dup (q := 74) 40 rfl rfl rfl ?_
              refine bp_getI (q := 77) (ci := 9) (j := 12) 41 rfl rfl fl_Mo_90_9 hB1.kb rfl ?_
              rw [hB1.i12]
              refine bp_iload_n (q := 78) 42 rfl rfl rfl rfl ?_
              refine bp_if_ne (q := 81) (tgt := 85) 43 rfl rfl (by decide) (fun z78 => ?_) (fun z78 => ?_)
              · refine bp_iload_n (q := 86) 46 rfl rfl rfl rfl ?_
                refine bp_bipush (v := 92) (q := 88) 47 rfl rfl (by decide) ?_
                refine bp_icmp_ne (q := 91) (tgt := 95) 48 rfl rfl (by decide) (fun z88 => ?_) (fun z88 => ?_)
                · refine bp_iconst (v := 1) (q := 96) 51 rfl rfl (by decide) ?_
                  refine bp_iadd (q := 97) 52 rfl rfl ?_
                  refine bp_putI (q := 100) (ci := 9) (j := 12) 53 rfl rfl fl_Mo_90_9 cl9 hB1.kb (fun r hr => by cases hr; rfl) (by decide) rfl rfl ?_
                  refine bp_nx (X := fun h2 => MoX M h0 h2 tw (k + 1) (-2) (nI T.length) tl lk al ind sk dp lv fr en nf nn dg nu kd pn pe T xs L ps L1 p1 nt tb fd) (hB1.s12 (nI_1 k)) (fun h2 hB2 => ?_)
                  refine bp_goto (tgt := 2) 54 rfl (by decide) ?_
                  refine bp_iload_n (q := 3) 2 rfl rfl rfl rfl ?_
                  refine bp_if_le (q := 6) (tgt := 103) 3 rfl rfl (by decide) (fun z3 => ?_) (fun z3 => ?_)
                  · exact absurd z3 (nI_pn (by omega))
                  · refine bp_aload_n (q := 7) 4 rfl rfl rfl rfl ?_
                    refine bp_getI (q := 10) (ci := 9) (j := 13) 5 rfl rfl fl_Mo_69_9 hB2.kb rfl ?_
                    rw [hB2.i13]
                    refine bp_if_ne (q := 13) (tgt := 103) 6 rfl rfl (by decide) (fun z10 => ?_) (fun z10 => ?_)
                    · exact bp_vret 55 rfl rfl  ⟨_, rfl, hQ _ _ hB2⟩
                    · exact absurd z10 (by decide)
                · exact absurd z88 (by rw [tc_out hk]; decide)
              · exact absurd (Int32.le_of_eq (by first | exact z78 | exact Classical.not_not.mp z78)) (nI_pn (by omega))
            · exact absurd z62 (by rw [tc_out hk]; decide)
          · exact absurd z52 (by rw [tc_out hk]; decide)
  · subst e
    refine bp_iload_n (q := 3) 2 rfl rfl rfl rfl ?_
    refine bp_if_le (q := 6) (tgt := 103) 3 rfl rfl (by decide) (fun z3 => ?_) (fun z3 => ?_)
    · exact absurd z3 (nI_pn (by omega))
    · refine bp_aload_n (q := 7) 4 rfl rfl rfl rfl ?_
      refine bp_getI (q := 10) (ci := 9) (j := 13) 5 rfl rfl fl_Mo_69_9 hB0.kb rfl ?_
      rw [hB0.i13]
      refine bp_if_ne (q := 13) (tgt := 103) 6 rfl rfl (by decide) (fun z10 => ?_) (fun z10 => ?_)
      · exact absurd rfl z10
      · refine bp_aload_n (q := 14) 7 rfl rfl rfl rfl ?_
        refine bp_aload_n (q := 15) 8 rfl rfl rfl rfl ?_
        refine bp_getI (q := 18) (ci := 9) (j := 12) 9 rfl rfl fl_Mo_90_9 hB0.kb rfl ?_
        rw [hB0.i12]
        refine bp_callV (q := 21) (ci := 9) 10 rfl rfl cw_Mo_charAt lk_Mo_83 rfl hB0.kb wd1445 wd43 rfl rfl (Nat.le_of_ble_eq_true rfl) ⟨Nat.le_of_ble_eq_true rfl, Nat.le_of_ble_eq_true rfl⟩ (s_Mo_charAt (ro := false) hB0 hT (by omega) ?_)
        refine bp_istore_n (q := 22) 11 rfl rfl rfl (by decide) (bp_up2 rfl) ?_
        refine bp_aload_n (q := 23) 12 rfl rfl rfl rfl ?_
        refine bp_aload_n (q := 24) 13 rfl rfl rfl rfl ?_
        refine bp_getI (q := 27) (ci := 9) (j := 12) 14 rfl rfl fl_Mo_90_9 hB0.kb rfl ?_
        rw [hB0.i12]
        refine bp_aload_n (q := 28) 15 rfl rfl rfl rfl ?_
        refine bp_getI (q := 31) (ci := 9) (j := 1) 16 rfl rfl fl_Mo_63_9 hB0.kb rfl ?_
        rw [hB0.i1]
        refine bp_icmp_lt (q := 34) (tgt := 38) 17 rfl rfl (by decide) (fun z31 => ?_) (fun z31 => ?_)
        · exact absurd ((nI_lt_iff (by omega) (by omega)).mp z31) (by omega)
        · refine bp_iconst (v := 1) (q := 35) 18 rfl rfl (by decide) ?_
          refine bp_goto (tgt := 39) 19 rfl (by decide) ?_
          refine bp_bipush (v := -2) (q := 41) 21 rfl rfl (by decide) ?_
          refine bp_aload_n (q := 42) 22 rfl rfl rfl rfl ?_
          refine bp_getI (q := 45) (ci := 9) (j := 1) 23 rfl rfl fl_Mo_63_9 hB0.kb rfl ?_
          rw [hB0.i1]
          refine bp_callV (q := 48) (ci := 9) 24 rfl rfl cw_Mo_failIf lk_Mo_118 rfl hB0.kb wd1449 wd44 rfl rfl (Nat.le_of_ble_eq_true rfl) ⟨Nat.le_of_ble_eq_true rfl, Nat.le_of_ble_eq_true rfl⟩ (s_Mo_failIf0 hB0 (by decide) rfl (fun h1 hB1 => ?_))
          refine bp_iload_n (q := 49) 25 rfl rfl rfl rfl ?_
          refine bp_iload_n (q := 50) 26 rfl rfl rfl rfl ?_
          refine bp_bipush (v := 123) (q := 52) 27 rfl rfl (by decide) ?_
          refine bp_icmp_ne (q := 55) (tgt := 59) 28 rfl rfl (by decide) (fun z52 => ?_) (fun z52 => ?_)
          · refine bp_iload_n (q := 60) 31 rfl rfl rfl rfl ?_
            refine bp_bipush (v := 125) (q := 62) 32 rfl rfl (by decide) ?_
            refine bp_icmp_ne (q := 65) (tgt := 69) 33 rfl rfl (by decide) (fun z62 => ?_) (fun z62 => ?_)
            · refine bp_iconst (v := 0) (q := 70) 36 rfl rfl (by decide) ?_
              refine bp_iadd (q := 71) 37 rfl rfl ?_
              rw [show nI (q + 1) + 0 = nI (q + 1) from nI_add (q + 1) 0]
              refine bp_istore_n (q := 72) 38 rfl rfl rfl (by decide) (bp_up1 rfl) ?_
              refine bp_aload_n (q := 73) 39 rfl rfl rfl rfl ?_
              refine bp_dup (q := 74) 40 rfl rfl rfl ?_
              refine bp_getI (q := 77) (ci := 9) (j := 12) 41 rfl rfl fl_Mo_90_9 hB1.kb rfl ?_
              rw [hB1.i12]
              refine bp_iload_n (q := 78) 42 rfl rfl rfl rfl ?_
              refine bp_if_ne (q := 81) (tgt := 85) 43 rfl rfl (by decide) (fun z78 => ?_) (fun z78 => ?_)
              · refine bp_iload_n (q := 86) 46 rfl rfl rfl rfl ?_
                refine bp_bipush (v := 92) (q := 88) 47 rfl rfl (by decide) ?_
                refine bp_icmp_ne (q := 91) (tgt := 95) 48 rfl rfl (by decide) (fun z88 => ?_) (fun z88 => ?_)
                · refine bp_iconst (v := 1) (q := 96) 51 rfl rfl (by decide) ?_
                  refine bp_iadd (q := 97) 52 rfl rfl ?_
                  refine bp_putI (q := 100) (ci := 9) (j := 12) 53 rfl rfl fl_Mo_90_9 cl9 hB1.kb (fun r hr => by cases hr; rfl) (by decide) rfl rfl ?_
                  refine bp_nx (X := fun h2 => MoX M h0 h2 tw (k + 1) (-2) (nI T.length) tl lk al ind sk dp lv fr en nf nn dg nu kd pn pe T xs L ps L1 p1 nt tb fd) (hB1.s12 (nI_1 k)) (fun h2 hB2 => ?_)
                  refine bp_goto (tgt := 2) 54 rfl (by decide) ?_
                  refine bp_iload_n (q := 3) 2 rfl rfl rfl rfl ?_
                  refine bp_if_le (q := 6) (tgt := 103) 3 rfl rfl (by decide) (fun z3 => ?_) (fun z3 => ?_)
                  · exact absurd z3 (nI_pn (by omega))
                  · refine bp_aload_n (q := 7) 4 rfl rfl rfl rfl ?_
                    refine bp_getI (q := 10) (ci := 9) (j := 13) 5 rfl rfl fl_Mo_69_9 hB2.kb rfl ?_
                    rw [hB2.i13]
                    refine bp_if_ne (q := 13) (tgt := 103) 6 rfl rfl (by decide) (fun z10 => ?_) (fun z10 => ?_)
                    · exact bp_vret 55 rfl rfl  ⟨_, rfl, hQ _ _ hB2⟩
                    · exact absurd z10 (by decide)
                · exact absurd z88 (by rw [tc_out hk]; decide)
              · exact absurd (Int32.le_of_eq (by first | exact z78 | exact Classical.not_not.mp z78)) (nI_pn (by omega))
            · exact absurd z62 (by rw [tc_out hk]; decide)
          · exact absurd z52 (by rw [tc_out hk]; decide)
set_option maxRecDepth 100000 in
set_option maxHeartbeats 4000000 in
theorem lp_Mo_pass (hT : okT T) : ∀ (n k q : Nat) (h : bp_H) (lo : Option Value), (lo = none ∨ ∃ r, lo = some (.int r)) → T.length ≤ n + k → k < 5000 + 2 * 0 + (1000 - 2 * n) + 2 * 0 → q + n < 1000 → MoX M h0 h tw k 0 fm tl lk al ind sk dp lv fr en nf nn dg nu kd pn pe T xs L ps L1 p1 nt tb fd → ((T.length ≤ pgE T n q k → ∀ h' i', MoX M h0 h' tw i' (-2) (nI T.length) tl lk al ind sk dp lv fr en nf nn dg nu kd pn pe T xs L ps L1 p1 nt tb fd → Q none h' c s)) → (pgE T n q k < T.length → ∀ h', MoX M h0 h' tw (pgE T n q k) 0 fm tl lk al ind sk dp lv fr en nf nn dg nu kd pn pe T xs L ps L1 p1 nt tb fd → Q none h' c s) → bp_A l G H0 (2, 45, false, false) M_Mo_pass h c s 2 [some (.ref (M 0)), some (.int (nI (q + 1))), lo] [] (fun o h' c' s' => ∃ v, o = .returned v ∧ Q v h' c' s') := by
  have hT4 := hT.1
  intro n
  induction n with
  | zero =>
    intro k q h lo hlo hn hk2 hq hB0 hQ1 hQ2
    exact lp_Mo_passF hT hlo (by omega) (by omega) (by omega) hB0 (hQ1 (by rw [pgE]; omega))
  | succ n ih =>
    intro k q h lo hlo hn hk2 hq hB0 hQ1 hQ2
    by_cases hk : T.length ≤ k
    · exact lp_Mo_passF hT hlo hk (by omega) (by omega) hB0 (hQ1 (by rw [pgE, if_pos hk]; exact hk))
    have hk := Nat.not_le.mp hk
    rcases hlo with e | ⟨r, e⟩
    · subst e
      refine bp_iload_n (q := 3) 2 rfl rfl rfl rfl ?_
      refine bp_if_le (q := 6) (tgt := 103) 3 rfl rfl (by decide) (fun z3 => ?_) (fun z3 => ?_)
      · exact absurd z3 (nI_pn (by omega))
      · refine bp_aload_n (q := 7) 4 rfl rfl rfl rfl ?_
        refine bp_getI (q := 10) (ci := 9) (j := 13) 5 rfl rfl fl_Mo_69_9 hB0.kb rfl ?_
        rw [hB0.i13]
        refine bp_if_ne (q := 13) (tgt := 103) 6 rfl rfl (by decide) (fun z10 => ?_) (fun z10 => ?_)
        · exact absurd rfl z10
        · refine bp_aload_n (q := 14) 7 rfl rfl rfl rfl ?_
          refine bp_aload_n (q := 15) 8 rfl rfl rfl rfl ?_
          refine bp_getI (q := 18) (ci := 9) (j := 12) 9 rfl rfl fl_Mo_90_9 hB0.kb rfl ?_
          rw [hB0.i12]
          refine bp_callV (q := 21) (ci := 9) 10 rfl rfl cw_Mo_charAt lk_Mo_83 rfl hB0.kb wd1445 wd43 rfl rfl (Nat.le_of_ble_eq_true rfl) ⟨Nat.le_of_ble_eq_true rfl, Nat.le_of_ble_eq_true rfl⟩ (s_Mo_charAt (ro := false) hB0 hT (by omega) ?_)
          refine bp_istore_n (q := 22) 11 rfl rfl rfl (by decide) (bp_up2 rfl) ?_
          refine bp_aload_n (q := 23) 12 rfl rfl rfl rfl ?_
          refine bp_aload_n (q := 24) 13 rfl rfl rfl rfl ?_
          refine bp_getI (q := 27) (ci := 9) (j := 12) 14 rfl rfl fl_Mo_90_9 hB0.kb rfl ?_
          rw [hB0.i12]
          refine bp_aload_n (q := 28) 15 rfl rfl rfl rfl ?_
          refine bp_getI (q := 31) (ci := 9) (j := 1) 16 rfl rfl fl_Mo_63_9 hB0.kb rfl ?_
          rw [hB0.i1]
          refine bp_icmp_lt (q := 34) (tgt := 38) 17 rfl rfl (by decide) (fun z31 => ?_) (fun z31 => ?_)
          · refine bp_iconst (v := 0) (q := 39) 20 rfl rfl (by decide) ?_
            refine bp_bipush (v := -2) (q := 41) 21 rfl rfl (by decide) ?_
            refine bp_aload_n (q := 42) 22 rfl rfl rfl rfl ?_
            refine bp_getI (q := 45) (ci := 9) (j := 1) 23 rfl rfl fl_Mo_63_9 hB0.kb rfl ?_
            rw [hB0.i1]
            refine bp_callV (q := 48) (ci := 9) 24 rfl rfl cw_Mo_failIf lk_Mo_118 rfl hB0.kb wd1449 wd44 rfl rfl (Nat.le_of_ble_eq_true rfl) ⟨Nat.le_of_ble_eq_true rfl, Nat.le_of_ble_eq_true rfl⟩ (s_Mo_failIfN hB0 rfl ?_)
            refine bp_iload_n (q := 49) 25 rfl rfl rfl rfl ?_
            refine bp_iload_n (q := 50) 26 rfl rfl rfl rfl ?_
            refine bp_bipush (v := 123) (q := 52) 27 rfl rfl (by decide) ?_
            refine bp_icmp_ne (q := 55) (tgt := 59) 28 rfl rfl (by decide) (fun z52 => ?_) (fun z52 => ?_)
            · refine bp_iload_n (q := 60) 31 rfl rfl rfl rfl ?_
              refine bp_bipush (v := 125) (q := 62) 32 rfl rfl (by decide) ?_
              refine bp_icmp_ne (q := 65) (tgt := 69) 33 rfl rfl (by decide) (fun z62 => ?_) (fun z62 => ?_)
              · refine bp_iconst (v := 0) (q := 70) 36 rfl rfl (by decide) ?_
                refine bp_iadd (q := 71) 37 rfl rfl ?_
                rw [show nI (q + 1) + 0 = nI (q + 1) from nI_add (q + 1) 0]
                refine bp_istore_n (q := 72) 38 rfl rfl rfl (by decide) (bp_up1 rfl) ?_
                refine bp_aload_n (q := 73) 39 rfl rfl rfl rfl ?_
                refine bp_dup (q := 74) 40 rfl rfl rfl ?_
                refine bp_getI (q := 77) (ci := 9) (j := 12) 41 rfl rfl fl_Mo_90_9 hB0.kb rfl ?_
                rw [hB0.i12]
                refine bp_iload_n (q := 78) 42 rfl rfl rfl rfl ?_
                refine bp_if_ne (q := 81) (tgt := 85) 43 rfl rfl (by decide) (fun z78 => ?_) (fun z78 => ?_)
                · refine bp_iload_n (q := 86) 46 rfl rfl rfl rfl ?_
                  refine bp_bipush (v := 92) (q := 88) 47 rfl rfl (by decide) ?_
                  refine bp_icmp_ne (q := 91) (tgt := 95) 48 rfl rfl (by decide) (fun z88 => ?_) (fun z88 => ?_)
                  · refine bp_iconst (v := 1) (q := 96) 51 rfl rfl (by decide) ?_
                    refine bp_iadd (q := 97) 52 rfl rfl ?_
                    refine bp_putI (q := 100) (ci := 9) (j := 12) 53 rfl rfl fl_Mo_90_9 cl9 hB0.kb (fun r hr => by cases hr; rfl) (by decide) rfl rfl ?_
                    refine bp_nx (X := fun h1 => MoX M h0 h1 tw (k + 1) 0 fm tl lk al ind sk dp lv fr en nf nn dg nu kd pn pe T xs L ps L1 p1 nt tb fd) (hB0.s12 (nI_1 k)) (fun h1 hB1 => ?_)
                    refine bp_goto (tgt := 2) 54 rfl (by decide) ?_
                    have y123 : ¬ tc T k = 123 := (fun e => z52 (by rw [e]; rfl))
                    have y125 : ¬ tc T k = 125 := (fun e => z62 (by rw [e]; rfl))
                    have y92 : ¬ tc T k = 92 := (fun e => z88 (by rw [e]; rfl))
                    rw [pgE, if_neg (by omega), if_neg (fun e => by omega), if_neg y123, if_neg y125, if_neg y92] at hQ1 hQ2
                    exact ih (k + 1) q _ _ (Or.inr ⟨_, rfl⟩) (by omega) (by omega) (by omega) hB1 hQ1 hQ2
                  · refine bp_iconst (v := 2) (q := 92) 49 rfl rfl (by decide) ?_
                    refine bp_goto (tgt := 96) 50 rfl (by decide) ?_
                    refine bp_iadd (q := 97) 52 rfl rfl ?_
                    refine bp_putI (q := 100) (ci := 9) (j := 12) 53 rfl rfl fl_Mo_90_9 cl9 hB0.kb (fun r hr => by cases hr; rfl) (by decide) rfl rfl ?_
                    refine bp_nx (X := fun h1 => MoX M h0 h1 tw (k + 2) 0 fm tl lk al ind sk dp lv fr en nf nn dg nu kd pn pe T xs L ps L1 p1 nt tb fd) (hB0.s12 (nI_add k 2)) (fun h1 hB1 => ?_)
                    refine bp_goto (tgt := 2) 54 rfl (by decide) ?_
                    have y123 : ¬ tc T k = 123 := (fun e => z52 (by rw [e]; rfl))
                    have y125 : ¬ tc T k = 125 := (fun e => z62 (by rw [e]; rfl))
                    have y92 : tc T k = 92 := (nI_eq_iff (b := 92) (by have := tc_lt hT k; omega) (by decide)).mp (by first | exact z88 | exact Classical.not_not.mp z88)
                    rw [pgE, if_neg (by omega), if_neg (fun e => by omega), if_neg y123, if_neg y125, if_pos y92] at hQ1 hQ2
                    exact ih (k + 2) q _ _ (Or.inr ⟨_, rfl⟩) (by omega) (by omega) (by omega) hB1 hQ1 hQ2
                · refine bp_iconst (v := 0) (q := 82) 44 rfl rfl (by decide) ?_
                  refine bp_goto (tgt := 96) 45 rfl (by decide) ?_
                  refine bp_iadd (q := 97) 52 rfl rfl ?_
                  refine bp_putI (q := 100) (ci := 9) (j := 12) 53 rfl rfl fl_Mo_90_9 cl9 hB0.kb (fun r hr => by cases hr; rfl) (by decide) rfl rfl ?_
                  refine bp_nx (X := fun h1 => MoX M h0 h1 tw k 0 fm tl lk al ind sk dp lv fr en nf nn dg nu kd pn pe T xs L ps L1 p1 nt tb fd) (hB0.s12 (nI_add k 0)) (fun h1 hB1 => ?_)
                  refine bp_goto (tgt := 2) 54 rfl (by decide) ?_
                  exact absurd (Int32.le_of_eq (by first | exact z78 | exact Classical.not_not.mp z78)) (nI_pn (by omega))
              · refine bp_iconst (v := -1) (q := 66) 34 rfl rfl (by decide) ?_
                refine bp_goto (tgt := 70) 35 rfl (by decide) ?_
                refine bp_iadd (q := 71) 37 rfl rfl ?_
                rw [nI_p1m]
                refine bp_istore_n (q := 72) 38 rfl rfl rfl (by decide) (bp_up1 rfl) ?_
                refine bp_aload_n (q := 73) 39 rfl rfl rfl rfl ?_
                refine bp_dup (q := 74) 40 rfl rfl rfl ?_
                refine bp_getI (q := 77) (ci := 9) (j := 12) 41 rfl rfl fl_Mo_90_9 hB0.kb rfl ?_
                rw [hB0.i12]
                refine bp_iload_n (q := 78) 42 rfl rfl rfl rfl ?_
                refine bp_if_ne (q := 81) (tgt := 85) 43 rfl rfl (by decide) (fun z78 => ?_) (fun z78 => ?_)
                · refine bp_iload_n (q := 86) 46 rfl rfl rfl rfl ?_
                  refine bp_bipush (v := 92) (q := 88) 47 rfl rfl (by decide) ?_
                  refine bp_icmp_ne (q := 91) (tgt := 95) 48 rfl rfl (by decide) (fun z88 => ?_) (fun z88 => ?_)
                  · refine bp_iconst (v := 1) (q := 96) 51 rfl rfl (by decide) ?_
                    refine bp_iadd (q := 97) 52 rfl rfl ?_
                    refine bp_putI (q := 100) (ci := 9) (j := 12) 53 rfl rfl fl_Mo_90_9 cl9 hB0.kb (fun r hr => by cases hr; rfl) (by decide) rfl rfl ?_
                    refine bp_nx (X := fun h1 => MoX M h0 h1 tw (k + 1) 0 fm tl lk al ind sk dp lv fr en nf nn dg nu kd pn pe T xs L ps L1 p1 nt tb fd) (hB0.s12 (nI_1 k)) (fun h1 hB1 => ?_)
                    refine bp_goto (tgt := 2) 54 rfl (by decide) ?_
                    have y123 : ¬ tc T k = 123 := (fun e => z52 (by rw [e]; rfl))
                    have y125 : tc T k = 125 := (nI_eq_iff (b := 125) (by have := tc_lt hT k; omega) (by decide)).mp (by first | exact z62 | exact Classical.not_not.mp z62)
                    have y92 : ¬ tc T k = 92 := (fun e => z88 (by rw [e]; rfl))
                    have yq : ¬ q = 0 := fun e => z78 (by rw [e]; rfl)
                    obtain ⟨q2, rfl⟩ : ∃ q2, q = q2 + 1 := ⟨q - 1, by omega⟩
                    rw [pgE, if_neg (by omega), if_neg (fun e => by omega), if_neg y123, if_pos y125, show q2 + 1 - 1 = q2 from rfl, if_neg y92] at hQ1 hQ2
                    exact ih (k + 1) q2 _ _ (Or.inr ⟨_, rfl⟩) (by omega) (by omega) (by omega) hB1 hQ1 hQ2
                  · refine bp_iconst (v := 2) (q := 92) 49 rfl rfl (by decide) ?_
                    refine bp_goto (tgt := 96) 50 rfl (by decide) ?_
                    refine bp_iadd (q := 97) 52 rfl rfl ?_
                    refine bp_putI (q := 100) (ci := 9) (j := 12) 53 rfl rfl fl_Mo_90_9 cl9 hB0.kb (fun r hr => by cases hr; rfl) (by decide) rfl rfl ?_
                    refine bp_nx (X := fun h1 => MoX M h0 h1 tw (k + 2) 0 fm tl lk al ind sk dp lv fr en nf nn dg nu kd pn pe T xs L ps L1 p1 nt tb fd) (hB0.s12 (nI_add k 2)) (fun h1 hB1 => ?_)
                    refine bp_goto (tgt := 2) 54 rfl (by decide) ?_
                    have y123 : ¬ tc T k = 123 := (fun e => z52 (by rw [e]; rfl))
                    have y125 : tc T k = 125 := (nI_eq_iff (b := 125) (by have := tc_lt hT k; omega) (by decide)).mp (by first | exact z62 | exact Classical.not_not.mp z62)
                    have y92 : tc T k = 92 := (nI_eq_iff (b := 92) (by have := tc_lt hT k; omega) (by decide)).mp (by first | exact z88 | exact Classical.not_not.mp z88)
                    have yq : ¬ q = 0 := fun e => z78 (by rw [e]; rfl)
                    obtain ⟨q2, rfl⟩ : ∃ q2, q = q2 + 1 := ⟨q - 1, by omega⟩
                    rw [pgE, if_neg (by omega), if_neg (fun e => by omega), if_neg y123, if_pos y125, show q2 + 1 - 1 = q2 from rfl, if_pos y92] at hQ1 hQ2
                    exact ih (k + 2) q2 _ _ (Or.inr ⟨_, rfl⟩) (by omega) (by omega) (by omega) hB1 hQ1 hQ2
                · refine bp_iconst (v := 0) (q := 82) 44 rfl rfl (by decide) ?_
                  refine bp_goto (tgt := 96) 45 rfl (by decide) ?_
                  refine bp_iadd (q := 97) 52 rfl rfl ?_
                  refine bp_putI (q := 100) (ci := 9) (j := 12) 53 rfl rfl fl_Mo_90_9 cl9 hB0.kb (fun r hr => by cases hr; rfl) (by decide) rfl rfl ?_
                  refine bp_nx (X := fun h1 => MoX M h0 h1 tw k 0 fm tl lk al ind sk dp lv fr en nf nn dg nu kd pn pe T xs L ps L1 p1 nt tb fd) (hB0.s12 (nI_add k 0)) (fun h1 hB1 => ?_)
                  refine bp_goto (tgt := 2) 54 rfl (by decide) ?_
                  have y123 : ¬ tc T k = 123 := (fun e => z52 (by rw [e]; rfl))
                  have y125 : tc T k = 125 := (nI_eq_iff (b := 125) (by have := tc_lt hT k; omega) (by decide)).mp (by first | exact z62 | exact Classical.not_not.mp z62)
                  have yq : q = 0 := (nI_eq_iff (b := 0) (by omega) (by decide)).mp (by first | exact z78 | exact Classical.not_not.mp z78)
                  subst yq
                  refine bp_iload_n (q := 3) 2 rfl rfl rfl rfl ?_
                  refine bp_if_le (q := 6) (tgt := 103) 3 rfl rfl (by decide) (fun z3 => ?_) (fun z3 => ?_)
                  · refine bp_vret 55 rfl rfl  ⟨_, rfl, ?_⟩
                    rw [pgE, if_neg (by omega), if_pos ⟨y125, rfl⟩] at hQ2
                    exact hQ2 hk _ hB1
                  · exact absurd (show nI 0 ≤ 0 by decide) z3
            · refine bp_iconst (v := 1) (q := 56) 29 rfl rfl (by decide) ?_
              refine bp_goto (tgt := 70) 30 rfl (by decide) ?_
              refine bp_iadd (q := 71) 37 rfl rfl ?_
              rw [nI_1]
              refine bp_istore_n (q := 72) 38 rfl rfl rfl (by decide) (bp_up1 rfl) ?_
              refine bp_aload_n (q := 73) 39 rfl rfl rfl rfl ?_
              refine bp_dup (q := 74) 40 rfl rfl rfl ?_
              refine bp_getI (q := 77) (ci := 9) (j := 12) 41 rfl rfl fl_Mo_90_9 hB0.kb rfl ?_
              rw [hB0.i12]
              refine bp_iload_n (q := 78) 42 rfl rfl rfl rfl ?_
              refine bp_if_ne (q := 81) (tgt := 85) 43 rfl rfl (by decide) (fun z78 => ?_) (fun z78 => ?_)
              · refine bp_iload_n (q := 86) 46 rfl rfl rfl rfl ?_
                refine bp_bipush (v := 92) (q := 88) 47 rfl rfl (by decide) ?_
                refine bp_icmp_ne (q := 91) (tgt := 95) 48 rfl rfl (by decide) (fun z88 => ?_) (fun z88 => ?_)
                · refine bp_iconst (v := 1) (q := 96) 51 rfl rfl (by decide) ?_
                  refine bp_iadd (q := 97) 52 rfl rfl ?_
                  refine bp_putI (q := 100) (ci := 9) (j := 12) 53 rfl rfl fl_Mo_90_9 cl9 hB0.kb (fun r hr => by cases hr; rfl) (by decide) rfl rfl ?_
                  refine bp_nx (X := fun h1 => MoX M h0 h1 tw (k + 1) 0 fm tl lk al ind sk dp lv fr en nf nn dg nu kd pn pe T xs L ps L1 p1 nt tb fd) (hB0.s12 (nI_1 k)) (fun h1 hB1 => ?_)
                  refine bp_goto (tgt := 2) 54 rfl (by decide) ?_
                  have y123 : tc T k = 123 := (nI_eq_iff (b := 123) (by have := tc_lt hT k; omega) (by decide)).mp (by first | exact z52 | exact Classical.not_not.mp z52)
                  have y125 : ¬ tc T k = 125 := by omega
                  have y92 : ¬ tc T k = 92 := (fun e => z88 (by rw [e]; rfl))
                  rw [pgE, if_neg (by omega), if_neg (fun e => by omega), if_pos y123, if_neg y92] at hQ1 hQ2
                  exact ih (k + 1) (q + 1) _ _ (Or.inr ⟨_, rfl⟩) (by omega) (by omega) (by omega) hB1 hQ1 hQ2
                · refine bp_iconst (v := 2) (q := 92) 49 rfl rfl (by decide) ?_
                  refine bp_goto (tgt := 96) 50 rfl (by decide) ?_
                  refine bp_iadd (q := 97) 52 rfl rfl ?_
                  refine bp_putI (q := 100) (ci := 9) (j := 12) 53 rfl rfl fl_Mo_90_9 cl9 hB0.kb (fun r hr => by cases hr; rfl) (by decide) rfl rfl ?_
                  refine bp_nx (X := fun h1 => MoX M h0 h1 tw (k + 2) 0 fm tl lk al ind sk dp lv fr en nf nn dg nu kd pn pe T xs L ps L1 p1 nt tb fd) (hB0.s12 (nI_add k 2)) (fun h1 hB1 => ?_)
                  refine bp_goto (tgt := 2) 54 rfl (by decide) ?_
                  have y123 : tc T k = 123 := (nI_eq_iff (b := 123) (by have := tc_lt hT k; omega) (by decide)).mp (by first | exact z52 | exact Classical.not_not.mp z52)
                  have y125 : ¬ tc T k = 125 := by omega
                  have y92 : tc T k = 92 := (nI_eq_iff (b := 92) (by have := tc_lt hT k; omega) (by decide)).mp (by first | exact z88 | exact Classical.not_not.mp z88)
                  rw [pgE, if_neg (by omega), if_neg (fun e => by omega), if_pos y123, if_pos y92] at hQ1 hQ2
                  exact ih (k + 2) (q + 1) _ _ (Or.inr ⟨_, rfl⟩) (by omega) (by omega) (by omega) hB1 hQ1 hQ2
              · refine bp_iconst (v := 0) (q := 82) 44 rfl rfl (by decide) ?_
                refine bp_goto (tgt := 96) 45 rfl (by decide) ?_
                refine bp_iadd (q := 97) 52 rfl rfl ?_
                refine bp_putI (q := 100) (ci := 9) (j := 12) 53 rfl rfl fl_Mo_90_9 cl9 hB0.kb (fun r hr => by cases hr; rfl) (by decide) rfl rfl ?_
                refine bp_nx (X := fun h1 => MoX M h0 h1 tw k 0 fm tl lk al ind sk dp lv fr en nf nn dg nu kd pn pe T xs L ps L1 p1 nt tb fd) (hB0.s12 (nI_add k 0)) (fun h1 hB1 => ?_)
                refine bp_goto (tgt := 2) 54 rfl (by decide) ?_
                exact absurd (Int32.le_of_eq (by first | exact z78 | exact Classical.not_not.mp z78)) (nI_pn (by omega))
          · exact absurd ((nI_lt_iff (by omega) (by omega)).mpr hk) z31
    · subst e
      refine bp_iload_n (q := 3) 2 rfl rfl rfl rfl ?_
      refine bp_if_le (q := 6) (tgt := 103) 3 rfl rfl (by decide) (fun z3 => ?_) (fun z3 => ?_)
      · exact absurd z3 (nI_pn (by omega))
      · refine bp_aload_n (q := 7) 4 rfl rfl rfl rfl ?_
        refine bp_getI (q := 10) (ci := 9) (j := 13) 5 rfl rfl fl_Mo_69_9 hB0.kb rfl ?_
        rw [hB0.i13]
        refine bp_if_ne (q := 13) (tgt := 103) 6 rfl rfl (by decide) (fun z10 => ?_) (fun z10 => ?_)
        · exact absurd rfl z10
        · refine bp_aload_n (q := 14) 7 rfl rfl rfl rfl ?_
          refine bp_aload_n (q := 15) 8 rfl rfl rfl rfl ?_
          refine bp_getI (q := 18) (ci := 9) (j := 12) 9 rfl rfl fl_Mo_90_9 hB0.kb rfl ?_
          rw [hB0.i12]
          refine bp_callV (q := 21) (ci := 9) 10 rfl rfl cw_Mo_charAt lk_Mo_83 rfl hB0.kb wd1445 wd43 rfl rfl (Nat.le_of_ble_eq_true rfl) ⟨Nat.le_of_ble_eq_true rfl, Nat.le_of_ble_eq_true rfl⟩ (s_Mo_charAt (ro := false) hB0 hT (by omega) ?_)
          refine bp_istore_n (q := 22) 11 rfl rfl rfl (by decide) (bp_up2 rfl) ?_
          refine bp_aload_n (q := 23) 12 rfl rfl rfl rfl ?_
          refine bp_aload_n (q := 24) 13 rfl rfl rfl rfl ?_
          refine bp_getI (q := 27) (ci := 9) (j := 12) 14 rfl rfl fl_Mo_90_9 hB0.kb rfl ?_
          rw [hB0.i12]
          refine bp_aload_n (q := 28) 15 rfl rfl rfl rfl ?_
          refine bp_getI (q := 31) (ci := 9) (j := 1) 16 rfl rfl fl_Mo_63_9 hB0.kb rfl ?_
          rw [hB0.i1]
          refine bp_icmp_lt (q := 34) (tgt := 38) 17 rfl rfl (by decide) (fun z31 => ?_) (fun z31 => ?_)
          · refine bp_iconst (v := 0) (q := 39) 20 rfl rfl (by decide) ?_
            refine bp_bipush (v := -2) (q := 41) 21 rfl rfl (by decide) ?_
            refine bp_aload_n (q := 42) 22 rfl rfl rfl rfl ?_
            refine bp_getI (q := 45) (ci := 9) (j := 1) 23 rfl rfl fl_Mo_63_9 hB0.kb rfl ?_
            rw [hB0.i1]
            refine bp_callV (q := 48) (ci := 9) 24 rfl rfl cw_Mo_failIf lk_Mo_118 rfl hB0.kb wd1449 wd44 rfl rfl (Nat.le_of_ble_eq_true rfl) ⟨Nat.le_of_ble_eq_true rfl, Nat.le_of_ble_eq_true rfl⟩ (s_Mo_failIfN hB0 rfl ?_)
            refine bp_iload_n (q := 49) 25 rfl rfl rfl rfl ?_
            refine bp_iload_n (q := 50) 26 rfl rfl rfl rfl ?_
            refine bp_bipush (v := 123) (q := 52) 27 rfl rfl (by decide) ?_
            refine bp_icmp_ne (q := 55) (tgt := 59) 28 rfl rfl (by decide) (fun z52 => ?_) (fun z52 => ?_)
            · refine bp_iload_n (q := 60) 31 rfl rfl rfl rfl ?_
              refine bp_bipush (v := 125) (q := 62) 32 rfl rfl (by decide) ?_
              refine bp_icmp_ne (q := 65) (tgt := 69) 33 rfl rfl (by decide) (fun z62 => ?_) (fun z62 => ?_)
              · refine bp_iconst (v := 0) (q := 70) 36 rfl rfl (by decide) ?_
                refine bp_iadd (q := 71) 37 rfl rfl ?_
                rw [show nI (q + 1) + 0 = nI (q + 1) from nI_add (q + 1) 0]
                refine bp_istore_n (q := 72) 38 rfl rfl rfl (by decide) (bp_up1 rfl) ?_
                refine bp_aload_n (q := 73) 39 rfl rfl rfl rfl ?_
                refine bp_dup (q := 74) 40 rfl rfl rfl ?_
                refine bp_getI (q := 77) (ci := 9) (j := 12) 41 rfl rfl fl_Mo_90_9 hB0.kb rfl ?_
                rw [hB0.i12]
                refine bp_iload_n (q := 78) 42 rfl rfl rfl rfl ?_
                refine bp_if_ne (q := 81) (tgt := 85) 43 rfl rfl (by decide) (fun z78 => ?_) (fun z78 => ?_)
                · refine bp_iload_n (q := 86) 46 rfl rfl rfl rfl ?_
                  refine bp_bipush (v := 92) (q := 88) 47 rfl rfl (by decide) ?_
                  refine bp_icmp_ne (q := 91) (tgt := 95) 48 rfl rfl (by decide) (fun z88 => ?_) (fun z88 => ?_)
                  · refine bp_iconst (v := 1) (q := 96) 51 rfl rfl (by decide) ?_
                    refine bp_iadd (q := 97) 52 rfl rfl ?_
                    refine bp_putI (q := 100) (ci := 9) (j := 12) 53 rfl rfl fl_Mo_90_9 cl9 hB0.kb (fun r hr => by cases hr; rfl) (by decide) rfl rfl ?_
                    refine bp_nx (X := fun h1 => MoX M h0 h1 tw (k + 1) 0 fm tl lk al ind sk dp lv fr en nf nn dg nu kd pn pe T xs L ps L1 p1 nt tb fd) (hB0.s12 (nI_1 k)) (fun h1 hB1 => ?_)
                    refine bp_goto (tgt := 2) 54 rfl (by decide) ?_
                    have y123 : ¬ tc T k = 123 := (fun e => z52 (by rw [e]; rfl))
                    have y125 : ¬ tc T k = 125 := (fun e => z62 (by rw [e]; rfl))
                    have y92 : ¬ tc T k = 92 := (fun e => z88 (by rw [e]; rfl))
                    rw [pgE, if_neg (by omega), if_neg (fun e => by omega), if_neg y123, if_neg y125, if_neg y92] at hQ1 hQ2
                    exact ih (k + 1) q _ _ (Or.inr ⟨_, rfl⟩) (by omega) (by omega) (by omega) hB1 hQ1 hQ2
                  · refine bp_iconst (v := 2) (q := 92) 49 rfl rfl (by decide) ?_
                    refine bp_goto (tgt := 96) 50 rfl (by decide) ?_
                    refine bp_iadd (q := 97) 52 rfl rfl ?_
                    refine bp_putI (q := 100) (ci := 9) (j := 12) 53 rfl rfl fl_Mo_90_9 cl9 hB0.kb (fun r hr => by cases hr; rfl) (by decide) rfl rfl ?_
                    refine bp_nx (X := fun h1 => MoX M h0 h1 tw (k + 2) 0 fm tl lk al ind sk dp lv fr en nf nn dg nu kd pn pe T xs L ps L1 p1 nt tb fd) (hB0.s12 (nI_add k 2)) (fun h1 hB1 => ?_)
                    refine bp_goto (tgt := 2) 54 rfl (by decide) ?_
                    have y123 : ¬ tc T k = 123 := (fun e => z52 (by rw [e]; rfl))
                    have y125 : ¬ tc T k = 125 := (fun e => z62 (by rw [e]; rfl))
                    have y92 : tc T k = 92 := (nI_eq_iff (b := 92) (by have := tc_lt hT k; omega) (by decide)).mp (by first | exact z88 | exact Classical.not_not.mp z88)
                    rw [pgE, if_neg (by omega), if_neg (fun e => by omega), if_neg y123, if_neg y125, if_pos y92] at hQ1 hQ2
                    exact ih (k + 2) q _ _ (Or.inr ⟨_, rfl⟩) (by omega) (by omega) (by omega) hB1 hQ1 hQ2
                · refine bp_iconst (v := 0) (q := 82) 44 rfl rfl (by decide) ?_
                  refine bp_goto (tgt := 96) 45 rfl (by decide) ?_
                  refine bp_iadd (q := 97) 52 rfl rfl ?_
                  refine bp_putI (q := 100) (ci := 9) (j := 12) 53 rfl rfl fl_Mo_90_9 cl9 hB0.kb (fun r hr => by cases hr; rfl) (by decide) rfl rfl ?_
                  refine bp_nx (X := fun h1 => MoX M h0 h1 tw k 0 fm tl lk al ind sk dp lv fr en nf nn dg nu kd pn pe T xs L ps L1 p1 nt tb fd) (hB0.s12 (nI_add k 0)) (fun h1 hB1 => ?_)
                  refine bp_goto (tgt := 2) 54 rfl (by decide) ?_
                  exact absurd (Int32.le_of_eq (by first | exact z78 | exact Classical.not_not.mp z78)) (nI_pn (by omega))
              · refine bp_iconst (v := -1) (q := 66) 34 rfl rfl (by decide) ?_
                refine bp_goto (tgt := 70) 35 rfl (by decide) ?_
                refine bp_iadd (q := 71) 37 rfl rfl ?_
                rw [nI_p1m]
                refine bp_istore_n (q := 72) 38 rfl rfl rfl (by decide) (bp_up1 rfl) ?_
                refine bp_aload_n (q := 73) 39 rfl rfl rfl rfl ?_
                refine bp_dup (q := 74) 40 rfl rfl rfl ?_
                refine bp_getI (q := 77) (ci := 9) (j := 12) 41 rfl rfl fl_Mo_90_9 hB0.kb rfl ?_
                rw [hB0.i12]
                refine bp_iload_n (q := 78) 42 rfl rfl rfl rfl ?_
                refine bp_if_ne (q := 81) (tgt := 85) 43 rfl rfl (by decide) (fun z78 => ?_) (fun z78 => ?_)
                · refine bp_iload_n (q := 86) 46 rfl rfl rfl rfl ?_
                  refine bp_bipush (v := 92) (q := 88) 47 rfl rfl (by decide) ?_
                  refine bp_icmp_ne (q := 91) (tgt := 95) 48 rfl rfl (by decide) (fun z88 => ?_) (fun z88 => ?_)
                  · refine bp_iconst (v := 1) (q := 96) 51 rfl rfl (by decide) ?_
                    refine bp_iadd (q := 97) 52 rfl rfl ?_
                    refine bp_putI (q := 100) (ci := 9) (j := 12) 53 rfl rfl fl_Mo_90_9 cl9 hB0.kb (fun r hr => by cases hr; rfl) (by decide) rfl rfl ?_
                    refine bp_nx (X := fun h1 => MoX M h0 h1 tw (k + 1) 0 fm tl lk al ind sk dp lv fr en nf nn dg nu kd pn pe T xs L ps L1 p1 nt tb fd) (hB0.s12 (nI_1 k)) (fun h1 hB1 => ?_)
                    refine bp_goto (tgt := 2) 54 rfl (by decide) ?_
                    have y123 : ¬ tc T k = 123 := (fun e => z52 (by rw [e]; rfl))
                    have y125 : tc T k = 125 := (nI_eq_iff (b := 125) (by have := tc_lt hT k; omega) (by decide)).mp (by first | exact z62 | exact Classical.not_not.mp z62)
                    have y92 : ¬ tc T k = 92 := (fun e => z88 (by rw [e]; rfl))
                    have yq : ¬ q = 0 := fun e => z78 (by rw [e]; rfl)
                    obtain ⟨q2, rfl⟩ : ∃ q2, q = q2 + 1 := ⟨q - 1, by omega⟩
                    rw [pgE, if_neg (by omega), if_neg (fun e => by omega), if_neg y123, if_pos y125, show q2 + 1 - 1 = q2 from rfl, if_neg y92] at hQ1 hQ2
                    exact ih (k + 1) q2 _ _ (Or.inr ⟨_, rfl⟩) (by omega) (by omega) (by omega) hB1 hQ1 hQ2
                  · refine bp_iconst (v := 2) (q := 92) 49 rfl rfl (by decide) ?_
                    refine bp_goto (tgt := 96) 50 rfl (by decide) ?_
                    refine bp_iadd (q := 97) 52 rfl rfl ?_
                    refine bp_putI (q := 100) (ci := 9) (j := 12) 53 rfl rfl fl_Mo_90_9 cl9 hB0.kb (fun r hr => by cases hr; rfl) (by decide) rfl rfl ?_
                    refine bp_nx (X := fun h1 => MoX M h0 h1 tw (k + 2) 0 fm tl lk al ind sk dp lv fr en nf nn dg nu kd pn pe T xs L ps L1 p1 nt tb fd) (hB0.s12 (nI_add k 2)) (fun h1 hB1 => ?_)
                    refine bp_goto (tgt := 2) 54 rfl (by decide) ?_
                    have y123 : ¬ tc T k = 123 := (fun e => z52 (by rw [e]; rfl))
                    have y125 : tc T k = 125 := (nI_eq_iff (b := 125) (by have := tc_lt hT k; omega) (by decide)).mp (by first | exact z62 | exact Classical.not_not.mp z62)
                    have y92 : tc T k = 92 := (nI_eq_iff (b := 92) (by have := tc_lt hT k; omega) (by decide)).mp (by first | exact z88 | exact Classical.not_not.mp z88)
                    have yq : ¬ q = 0 := fun e => z78 (by rw [e]; rfl)
                    obtain ⟨q2, rfl⟩ : ∃ q2, q = q2 + 1 := ⟨q - 1, by omega⟩
                    rw [pgE, if_neg (by omega), if_neg (fun e => by omega), if_neg y123, if_pos y125, show q2 + 1 - 1 = q2 from rfl, if_pos y92] at hQ1 hQ2
                    exact ih (k + 2) q2 _ _ (Or.inr ⟨_, rfl⟩) (by omega) (by omega) (by omega) hB1 hQ1 hQ2
                · refine bp_iconst (v := 0) (q := 82) 44 rfl rfl (by decide) ?_
                  refine bp_goto (tgt := 96) 45 rfl (by decide) ?_
                  refine bp_iadd (q := 97) 52 rfl rfl ?_
                  refine bp_putI (q := 100) (ci := 9) (j := 12) 53 rfl rfl fl_Mo_90_9 cl9 hB0.kb (fun r hr => by cases hr; rfl) (by decide) rfl rfl ?_
                  refine bp_nx (X := fun h1 => MoX M h0 h1 tw k 0 fm tl lk al ind sk dp lv fr en nf nn dg nu kd pn pe T xs L ps L1 p1 nt tb fd) (hB0.s12 (nI_add k 0)) (fun h1 hB1 => ?_)
                  refine bp_goto (tgt := 2) 54 rfl (by decide) ?_
                  have y123 : ¬ tc T k = 123 := (fun e => z52 (by rw [e]; rfl))
                  have y125 : tc T k = 125 := (nI_eq_iff (b := 125) (by have := tc_lt hT k; omega) (by decide)).mp (by first | exact z62 | exact Classical.not_not.mp z62)
                  have yq : q = 0 := (nI_eq_iff (b := 0) (by omega) (by decide)).mp (by first | exact z78 | exact Classical.not_not.mp z78)
                  subst yq
                  refine bp_iload_n (q := 3) 2 rfl rfl rfl rfl ?_
                  refine bp_if_le (q := 6) (tgt := 103) 3 rfl rfl (by decide) (fun z3 => ?_) (fun z3 => ?_)
                  · refine bp_vret 55 rfl rfl  ⟨_, rfl, ?_⟩
                    rw [pgE, if_neg (by omega), if_pos ⟨y125, rfl⟩] at hQ2
                    exact hQ2 hk _ hB1
                  · exact absurd (show nI 0 ≤ 0 by decide) z3
            · refine bp_iconst (v := 1) (q := 56) 29 rfl rfl (by decide) ?_
              refine bp_goto (tgt := 70) 30 rfl (by decide) ?_
              refine bp_iadd (q := 71) 37 rfl rfl ?_
              rw [nI_1]
              refine bp_istore_n (q := 72) 38 rfl rfl rfl (by decide) (bp_up1 rfl) ?_
              refine bp_aload_n (q := 73) 39 rfl rfl rfl rfl ?_
              refine bp_dup (q := 74) 40 rfl rfl rfl ?_
              refine bp_getI (q := 77) (ci := 9) (j := 12) 41 rfl rfl fl_Mo_90_9 hB0.kb rfl ?_
              rw [hB0.i12]
              refine bp_iload_n (q := 78) 42 rfl rfl rfl rfl ?_
              refine bp_if_ne (q := 81) (tgt := 85) 43 rfl rfl (by decide) (fun z78 => ?_) (fun z78 => ?_)
              · refine bp_iload_n (q := 86) 46 rfl rfl rfl rfl ?_
                refine bp_bipush (v := 92) (q := 88) 47 rfl rfl (by decide) ?_
                refine bp_icmp_ne (q := 91) (tgt := 95) 48 rfl rfl (by decide) (fun z88 => ?_) (fun z88 => ?_)
                · refine bp_iconst (v := 1) (q := 96) 51 rfl rfl (by decide) ?_
                  refine bp_iadd (q := 97) 52 rfl rfl ?_
                  refine bp_putI (q := 100) (ci := 9) (j := 12) 53 rfl rfl fl_Mo_90_9 cl9 hB0.kb (fun r hr => by cases hr; rfl) (by decide) rfl rfl ?_
                  refine bp_nx (X := fun h1 => MoX M h0 h1 tw (k + 1) 0 fm tl lk al ind sk dp lv fr en nf nn dg nu kd pn pe T xs L ps L1 p1 nt tb fd) (hB0.s12 (nI_1 k)) (fun h1 hB1 => ?_)
                  refine bp_goto (tgt := 2) 54 rfl (by decide) ?_
                  have y123 : tc T k = 123 := (nI_eq_iff (b := 123) (by have := tc_lt hT k; omega) (by decide)).mp (by first | exact z52 | exact Classical.not_not.mp z52)
                  have y125 : ¬ tc T k = 125 := by omega
                  have y92 : ¬ tc T k = 92 := (fun e => z88 (by rw [e]; rfl))
                  rw [pgE, if_neg (by omega), if_neg (fun e => by omega), if_pos y123, if_neg y92] at hQ1 hQ2
                  exact ih (k + 1) (q + 1) _ _ (Or.inr ⟨_, rfl⟩) (by omega) (by omega) (by omega) hB1 hQ1 hQ2
                · refine bp_iconst (v := 2) (q := 92) 49 rfl rfl (by decide) ?_
                  refine bp_goto (tgt := 96) 50 rfl (by decide) ?_
                  refine bp_iadd (q := 97) 52 rfl rfl ?_
                  refine bp_putI (q := 100) (ci := 9) (j := 12) 53 rfl rfl fl_Mo_90_9 cl9 hB0.kb (fun r hr => by cases hr; rfl) (by decide) rfl rfl ?_
                  refine bp_nx (X := fun h1 => MoX M h0 h1 tw (k + 2) 0 fm tl lk al ind sk dp lv fr en nf nn dg nu kd pn pe T xs L ps L1 p1 nt tb fd) (hB0.s12 (nI_add k 2)) (fun h1 hB1 => ?_)
                  refine bp_goto (tgt := 2) 54 rfl (by decide) ?_
                  have y123 : tc T k = 123 := (nI_eq_iff (b := 123) (by have := tc_lt hT k; omega) (by decide)).mp (by first | exact z52 | exact Classical.not_not.mp z52)
                  have y125 : ¬ tc T k = 125 := by omega
                  have y92 : tc T k = 92 := (nI_eq_iff (b := 92) (by have := tc_lt hT k; omega) (by decide)).mp (by first | exact z88 | exact Classical.not_not.mp z88)
                  rw [pgE, if_neg (by omega), if_neg (fun e => by omega), if_pos y123, if_pos y92] at hQ1 hQ2
                  exact ih (k + 2) (q + 1) _ _ (Or.inr ⟨_, rfl⟩) (by omega) (by omega) (by omega) hB1 hQ1 hQ2
              · refine bp_iconst (v := 0) (q := 82) 44 rfl rfl (by decide) ?_
                refine bp_goto (tgt := 96) 45 rfl (by decide) ?_
                refine bp_iadd (q := 97) 52 rfl rfl ?_
                refine bp_putI (q := 100) (ci := 9) (j := 12) 53 rfl rfl fl_Mo_90_9 cl9 hB0.kb (fun r hr => by cases hr; rfl) (by decide) rfl rfl ?_
                refine bp_nx (X := fun h1 => MoX M h0 h1 tw k 0 fm tl lk al ind sk dp lv fr en nf nn dg nu kd pn pe T xs L ps L1 p1 nt tb fd) (hB0.s12 (nI_add k 0)) (fun h1 hB1 => ?_)
                refine bp_goto (tgt := 2) 54 rfl (by decide) ?_
                exact absurd (Int32.le_of_eq (by first | exact z78 | exact Classical.not_not.mp z78)) (nI_pn (by omega))
          · exact absurd ((nI_lt_iff (by omega) (by omega)).mpr hk) z31
set_option maxRecDepth 100000 in
set_option maxHeartbeats 4000000 in
theorem s_Mo_pass  (hB0 : MoX M h0 h tw i 0 fm tl lk al ind sk dp lv fr en nf nn dg nu kd pn pe T xs L ps L1 p1 nt tb fd) (hT : okT T) (hi : i ≤ T.length + 2) (hQ1 : T.length ≤ pgE T (T.length - i) 0 i → ∀ h' i', MoX M h0 h' tw i' (-2) (nI T.length) tl lk al ind sk dp lv fr en nf nn dg nu kd pn pe T xs L ps L1 p1 nt tb fd → Q none h' c s) (hQ2 : pgE T (T.length - i) 0 i < T.length → ∀ h', MoX M h0 h' tw ((pgE T (T.length - i) 0 i)) 0 fm tl lk al ind sk dp lv fr en nf nn dg nu kd pn pe T xs L ps L1 p1 nt tb fd → Q none h' c s) : bp_AM l G H0 (2, 45, false, false) M_Mo_pass h c s [.ref (M 0)] Q := by
  refine bp_of (ls := [some (.ref (M 0)), none, none]) (by decide) dt_Mo_pass (Nat.le_of_ble_eq_true rfl) (fun q hq => hq) false ?_
  refine bp_iconst (v := 1) (q := 1) 0 rfl rfl (by decide) ?_
  refine bp_istore_n (q := 2) 1 rfl rfl rfl (by decide) (bp_up1 rfl) ?_
  exact lp_Mo_pass hT (T.length - i) i 0 _ _ (Or.inl rfl) (by omega) (by have := hT.1; omega) (by have := hT.1; omega) hB0 hQ1 hQ2
end MO16
