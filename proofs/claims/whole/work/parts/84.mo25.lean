/-! the reference's braced reading, whole -/
/-- the reference between two calls -/
def MoS (M : Nat → Nat) (h0 h : bp_H) (tw tl : Int32) (T xs : List Nat) (L : List (Nat × Nat)) (ps : List (Nat × Nat × Nat)) : Prop := ∃ (i : Nat) (fa : Int32) (fm : Int32) (lk : Nat) (al : Nat) (ind : Nat) (sk : Nat) (dp : Nat) (lv : Nat) (fr : Bool) (en : Nat) (nf : Nat) (nn : Nat) (dg : Nat) (nu : Int32) (kd : Nat) (pn : Int32) (pe : Nat) (L1 : List (Nat × Nat)) (p1 : List (Nat × Nat × Nat)) (nt : List (Nat → Nat)) (tb : List Nat) (fd : List Nat), MoX M h0 h tw i fa fm tl lk al ind sk dp lv fr en nf nn dg nu kd pn pe T xs L ps L1 p1 nt tb fd
def FinR (T : List Nat) (N : Nat) (L1 : List (Nat × Nat)) (p1 : List (Nat × Nat × Nat)) (R : BS) : Prop := (N < T.length → bFa R = -3 ∧ bMe R = nI N) ∧ (¬ N < T.length → pst p1 p1.length < L1.length → 16 ≤ p1.length → bFa R = -8 ∧ bMe R = nI T.length) ∧ (¬ N < T.length → pst p1 p1.length < L1.length → ¬ 16 ≤ p1.length → bFa R = 0 ∧ bMe R = -1 ∧ bL R = L1 ∧ bPs R = p1 ++ [(0, 0, L1.length)]) ∧ (¬ N < T.length → ¬ pst p1 p1.length < L1.length → bFa R = 0 ∧ bMe R = -1 ∧ bL R = L1 ∧ bPs R = p1)
theorem bFin_R {T : List Nat} {i lv : Nat} {fr it : Bool} {v : Nat → Nat} {nt : List (Nat → Nat)} {tb nm : List Nat} {L1 : List (Nat × Nat)} {p1 : List (Nat × Nat × Nat)} : FinR T (nlE T (T.length - i) i) L1 p1 (bFin T (i, 0, -1, lv, fr, it, true, v, nt, tb, nm, L1, p1)) := by
  have e : bFin T (i, 0, -1, lv, fr, it, true, v, nt, tb, nm, L1, p1) = (if nlE T (T.length - i) i < T.length then (i, -3, nI (nlE T (T.length - i) i), lv, fr, it, true, v, nt, tb, nm, L1, p1) else if pst p1 p1.length < L1.length then (if 16 ≤ p1.length then (i, -8, nI T.length, lv, fr, it, true, v, nt, tb, nm, L1, p1) else (i, 0, -1, lv, fr, it, true, v, nt, tb, nm, L1, p1 ++ [(0, 0, L1.length)])) else (i, 0, -1, lv, fr, it, true, v, nt, tb, nm, L1, p1)) := rfl
  rw [e]
  refine ⟨fun h => ?_, fun h h1 h2 => ?_, fun h h1 h2 => ?_, fun h h1 => ?_⟩
  · rw [if_pos h]; exact ⟨rfl, rfl⟩
  · rw [if_neg h, if_pos h1, if_pos h2]; exact ⟨rfl, rfl⟩
  · rw [if_neg h, if_pos h1, if_neg h2]; exact ⟨rfl, rfl, rfl, rfl⟩
  · rw [if_neg h, if_neg h1]; exact ⟨rfl, rfl, rfl, rfl⟩
theorem nlE_10 {T : List Nat} {k : Nat} (h : tc T k = 10) : nlE T (T.length - k) k = nlE T (T.length - (k + 1)) (k + 1) := by
  have hk := tc_in' h (by decide)
  obtain ⟨n, hn⟩ : ∃ n, T.length - k = n + 1 := ⟨T.length - k - 1, by omega⟩
  rw [hn, nlE, if_pos h, show T.length - (k + 1) = n by omega]
theorem nlE_no {T : List Nat} {k : Nat} (h : ¬ tc T k = 10) : ∀ n, nlE T n k = k
  | 0 => rfl
  | n + 1 => by rw [nlE, if_neg h]
section MO25
variable {l : Launch} {G : bp_G} {H0 : Heap} {M : Nat → Nat} {h0 h : bp_H} {tw : Int32} {i : Nat} {fa : Int32} {fm : Int32} {tl : Int32} {lk : Nat} {al : Nat} {ind : Nat} {sk : Nat} {dp : Nat} {lv : Nat} {fr : Bool} {en : Nat} {nf : Nat} {nn : Nat} {dg : Nat} {nu : Int32} {kd : Nat} {pn : Int32} {pe : Nat} {T : List Nat} {xs : List Nat} {L : List (Nat × Nat)} {ps : List (Nat × Nat × Nat)} {L1 : List (Nat × Nat)} {p1 : List (Nat × Nat × Nat)} {nt : List (Nat → Nat)} {tb : List Nat} {fd : List Nat} {c s : Nat} {Q : Option Value → bp_H → Nat → Nat → Prop} {v : Nat → Nat} {nm : List Nat} {R : BS}
theorem MoS.of (hB : MoX M h0 h tw i fa fm tl lk al ind sk dp lv fr en nf nn dg nu kd pn pe T xs L ps L1 p1 nt tb fd) : MoS M h0 h tw tl T xs L ps := ⟨i, fa, fm, lk, al, ind, sk, dp, lv, fr, en, nf, nn, dg, nu, kd, pn, pe, L1, p1, nt, tb, fd, hB⟩
theorem rb_f (hQ : ∀ h', MoS M h0 h' tw (bMe R) T xs (if bFa R = 0 then bL R else L) (if bFa R = 0 then bPs R else ps) → Q (some (.int (if bFa R = 0 then nI (bPs R).length else bFa R))) h' c s) (hf : ¬ fa = 0) (h1 : bFa R = fa) (h2 : bMe R = fm) (hB : MoX M h0 h tw i fa fm fm lk al ind sk dp lv fr en nf nn dg nu kd pn pe T xs L ps L1 p1 nt tb fd) : Q (some (.int fa)) h c s := by
  have q := hQ h
  rw [h1, h2, if_neg hf, if_neg hf, if_neg hf] at q
  exact q (MoS.of hB)
theorem rb_k (hQ : ∀ h', MoS M h0 h' tw (bMe R) T xs (if bFa R = 0 then bL R else L) (if bFa R = 0 then bPs R else ps) → Q (some (.int (if bFa R = 0 then nI (bPs R).length else bFa R))) h' c s) (h0' : bFa R = 0) (h2 : bMe R = -1) (h3 : bL R = L1) (h4 : bPs R = p1) (hB : MoX M h0 h tw i fa fm (-1) lk al ind sk dp lv fr en nf nn dg nu kd pn pe T xs L1 p1 L1 p1 nt tb fd) : Q (some (.int (nI p1.length))) h c s := by
  have q := hQ h
  rw [h0', h2, if_pos rfl, if_pos rfl, if_pos rfl, h3, h4] at q
  exact q (MoS.of hB)
set_option maxRecDepth 100000 in
set_option maxHeartbeats 4000000 in
theorem lp_Mo_rbF {x : Int32} (hB0 : MoX M h0 h tw i fa fm tl lk al ind sk dp lv fr en nf nn dg nu kd pn pe T xs L ps L1 p1 nt tb fd) (hQ : ∀ h', MoS M h0 h' tw (bMe R) T xs (if bFa R = 0 then bL R else L) (if bFa R = 0 then bPs R else ps) → Q (some (.int (if bFa R = 0 then nI (bPs R).length else bFa R))) h' c s) (hf : ¬ fa = 0) (hr1 : bFa R = fa) (hr2 : bMe R = fm) : bp_A l G H0 (7, 162, false, false) M_Mo_readBraced h c s 76 [some (.ref (M 0)), some (.int x), none] [] (fun o h' c' s' => ∃ v, o = .returned v ∧ Q v h' c' s') := by
  refine bp_iload_n (q := 77) 45 rfl rfl rfl rfl ?_
  refine bp_if_eq (q := 80) (tgt := 107) 46 rfl rfl (by decide) (fun z77 => ?_) (fun z77 => ?_)
  · refine bp_aload_n (q := 108) 60 rfl rfl rfl rfl ?_
    refine bp_getI (q := 111) (ci := 9) (j := 13) 61 rfl rfl fl_Mo_69_9 hB0.kb rfl ?_
    rw [hB0.i13]
    refine bp_if_ne (q := 114) (tgt := 167) 62 rfl rfl (by decide) (fun z111 => ?_) (fun z111 => ?_)
    · refine bp_aload_n (q := 168) 90 rfl rfl rfl rfl ?_
      refine bp_getR (x := M 5) (q := 171) (ci := 9) (j := 5) 91 rfl rfl fl_Mo_17_9 hB0.kb rfl hB0.r5 ?_
      refine bp_iconst (v := 1) (q := 172) 92 rfl rfl (by decide) ?_
      refine bp_iald (q := 173) 93 rfl rfl hB0.k5 (vp_inL (n := 1) hB0.l5 (by decide) (by decide)) ?_
      rw [show bp_I _ (M 5) ((1 : Int32).toNatClampNeg) = nI (L1).length from hB0.2.2.2.2.2.2.1.2.2.1]
      refine bp_if_le (q := 176) (tgt := 204) 94 rfl rfl (by decide) (fun z173 => ?_) (fun z173 => ?_)
      · refine bp_iconst (v := 0) (q := 205) 111 rfl rfl (by decide) ?_
        refine bp_istore_n (q := 206) 112 rfl rfl rfl (by decide) (bp_up2 rfl) ?_
        refine bp_aload_n (q := 207) 113 rfl rfl rfl rfl ?_
        refine bp_getI (q := 210) (ci := 9) (j := 13) 114 rfl rfl fl_Mo_69_9 hB0.kb rfl ?_
        rw [hB0.i13]
        refine bp_if_ne (q := 213) (tgt := 257) 115 rfl rfl (by decide) (fun z210 => ?_) (fun z210 => ?_)
        · refine bp_aload_n (q := 258) 140 rfl rfl rfl rfl ?_
          refine bp_callV (q := 261) (ci := 9) 141 rfl rfl cw_Mo_finished lk_Mo_136 rfl hB0.kb wd1564 wd62 rfl rfl (Nat.le_of_ble_eq_true rfl) ⟨Nat.le_of_ble_eq_true rfl, Nat.le_of_ble_eq_true rfl⟩ (s_Mo_finished1 hB0 hf (fun h1 hB1 => ?_))
          exact bp_iret 142 rfl rfl rfl ⟨_, rfl, rb_f hQ hf hr1 hr2 hB1⟩
        · exact absurd z210 hf
      · refine bp_aload_n (q := 177) 95 rfl rfl rfl rfl ?_
        refine bp_getR (x := M 9) (q := 180) (ci := 9) (j := 9) 96 rfl rfl fl_Mo_30_9 hB0.kb rfl hB0.r9 ?_
        refine bp_sipush (v := 399) (q := 183) 97 rfl rfl (by decide) ?_
        refine bp_aload_n (q := 184) 98 rfl rfl rfl rfl ?_
        refine bp_getR (x := M 5) (q := 187) (ci := 9) (j := 5) 99 rfl rfl fl_Mo_17_9 hB0.kb rfl hB0.r5 ?_
        refine bp_iconst (v := 1) (q := 188) 100 rfl rfl (by decide) ?_
        refine bp_iald (q := 189) 101 rfl rfl hB0.k5 (vp_inL (n := 1) hB0.l5 (by decide) (by decide)) ?_
        rw [show bp_I _ (M 5) ((1 : Int32).toNatClampNeg) = nI (L1).length from hB0.2.2.2.2.2.2.1.2.2.1]
        refine bp_iadd (q := 190) 102 rfl rfl ?_
        rw [show (399 : Int32) + nI L1.length = nI (399 + L1.length) from by rw [show (399 : Int32) = nI 399 from rfl, nI_add]]
        have hL4 := hB0.2.2.2.2.2.2.1.1
        have hL0 : 0 < L1.length := Nat.pos_of_ne_zero (fun e => absurd z173 (fun q => q (by rw [e]; decide)))
        refine bp_iald (q := 191) 103 rfl rfl hB0.k9 (vp_inL hB0.l9 (by omega) (by decide)) ?_
        rw [nI_clamp (by omega), show bp_I _ (M 9) (399 + L1.length) = nI (pIx p1 (L1.length - 1)) from by have z := (hB0.2.2.2.2.2.2.1.2.2.2.2.1 (L1.length - 1) (by omega)).2.2; rw [show 400 * 1 + (L1.length - 1) = 399 + L1.length by omega] at z; exact z]
        refine bp_aload_n (q := 192) 104 rfl rfl rfl rfl ?_
        refine bp_getR (x := M 6) (q := 195) (ci := 9) (j := 6) 105 rfl rfl fl_Mo_21_9 hB0.kb rfl hB0.r6 ?_
        refine bp_iconst (v := 1) (q := 196) 106 rfl rfl (by decide) ?_
        refine bp_iald (q := 197) 107 rfl rfl hB0.k6 (vp_inL (n := 1) hB0.l6 (by decide) (by decide)) ?_
        rw [show bp_I _ (M 6) ((1 : Int32).toNatClampNeg) = nI (p1).length from hB0.2.2.2.2.2.2.1.2.2.2.1]
        refine bp_icmp_ne (q := 200) (tgt := 204) 108 rfl rfl (by decide) (fun z197 => ?_) (fun z197 => ?_)
        · refine bp_iconst (v := 0) (q := 205) 111 rfl rfl (by decide) ?_
          refine bp_istore_n (q := 206) 112 rfl rfl rfl (by decide) (bp_up2 rfl) ?_
          refine bp_aload_n (q := 207) 113 rfl rfl rfl rfl ?_
          refine bp_getI (q := 210) (ci := 9) (j := 13) 114 rfl rfl fl_Mo_69_9 hB0.kb rfl ?_
          rw [hB0.i13]
          refine bp_if_ne (q := 213) (tgt := 257) 115 rfl rfl (by decide) (fun z210 => ?_) (fun z210 => ?_)
          · refine bp_aload_n (q := 258) 140 rfl rfl rfl rfl ?_
            refine bp_callV (q := 261) (ci := 9) 141 rfl rfl cw_Mo_finished lk_Mo_136 rfl hB0.kb wd1564 wd62 rfl rfl (Nat.le_of_ble_eq_true rfl) ⟨Nat.le_of_ble_eq_true rfl, Nat.le_of_ble_eq_true rfl⟩ (s_Mo_finished1 hB0 hf (fun h1 hB1 => ?_))
            exact bp_iret 142 rfl rfl rfl ⟨_, rfl, rb_f hQ hf hr1 hr2 hB1⟩
          · exact absurd z210 hf
        · refine bp_iconst (v := 1) (q := 201) 109 rfl rfl (by decide) ?_
          refine bp_goto (tgt := 205) 110 rfl (by decide) ?_
          refine bp_istore_n (q := 206) 112 rfl rfl rfl (by decide) (bp_up2 rfl) ?_
          refine bp_aload_n (q := 207) 113 rfl rfl rfl rfl ?_
          refine bp_getI (q := 210) (ci := 9) (j := 13) 114 rfl rfl fl_Mo_69_9 hB0.kb rfl ?_
          rw [hB0.i13]
          refine bp_if_ne (q := 213) (tgt := 257) 115 rfl rfl (by decide) (fun z210 => ?_) (fun z210 => ?_)
          · refine bp_aload_n (q := 258) 140 rfl rfl rfl rfl ?_
            refine bp_callV (q := 261) (ci := 9) 141 rfl rfl cw_Mo_finished lk_Mo_136 rfl hB0.kb wd1564 wd62 rfl rfl (Nat.le_of_ble_eq_true rfl) ⟨Nat.le_of_ble_eq_true rfl, Nat.le_of_ble_eq_true rfl⟩ (s_Mo_finished1 hB0 hf (fun h1 hB1 => ?_))
            exact bp_iret 142 rfl rfl rfl ⟨_, rfl, rb_f hQ hf hr1 hr2 hB1⟩
          · exact absurd z210 hf
    · exact absurd z111 hf
  · refine bp_aload_n (q := 81) 47 rfl rfl rfl rfl ?_
    refine bp_getI (q := 84) (ci := 9) (j := 13) 48 rfl rfl fl_Mo_69_9 hB0.kb rfl ?_
    rw [hB0.i13]
    refine bp_if_ne (q := 87) (tgt := 107) 49 rfl rfl (by decide) (fun z84 => ?_) (fun z84 => ?_)
    · refine bp_aload_n (q := 108) 60 rfl rfl rfl rfl ?_
      refine bp_getI (q := 111) (ci := 9) (j := 13) 61 rfl rfl fl_Mo_69_9 hB0.kb rfl ?_
      rw [hB0.i13]
      refine bp_if_ne (q := 114) (tgt := 167) 62 rfl rfl (by decide) (fun z111 => ?_) (fun z111 => ?_)
      · refine bp_aload_n (q := 168) 90 rfl rfl rfl rfl ?_
        refine bp_getR (x := M 5) (q := 171) (ci := 9) (j := 5) 91 rfl rfl fl_Mo_17_9 hB0.kb rfl hB0.r5 ?_
        refine bp_iconst (v := 1) (q := 172) 92 rfl rfl (by decide) ?_
        refine bp_iald (q := 173) 93 rfl rfl hB0.k5 (vp_inL (n := 1) hB0.l5 (by decide) (by decide)) ?_
        rw [show bp_I _ (M 5) ((1 : Int32).toNatClampNeg) = nI (L1).length from hB0.2.2.2.2.2.2.1.2.2.1]
        refine bp_if_le (q := 176) (tgt := 204) 94 rfl rfl (by decide) (fun z173 => ?_) (fun z173 => ?_)
        · refine bp_iconst (v := 0) (q := 205) 111 rfl rfl (by decide) ?_
          refine bp_istore_n (q := 206) 112 rfl rfl rfl (by decide) (bp_up2 rfl) ?_
          refine bp_aload_n (q := 207) 113 rfl rfl rfl rfl ?_
          refine bp_getI (q := 210) (ci := 9) (j := 13) 114 rfl rfl fl_Mo_69_9 hB0.kb rfl ?_
          rw [hB0.i13]
          refine bp_if_ne (q := 213) (tgt := 257) 115 rfl rfl (by decide) (fun z210 => ?_) (fun z210 => ?_)
          · refine bp_aload_n (q := 258) 140 rfl rfl rfl rfl ?_
            refine bp_callV (q := 261) (ci := 9) 141 rfl rfl cw_Mo_finished lk_Mo_136 rfl hB0.kb wd1564 wd62 rfl rfl (Nat.le_of_ble_eq_true rfl) ⟨Nat.le_of_ble_eq_true rfl, Nat.le_of_ble_eq_true rfl⟩ (s_Mo_finished1 hB0 hf (fun h1 hB1 => ?_))
            exact bp_iret 142 rfl rfl rfl ⟨_, rfl, rb_f hQ hf hr1 hr2 hB1⟩
          · exact absurd z210 hf
        · refine bp_aload_n (q := 177) 95 rfl rfl rfl rfl ?_
          refine bp_getR (x := M 9) (q := 180) (ci := 9) (j := 9) 96 rfl rfl fl_Mo_30_9 hB0.kb rfl hB0.r9 ?_
          refine bp_sipush (v := 399) (q := 183) 97 rfl rfl (by decide) ?_
          refine bp_aload_n (q := 184) 98 rfl rfl rfl rfl ?_
          refine bp_getR (x := M 5) (q := 187) (ci := 9) (j := 5) 99 rfl rfl fl_Mo_17_9 hB0.kb rfl hB0.r5 ?_
          refine bp_iconst (v := 1) (q := 188) 100 rfl rfl (by decide) ?_
          refine bp_iald (q := 189) 101 rfl rfl hB0.k5 (vp_inL (n := 1) hB0.l5 (by decide) (by decide)) ?_
          rw [show bp_I _ (M 5) ((1 : Int32).toNatClampNeg) = nI (L1).length from hB0.2.2.2.2.2.2.1.2.2.1]
          refine bp_iadd (q := 190) 102 rfl rfl ?_
          rw [show (399 : Int32) + nI L1.length = nI (399 + L1.length) from by rw [show (399 : Int32) = nI 399 from rfl, nI_add]]
          have hL4 := hB0.2.2.2.2.2.2.1.1
          have hL0 : 0 < L1.length := Nat.pos_of_ne_zero (fun e => absurd z173 (fun q => q (by rw [e]; decide)))
          refine bp_iald (q := 191) 103 rfl rfl hB0.k9 (vp_inL hB0.l9 (by omega) (by decide)) ?_
          rw [nI_clamp (by omega), show bp_I _ (M 9) (399 + L1.length) = nI (pIx p1 (L1.length - 1)) from by have z := (hB0.2.2.2.2.2.2.1.2.2.2.2.1 (L1.length - 1) (by omega)).2.2; rw [show 400 * 1 + (L1.length - 1) = 399 + L1.length by omega] at z; exact z]
          refine bp_aload_n (q := 192) 104 rfl rfl rfl rfl ?_
          refine bp_getR (x := M 6) (q := 195) (ci := 9) (j := 6) 105 rfl rfl fl_Mo_21_9 hB0.kb rfl hB0.r6 ?_
          refine bp_iconst (v := 1) (q := 196) 106 rfl rfl (by decide) ?_
          refine bp_iald (q := 197) 107 rfl rfl hB0.k6 (vp_inL (n := 1) hB0.l6 (by decide) (by decide)) ?_
          rw [show bp_I _ (M 6) ((1 : Int32).toNatClampNeg) = nI (p1).length from hB0.2.2.2.2.2.2.1.2.2.2.1]
          refine bp_icmp_ne (q := 200) (tgt := 204) 108 rfl rfl (by decide) (fun z197 => ?_) (fun z197 => ?_)
          · refine bp_iconst (v := 0) (q := 205) 111 rfl rfl (by decide) ?_
            refine bp_istore_n (q := 206) 112 rfl rfl rfl (by decide) (bp_up2 rfl) ?_
            refine bp_aload_n (q := 207) 113 rfl rfl rfl rfl ?_
            refine bp_getI (q := 210) (ci := 9) (j := 13) 114 rfl rfl fl_Mo_69_9 hB0.kb rfl ?_
            rw [hB0.i13]
            refine bp_if_ne (q := 213) (tgt := 257) 115 rfl rfl (by decide) (fun z210 => ?_) (fun z210 => ?_)
            · refine bp_aload_n (q := 258) 140 rfl rfl rfl rfl ?_
              refine bp_callV (q := 261) (ci := 9) 141 rfl rfl cw_Mo_finished lk_Mo_136 rfl hB0.kb wd1564 wd62 rfl rfl (Nat.le_of_ble_eq_true rfl) ⟨Nat.le_of_ble_eq_true rfl, Nat.le_of_ble_eq_true rfl⟩ (s_Mo_finished1 hB0 hf (fun h1 hB1 => ?_))
              exact bp_iret 142 rfl rfl rfl ⟨_, rfl, rb_f hQ hf hr1 hr2 hB1⟩
            · exact absurd z210 hf
          · refine bp_iconst (v := 1) (q := 201) 109 rfl rfl (by decide) ?_
            refine bp_goto (tgt := 205) 110 rfl (by decide) ?_
            refine bp_istore_n (q := 206) 112 rfl rfl rfl (by decide) (bp_up2 rfl) ?_
            refine bp_aload_n (q := 207) 113 rfl rfl rfl rfl ?_
            refine bp_getI (q := 210) (ci := 9) (j := 13) 114 rfl rfl fl_Mo_69_9 hB0.kb rfl ?_
            rw [hB0.i13]
            refine bp_if_ne (q := 213) (tgt := 257) 115 rfl rfl (by decide) (fun z210 => ?_) (fun z210 => ?_)
            · refine bp_aload_n (q := 258) 140 rfl rfl rfl rfl ?_
              refine bp_callV (q := 261) (ci := 9) 141 rfl rfl cw_Mo_finished lk_Mo_136 rfl hB0.kb wd1564 wd62 rfl rfl (Nat.le_of_ble_eq_true rfl) ⟨Nat.le_of_ble_eq_true rfl, Nat.le_of_ble_eq_true rfl⟩ (s_Mo_finished1 hB0 hf (fun h1 hB1 => ?_))
              exact bp_iret 142 rfl rfl rfl ⟨_, rfl, rb_f hQ hf hr1 hr2 hB1⟩
            · exact absurd z210 hf
      · exact absurd z111 hf
    · exact absurd z84 hf
set_option maxRecDepth 100000 in
set_option maxHeartbeats 4000000 in
theorem lp_Mo_rb3 {x : Int32} {N : Nat} (hB0 : MoX M h0 h tw i 0 fm tl lk al ind sk dp lv fr en nf nn dg nu kd pn pe T xs L ps L1 p1 nt tb fd) (hQ : ∀ h', MoS M h0 h' tw (bMe R) T xs (if bFa R = 0 then bL R else L) (if bFa R = 0 then bPs R else ps) → Q (some (.int (if bFa R = 0 then nI (bPs R).length else bFa R))) h' c s) (okp : okP L1 p1) (hN : ¬ N < T.length) (hR : FinR T N L1 p1 R) : bp_A l G H0 (7, 162, false, false) M_Mo_readBraced h c s 167 [some (.ref (M 0)), some (.int x), none] [] (fun o h' c' s' => ∃ v, o = .returned v ∧ Q v h' c' s') := by
  refine bp_aload_n (q := 168) 90 rfl rfl rfl rfl ?_
  refine bp_getR (x := M 5) (q := 171) (ci := 9) (j := 5) 91 rfl rfl fl_Mo_17_9 hB0.kb rfl hB0.r5 ?_
  refine bp_iconst (v := 1) (q := 172) 92 rfl rfl (by decide) ?_
  refine bp_iald (q := 173) 93 rfl rfl hB0.k5 (vp_inL (n := 1) hB0.l5 (by decide) (by decide)) ?_
  rw [show bp_I _ (M 5) ((1 : Int32).toNatClampNeg) = nI (L1).length from hB0.2.2.2.2.2.2.1.2.2.1]
  refine bp_if_le (q := 176) (tgt := 204) 94 rfl rfl (by decide) (fun z173 => ?_) (fun z173 => ?_)
  · refine bp_iconst (v := 0) (q := 205) 111 rfl rfl (by decide) ?_
    refine bp_istore_n (q := 206) 112 rfl rfl rfl (by decide) (bp_up2 rfl) ?_
    refine bp_aload_n (q := 207) 113 rfl rfl rfl rfl ?_
    refine bp_getI (q := 210) (ci := 9) (j := 13) 114 rfl rfl fl_Mo_69_9 hB0.kb rfl ?_
    rw [hB0.i13]
    refine bp_if_ne (q := 213) (tgt := 257) 115 rfl rfl (by decide) (fun z => absurd z (by decide)) (fun z210 => ?_)
    refine bp_iload_n (q := 214) 116 rfl rfl rfl rfl ?_
    refine bp_if_eq (q := 217) (tgt := 257) 117 rfl rfl (by decide) (fun z214 => ?_) (fun z => absurd z (by decide))
    refine bp_aload_n (q := 258) 140 rfl rfl rfl rfl ?_
    refine bp_callV (q := 261) (ci := 9) 141 rfl rfl cw_Mo_finished lk_Mo_136 rfl hB0.kb wd1564 wd62 rfl rfl (Nat.le_of_ble_eq_true rfl) ⟨Nat.le_of_ble_eq_true rfl, Nat.le_of_ble_eq_true rfl⟩ (s_Mo_finished0 hB0 (fun h1 hB1 => ?_))
    refine bp_iret 142 rfl rfl rfl ⟨_, rfl, ?_⟩
    have y : L1.length = 0 := by have := (nI_le_iff (a := L1.length) (b := 0) (by have := hB0.2.2.2.2.2.2.1.1; omega) (by decide)).mp z173; omega
    obtain ⟨q1, q2, q3, q4⟩ := hR.2.2.2 hN (by omega)
    exact rb_k hQ q1 q2 q3 q4 hB1
  · refine bp_aload_n (q := 177) 95 rfl rfl rfl rfl ?_
    refine bp_getR (x := M 9) (q := 180) (ci := 9) (j := 9) 96 rfl rfl fl_Mo_30_9 hB0.kb rfl hB0.r9 ?_
    refine bp_sipush (v := 399) (q := 183) 97 rfl rfl (by decide) ?_
    refine bp_aload_n (q := 184) 98 rfl rfl rfl rfl ?_
    refine bp_getR (x := M 5) (q := 187) (ci := 9) (j := 5) 99 rfl rfl fl_Mo_17_9 hB0.kb rfl hB0.r5 ?_
    refine bp_iconst (v := 1) (q := 188) 100 rfl rfl (by decide) ?_
    refine bp_iald (q := 189) 101 rfl rfl hB0.k5 (vp_inL (n := 1) hB0.l5 (by decide) (by decide)) ?_
    rw [show bp_I _ (M 5) ((1 : Int32).toNatClampNeg) = nI (L1).length from hB0.2.2.2.2.2.2.1.2.2.1]
    refine bp_iadd (q := 190) 102 rfl rfl ?_
    rw [show (399 : Int32) + nI L1.length = nI (399 + L1.length) from by rw [show (399 : Int32) = nI 399 from rfl, nI_add]]
    have hL4 := hB0.2.2.2.2.2.2.1.1
    have hL0 : 0 < L1.length := Nat.pos_of_ne_zero (fun e => absurd z173 (fun q => q (by rw [e]; decide)))
    refine bp_iald (q := 191) 103 rfl rfl hB0.k9 (vp_inL hB0.l9 (by omega) (by decide)) ?_
    rw [nI_clamp (by omega), show bp_I _ (M 9) (399 + L1.length) = nI (pIx p1 (L1.length - 1)) from by have z := (hB0.2.2.2.2.2.2.1.2.2.2.2.1 (L1.length - 1) (by omega)).2.2; rw [show 400 * 1 + (L1.length - 1) = 399 + L1.length by omega] at z; exact z]
    refine bp_aload_n (q := 192) 104 rfl rfl rfl rfl ?_
    refine bp_getR (x := M 6) (q := 195) (ci := 9) (j := 6) 105 rfl rfl fl_Mo_21_9 hB0.kb rfl hB0.r6 ?_
    refine bp_iconst (v := 1) (q := 196) 106 rfl rfl (by decide) ?_
    refine bp_iald (q := 197) 107 rfl rfl hB0.k6 (vp_inL (n := 1) hB0.l6 (by decide) (by decide)) ?_
    rw [show bp_I _ (M 6) ((1 : Int32).toNatClampNeg) = nI (p1).length from hB0.2.2.2.2.2.2.1.2.2.2.1]
    refine bp_icmp_ne (q := 200) (tgt := 204) 108 rfl rfl (by decide) (fun z197 => ?_) (fun z197 => ?_)
    · refine bp_iconst (v := 0) (q := 205) 111 rfl rfl (by decide) ?_
      refine bp_istore_n (q := 206) 112 rfl rfl rfl (by decide) (bp_up2 rfl) ?_
      refine bp_aload_n (q := 207) 113 rfl rfl rfl rfl ?_
      refine bp_getI (q := 210) (ci := 9) (j := 13) 114 rfl rfl fl_Mo_69_9 hB0.kb rfl ?_
      rw [hB0.i13]
      refine bp_if_ne (q := 213) (tgt := 257) 115 rfl rfl (by decide) (fun z => absurd z (by decide)) (fun z210 => ?_)
      refine bp_iload_n (q := 214) 116 rfl rfl rfl rfl ?_
      refine bp_if_eq (q := 217) (tgt := 257) 117 rfl rfl (by decide) (fun z214 => ?_) (fun z => absurd z (by decide))
      refine bp_aload_n (q := 258) 140 rfl rfl rfl rfl ?_
      refine bp_callV (q := 261) (ci := 9) 141 rfl rfl cw_Mo_finished lk_Mo_136 rfl hB0.kb wd1564 wd62 rfl rfl (Nat.le_of_ble_eq_true rfl) ⟨Nat.le_of_ble_eq_true rfl, Nat.le_of_ble_eq_true rfl⟩ (s_Mo_finished0 hB0 (fun h1 hB1 => ?_))
      refine bp_iret 142 rfl rfl rfl ⟨_, rfl, ?_⟩
      have pi := pIx_iff p1.length p1 rfl okp.mono (L1.length - 1) p1.length (Nat.le_refl _)
      have pl := pIx_le p1 (L1.length - 1)
      have y : ¬ pIx p1 (L1.length - 1) = p1.length := fun e => z197 (by rw [e])
      obtain ⟨q1, q2, q3, q4⟩ := hR.2.2.2 hN (fun z => y (Nat.le_antisymm pl (pi.mpr (by omega))))
      exact rb_k hQ q1 q2 q3 q4 hB1
    · refine bp_iconst (v := 1) (q := 201) 109 rfl rfl (by decide) ?_
      refine bp_goto (tgt := 205) 110 rfl (by decide) ?_
      refine bp_istore_n (q := 206) 112 rfl rfl rfl (by decide) (bp_up2 rfl) ?_
      refine bp_aload_n (q := 207) 113 rfl rfl rfl rfl ?_
      refine bp_getI (q := 210) (ci := 9) (j := 13) 114 rfl rfl fl_Mo_69_9 hB0.kb rfl ?_
      rw [hB0.i13]
      refine bp_if_ne (q := 213) (tgt := 257) 115 rfl rfl (by decide) (fun z => absurd z (by decide)) (fun z210 => ?_)
      refine bp_iload_n (q := 214) 116 rfl rfl rfl rfl ?_
      refine bp_if_eq (q := 217) (tgt := 257) 117 rfl rfl (by decide) (fun z => absurd z (by decide)) (fun z214 => ?_)
      refine bp_aload_n (q := 218) 118 rfl rfl rfl rfl ?_
      refine bp_aload_n (q := 219) 119 rfl rfl rfl rfl ?_
      refine bp_getR (x := M 6) (q := 222) (ci := 9) (j := 6) 120 rfl rfl fl_Mo_21_9 hB0.kb rfl hB0.r6 ?_
      refine bp_iconst (v := 1) (q := 223) 121 rfl rfl (by decide) ?_
      refine bp_iald (q := 224) 122 rfl rfl hB0.k6 (vp_inL (n := 1) hB0.l6 (by decide) (by decide)) ?_
      rw [show bp_I _ (M 6) ((1 : Int32).toNatClampNeg) = nI (p1).length from hB0.2.2.2.2.2.2.1.2.2.2.1]
      have hp4 := hB0.2.2.2.2.2.2.1.2.1
      refine bp_bipush (v := 16) (q := 226) 123 rfl rfl (by decide) ?_
      refine bp_icmp_ne (q := 229) (tgt := 233) 124 rfl rfl (by decide) (fun z226 => ?_) (fun z226 => ?_)
      · refine bp_iconst (v := 0) (q := 234) 127 rfl rfl (by decide) ?_
        refine bp_bipush (v := -8) (q := 236) 128 rfl rfl (by decide) ?_
        refine bp_aload_n (q := 237) 129 rfl rfl rfl rfl ?_
        refine bp_getI (q := 240) (ci := 9) (j := 1) 130 rfl rfl fl_Mo_63_9 hB0.kb rfl ?_
        rw [hB0.i1]
        refine bp_callV (q := 243) (ci := 9) 131 rfl rfl cw_Mo_failIf lk_Mo_118 rfl hB0.kb wd1449 wd44 rfl rfl (Nat.le_of_ble_eq_true rfl) ⟨Nat.le_of_ble_eq_true rfl, Nat.le_of_ble_eq_true rfl⟩ (s_Mo_failIfN hB0 rfl ?_)
        refine bp_aload_n (q := 244) 132 rfl rfl rfl rfl ?_
        refine bp_getI (q := 247) (ci := 9) (j := 13) 133 rfl rfl fl_Mo_69_9 hB0.kb rfl ?_
        rw [hB0.i13]
        refine bp_if_ne (q := 250) (tgt := 257) 134 rfl rfl (by decide) (fun z => absurd z (by decide)) (fun z247 => ?_)
        refine bp_aload_n (q := 251) 135 rfl rfl rfl rfl ?_
        refine bp_iconst (v := 1) (q := 252) 136 rfl rfl (by decide) ?_
        refine bp_iconst (v := 0) (q := 253) 137 rfl rfl (by decide) ?_
        refine bp_iconst (v := 0) (q := 254) 138 rfl rfl (by decide) ?_
        have y3 : ¬ p1.length = 16 := fun e => z226 (by rw [e]; rfl)
        refine bp_callV (q := 257) (ci := 9) 139 rfl rfl cw_Mo_endParagraph lk_Mo_132 rfl hB0.kb wd1553 wd60 rfl rfl (Nat.le_of_ble_eq_true rfl) ⟨Nat.le_of_ble_eq_true rfl, Nat.le_of_ble_eq_true rfl⟩ (s_Mo_endParagraph1 (x := 0) (y := 0) (e := L1.length) hB0 (by omega) (Nat.le_refl _) (fun h1 hB1 => ?_))
        refine bp_aload_n (q := 258) 140 rfl rfl rfl rfl ?_
        refine bp_callV (q := 261) (ci := 9) 141 rfl rfl cw_Mo_finished lk_Mo_136 rfl hB1.kb wd1564 wd62 rfl rfl (Nat.le_of_ble_eq_true rfl) ⟨Nat.le_of_ble_eq_true rfl, Nat.le_of_ble_eq_true rfl⟩ (s_Mo_finished0 hB1 (fun h2 hB2 => ?_))
        refine bp_iret 142 rfl rfl rfl ⟨_, rfl, ?_⟩
        have pi := pIx_iff p1.length p1 rfl okp.mono (L1.length - 1) p1.length (Nat.le_refl _)
        have pl := pIx_le p1 (L1.length - 1)
        have hp16 := okp.2.1
        have y : pIx p1 (L1.length - 1) = p1.length := (nI_eq_iff (by omega) (by omega)).mp (by first | exact z197 | exact Classical.not_not.mp z197)
        have y2 : pst p1 p1.length < L1.length := by have := pi.mp (by omega); omega
        have y3 : ¬ p1.length = 16 := fun e => z226 (by rw [e]; rfl)
        obtain ⟨q1, q2, q3, q4⟩ := hR.2.2.1 hN y2 (by omega)
        have z := rb_k hQ q1 q2 q3 q4 hB2
        exact z
      · refine bp_iconst (v := 1) (q := 230) 125 rfl rfl (by decide) ?_
        refine bp_goto (tgt := 234) 126 rfl (by decide) ?_
        refine bp_bipush (v := -8) (q := 236) 128 rfl rfl (by decide) ?_
        refine bp_aload_n (q := 237) 129 rfl rfl rfl rfl ?_
        refine bp_getI (q := 240) (ci := 9) (j := 1) 130 rfl rfl fl_Mo_63_9 hB0.kb rfl ?_
        rw [hB0.i1]
        refine bp_callV (q := 243) (ci := 9) 131 rfl rfl cw_Mo_failIf lk_Mo_118 rfl hB0.kb wd1449 wd44 rfl rfl (Nat.le_of_ble_eq_true rfl) ⟨Nat.le_of_ble_eq_true rfl, Nat.le_of_ble_eq_true rfl⟩ (s_Mo_failIf0 hB0 (by decide) rfl (fun h1 hB1 => ?_))
        refine bp_aload_n (q := 244) 132 rfl rfl rfl rfl ?_
        refine bp_getI (q := 247) (ci := 9) (j := 13) 133 rfl rfl fl_Mo_69_9 hB1.kb rfl ?_
        rw [hB1.i13]
        refine bp_if_ne (q := 250) (tgt := 257) 134 rfl rfl (by decide) (fun z247 => ?_) (fun z => absurd z (by decide))
        refine bp_aload_n (q := 258) 140 rfl rfl rfl rfl ?_
        refine bp_callV (q := 261) (ci := 9) 141 rfl rfl cw_Mo_finished lk_Mo_136 rfl hB1.kb wd1564 wd62 rfl rfl (Nat.le_of_ble_eq_true rfl) ⟨Nat.le_of_ble_eq_true rfl, Nat.le_of_ble_eq_true rfl⟩ (s_Mo_finished1 hB1 (by decide) (fun h2 hB2 => ?_))
        refine bp_iret 142 rfl rfl rfl ⟨_, rfl, ?_⟩
        have pi := pIx_iff p1.length p1 rfl okp.mono (L1.length - 1) p1.length (Nat.le_refl _)
        have pl := pIx_le p1 (L1.length - 1)
        have hp16 := okp.2.1
        have y : pIx p1 (L1.length - 1) = p1.length := (nI_eq_iff (by omega) (by omega)).mp (by first | exact z197 | exact Classical.not_not.mp z197)
        have y2 : pst p1 p1.length < L1.length := by have := pi.mp (by omega); omega
        have y3 : p1.length = 16 := (nI_eq_iff (b := 16) (by omega) (by decide)).mp (by first | exact z226 | exact Classical.not_not.mp z226)
        obtain ⟨q1, q2⟩ := hR.2.1 hN y2 (by omega)
        exact rb_f hQ (by decide) q1 q2 hB2
set_option maxRecDepth 100000 in
set_option maxHeartbeats 4000000 in
theorem lp_Mo_rbG {x : Int32} (hB0 : MoX M h0 h tw i fa fm tl lk al ind sk dp lv fr en nf nn dg nu kd pn pe T xs L ps L1 p1 nt tb fd) (hQ : ∀ h', MoS M h0 h' tw (bMe R) T xs (if bFa R = 0 then bL R else L) (if bFa R = 0 then bPs R else ps) → Q (some (.int (if bFa R = 0 then nI (bPs R).length else bFa R))) h' c s) (hf : ¬ fa = 0) (hr1 : bFa R = fa) (hr2 : bMe R = fm) : bp_A l G H0 (7, 162, false, false) M_Mo_readBraced h c s 107 [some (.ref (M 0)), some (.int x), none] [] (fun o h' c' s' => ∃ v, o = .returned v ∧ Q v h' c' s') := by
  refine bp_aload_n (q := 108) 60 rfl rfl rfl rfl ?_
  refine bp_getI (q := 111) (ci := 9) (j := 13) 61 rfl rfl fl_Mo_69_9 hB0.kb rfl ?_
  rw [hB0.i13]
  refine bp_if_ne (q := 114) (tgt := 167) 62 rfl rfl (by decide) (fun z111 => ?_) (fun z111 => ?_)
  · refine bp_aload_n (q := 168) 90 rfl rfl rfl rfl ?_
    refine bp_getR (x := M 5) (q := 171) (ci := 9) (j := 5) 91 rfl rfl fl_Mo_17_9 hB0.kb rfl hB0.r5 ?_
    refine bp_iconst (v := 1) (q := 172) 92 rfl rfl (by decide) ?_
    refine bp_iald (q := 173) 93 rfl rfl hB0.k5 (vp_inL (n := 1) hB0.l5 (by decide) (by decide)) ?_
    rw [show bp_I _ (M 5) ((1 : Int32).toNatClampNeg) = nI (L1).length from hB0.2.2.2.2.2.2.1.2.2.1]
    refine bp_if_le (q := 176) (tgt := 204) 94 rfl rfl (by decide) (fun z173 => ?_) (fun z173 => ?_)
    · refine bp_iconst (v := 0) (q := 205) 111 rfl rfl (by decide) ?_
      refine bp_istore_n (q := 206) 112 rfl rfl rfl (by decide) (bp_up2 rfl) ?_
      refine bp_aload_n (q := 207) 113 rfl rfl rfl rfl ?_
      refine bp_getI (q := 210) (ci := 9) (j := 13) 114 rfl rfl fl_Mo_69_9 hB0.kb rfl ?_
      rw [hB0.i13]
      refine bp_if_ne (q := 213) (tgt := 257) 115 rfl rfl (by decide) (fun z210 => ?_) (fun z210 => ?_)
      · refine bp_aload_n (q := 258) 140 rfl rfl rfl rfl ?_
        refine bp_callV (q := 261) (ci := 9) 141 rfl rfl cw_Mo_finished lk_Mo_136 rfl hB0.kb wd1564 wd62 rfl rfl (Nat.le_of_ble_eq_true rfl) ⟨Nat.le_of_ble_eq_true rfl, Nat.le_of_ble_eq_true rfl⟩ (s_Mo_finished1 hB0 hf (fun h1 hB1 => ?_))
        exact bp_iret 142 rfl rfl rfl ⟨_, rfl, rb_f hQ hf hr1 hr2 hB1⟩
      · exact absurd z210 hf
    · refine bp_aload_n (q := 177) 95 rfl rfl rfl rfl ?_
      refine bp_getR (x := M 9) (q := 180) (ci := 9) (j := 9) 96 rfl rfl fl_Mo_30_9 hB0.kb rfl hB0.r9 ?_
      refine bp_sipush (v := 399) (q := 183) 97 rfl rfl (by decide) ?_
      refine bp_aload_n (q := 184) 98 rfl rfl rfl rfl ?_
      refine bp_getR (x := M 5) (q := 187) (ci := 9) (j := 5) 99 rfl rfl fl_Mo_17_9 hB0.kb rfl hB0.r5 ?_
      refine bp_iconst (v := 1) (q := 188) 100 rfl rfl (by decide) ?_
      refine bp_iald (q := 189) 101 rfl rfl hB0.k5 (vp_inL (n := 1) hB0.l5 (by decide) (by decide)) ?_
      rw [show bp_I _ (M 5) ((1 : Int32).toNatClampNeg) = nI (L1).length from hB0.2.2.2.2.2.2.1.2.2.1]
      refine bp_iadd (q := 190) 102 rfl rfl ?_
      rw [show (399 : Int32) + nI L1.length = nI (399 + L1.length) from by rw [show (399 : Int32) = nI 399 from rfl, nI_add]]
      have hL4 := hB0.2.2.2.2.2.2.1.1
      have hL0 : 0 < L1.length := Nat.pos_of_ne_zero (fun e => absurd z173 (fun q => q (by rw [e]; decide)))
      refine bp_iald (q := 191) 103 rfl rfl hB0.k9 (vp_inL hB0.l9 (by omega) (by decide)) ?_
      rw [nI_clamp (by omega), show bp_I _ (M 9) (399 + L1.length) = nI (pIx p1 (L1.length - 1)) from by have z := (hB0.2.2.2.2.2.2.1.2.2.2.2.1 (L1.length - 1) (by omega)).2.2; rw [show 400 * 1 + (L1.length - 1) = 399 + L1.length by omega] at z; exact z]
      refine bp_aload_n (q := 192) 104 rfl rfl rfl rfl ?_
      refine bp_getR (x := M 6) (q := 195) (ci := 9) (j := 6) 105 rfl rfl fl_Mo_21_9 hB0.kb rfl hB0.r6 ?_
      refine bp_iconst (v := 1) (q := 196) 106 rfl rfl (by decide) ?_
      refine bp_iald (q := 197) 107 rfl rfl hB0.k6 (vp_inL (n := 1) hB0.l6 (by decide) (by decide)) ?_
      rw [show bp_I _ (M 6) ((1 : Int32).toNatClampNeg) = nI (p1).length from hB0.2.2.2.2.2.2.1.2.2.2.1]
      refine bp_icmp_ne (q := 200) (tgt := 204) 108 rfl rfl (by decide) (fun z197 => ?_) (fun z197 => ?_)
      · refine bp_iconst (v := 0) (q := 205) 111 rfl rfl (by decide) ?_
        refine bp_istore_n (q := 206) 112 rfl rfl rfl (by decide) (bp_up2 rfl) ?_
        refine bp_aload_n (q := 207) 113 rfl rfl rfl rfl ?_
        refine bp_getI (q := 210) (ci := 9) (j := 13) 114 rfl rfl fl_Mo_69_9 hB0.kb rfl ?_
        rw [hB0.i13]
        refine bp_if_ne (q := 213) (tgt := 257) 115 rfl rfl (by decide) (fun z210 => ?_) (fun z210 => ?_)
        · refine bp_aload_n (q := 258) 140 rfl rfl rfl rfl ?_
          refine bp_callV (q := 261) (ci := 9) 141 rfl rfl cw_Mo_finished lk_Mo_136 rfl hB0.kb wd1564 wd62 rfl rfl (Nat.le_of_ble_eq_true rfl) ⟨Nat.le_of_ble_eq_true rfl, Nat.le_of_ble_eq_true rfl⟩ (s_Mo_finished1 hB0 hf (fun h1 hB1 => ?_))
          exact bp_iret 142 rfl rfl rfl ⟨_, rfl, rb_f hQ hf hr1 hr2 hB1⟩
        · exact absurd z210 hf
      · refine bp_iconst (v := 1) (q := 201) 109 rfl rfl (by decide) ?_
        refine bp_goto (tgt := 205) 110 rfl (by decide) ?_
        refine bp_istore_n (q := 206) 112 rfl rfl rfl (by decide) (bp_up2 rfl) ?_
        refine bp_aload_n (q := 207) 113 rfl rfl rfl rfl ?_
        refine bp_getI (q := 210) (ci := 9) (j := 13) 114 rfl rfl fl_Mo_69_9 hB0.kb rfl ?_
        rw [hB0.i13]
        refine bp_if_ne (q := 213) (tgt := 257) 115 rfl rfl (by decide) (fun z210 => ?_) (fun z210 => ?_)
        · refine bp_aload_n (q := 258) 140 rfl rfl rfl rfl ?_
          refine bp_callV (q := 261) (ci := 9) 141 rfl rfl cw_Mo_finished lk_Mo_136 rfl hB0.kb wd1564 wd62 rfl rfl (Nat.le_of_ble_eq_true rfl) ⟨Nat.le_of_ble_eq_true rfl, Nat.le_of_ble_eq_true rfl⟩ (s_Mo_finished1 hB0 hf (fun h1 hB1 => ?_))
          exact bp_iret 142 rfl rfl rfl ⟨_, rfl, rb_f hQ hf hr1 hr2 hB1⟩
        · exact absurd z210 hf
  · exact absurd z111 hf
set_option maxRecDepth 100000 in
set_option maxHeartbeats 4000000 in
theorem lp_Mo_rb2 {x : Int32} {N : Nat} (hQ : ∀ h', MoS M h0 h' tw (bMe R) T xs (if bFa R = 0 then bL R else L) (if bFa R = 0 then bPs R else ps) → Q (some (.int (if bFa R = 0 then nI (bPs R).length else bFa R))) h' c s) (hT : okT T) (okp : okP L1 p1) (hR : FinR T N L1 p1 R) : ∀ (n k : Nat) (h : bp_H), T.length ≤ n + k → k ≤ T.length + 1 → MoX M h0 h tw k 0 fm tl lk al ind sk dp lv fr en nf nn dg nu kd pn pe T xs L ps L1 p1 nt tb fd → nlE T (T.length - k) k = N → bp_A l G H0 (7, 162, false, false) M_Mo_readBraced h c s 107 [some (.ref (M 0)), some (.int x), none] [] (fun o h' c' s' => ∃ v, o = .returned v ∧ Q v h' c' s') := by
  have hT4 := hT.1
  intro n
  induction n with
  | zero =>
    intro k h hn hk1 hB0 hN
    have hk : T.length ≤ k := by omega
    refine bp_aload_n (q := 108) 60 rfl rfl rfl rfl ?_
    refine bp_getI (q := 111) (ci := 9) (j := 13) 61 rfl rfl fl_Mo_69_9 hB0.kb rfl ?_
    rw [hB0.i13]
    refine bp_if_ne (q := 114) (tgt := 167) 62 rfl rfl (by decide) (fun z => absurd z (by decide)) (fun z111 => ?_)
    refine bp_aload_n (q := 115) 63 rfl rfl rfl rfl ?_
    refine bp_getI (q := 118) (ci := 9) (j := 12) 64 rfl rfl fl_Mo_90_9 hB0.kb rfl ?_
    rw [hB0.i12]
    refine bp_aload_n (q := 119) 65 rfl rfl rfl rfl ?_
    refine bp_getI (q := 122) (ci := 9) (j := 1) 66 rfl rfl fl_Mo_63_9 hB0.kb rfl ?_
    rw [hB0.i1]
    refine bp_icmp_ge (q := 125) (tgt := 167) 67 rfl rfl (by decide) (fun z122 => ?_) (fun z122 => ?_)
    · exact lp_Mo_rb3 hB0 hQ okp (by rw [← hN, nlE_no (fun e => by rw [tc_out hk] at e; exact absurd e (by decide))]; omega) hR
    · exact absurd (nI_le hk (by omega)) z122
  | succ n ih =>
    intro k h hn hk1 hB0 hN
    by_cases hk : T.length ≤ k
    · refine bp_aload_n (q := 108) 60 rfl rfl rfl rfl ?_
      refine bp_getI (q := 111) (ci := 9) (j := 13) 61 rfl rfl fl_Mo_69_9 hB0.kb rfl ?_
      rw [hB0.i13]
      refine bp_if_ne (q := 114) (tgt := 167) 62 rfl rfl (by decide) (fun z => absurd z (by decide)) (fun z111 => ?_)
      refine bp_aload_n (q := 115) 63 rfl rfl rfl rfl ?_
      refine bp_getI (q := 118) (ci := 9) (j := 12) 64 rfl rfl fl_Mo_90_9 hB0.kb rfl ?_
      rw [hB0.i12]
      refine bp_aload_n (q := 119) 65 rfl rfl rfl rfl ?_
      refine bp_getI (q := 122) (ci := 9) (j := 1) 66 rfl rfl fl_Mo_63_9 hB0.kb rfl ?_
      rw [hB0.i1]
      refine bp_icmp_ge (q := 125) (tgt := 167) 67 rfl rfl (by decide) (fun z122 => ?_) (fun z122 => ?_)
      · exact lp_Mo_rb3 hB0 hQ okp (by rw [← hN, nlE_no (fun e => by rw [tc_out hk] at e; exact absurd e (by decide))]; omega) hR
      · exact absurd (nI_le hk (by omega)) z122
    have hk := Nat.not_le.mp hk
    refine bp_aload_n (q := 108) 60 rfl rfl rfl rfl ?_
    refine bp_getI (q := 111) (ci := 9) (j := 13) 61 rfl rfl fl_Mo_69_9 hB0.kb rfl ?_
    rw [hB0.i13]
    refine bp_if_ne (q := 114) (tgt := 167) 62 rfl rfl (by decide) (fun z => absurd z (by decide)) (fun z111 => ?_)
    refine bp_aload_n (q := 115) 63 rfl rfl rfl rfl ?_
    refine bp_getI (q := 118) (ci := 9) (j := 12) 64 rfl rfl fl_Mo_90_9 hB0.kb rfl ?_
    rw [hB0.i12]
    refine bp_aload_n (q := 119) 65 rfl rfl rfl rfl ?_
    refine bp_getI (q := 122) (ci := 9) (j := 1) 66 rfl rfl fl_Mo_63_9 hB0.kb rfl ?_
    rw [hB0.i1]
    refine bp_icmp_ge (q := 125) (tgt := 167) 67 rfl rfl (by decide) (fun z122 => ?_) (fun z122 => ?_)
    · exact absurd z122 (nI_ge hk (by omega))
    · refine bp_aload_n (q := 126) 68 rfl rfl rfl rfl ?_
      refine bp_aload_n (q := 127) 69 rfl rfl rfl rfl ?_
      refine bp_getR (x := M 2) (q := 130) (ci := 9) (j := 2) 70 rfl rfl fl_Mo_7_9 hB0.kb rfl hB0.r2 ?_
      refine bp_aload_n (q := 131) 71 rfl rfl rfl rfl ?_
      refine bp_getI (q := 134) (ci := 9) (j := 12) 72 rfl rfl fl_Mo_90_9 hB0.kb rfl ?_
      rw [hB0.i12]
      refine bp_cald (q := 135) 73 rfl rfl hB0.k2 (vp_inL hB0.l2 (by omega) (by decide)) ?_
      rw [nI_clamp (by omega), show bp_I _ (M 2) k = nI (tc T k) from by rw [hB0.2.2.2.1.2 k hk]; rfl]
      refine bp_bipush (v := 10) (q := 137) 74 rfl rfl (by decide) ?_
      refine bp_icmp_eq (q := 140) (tgt := 144) 75 rfl rfl (by decide) (fun z137 => ?_) (fun z137 => ?_)
      · refine bp_iconst (v := 0) (q := 145) 78 rfl rfl (by decide) ?_
        refine bp_bipush (v := -3) (q := 147) 79 rfl rfl (by decide) ?_
        refine bp_aload_n (q := 148) 80 rfl rfl rfl rfl ?_
        refine bp_getI (q := 151) (ci := 9) (j := 12) 81 rfl rfl fl_Mo_90_9 hB0.kb rfl ?_
        rw [hB0.i12]
        refine bp_callV (q := 154) (ci := 9) 82 rfl rfl cw_Mo_failIf lk_Mo_118 rfl hB0.kb wd1449 wd44 rfl rfl (Nat.le_of_ble_eq_true rfl) ⟨Nat.le_of_ble_eq_true rfl, Nat.le_of_ble_eq_true rfl⟩ (s_Mo_failIfN hB0 rfl ?_)
        refine bp_aload_n (q := 155) 83 rfl rfl rfl rfl ?_
        refine bp_dup (q := 156) 84 rfl rfl rfl ?_
        refine bp_getI (q := 159) (ci := 9) (j := 12) 85 rfl rfl fl_Mo_90_9 hB0.kb rfl ?_
        rw [hB0.i12]
        refine bp_iconst (v := 1) (q := 160) 86 rfl rfl (by decide) ?_
        refine bp_iadd (q := 161) 87 rfl rfl ?_
        refine bp_putI (q := 164) (ci := 9) (j := 12) 88 rfl rfl fl_Mo_90_9 cl9 hB0.kb (fun r hr => by cases hr; rfl) (by decide) rfl rfl ?_
        refine bp_nx (X := fun h1 => MoX M h0 h1 tw (k + 1) 0 fm tl lk al ind sk dp lv fr en nf nn dg nu kd pn pe T xs L ps L1 p1 nt tb fd) (hB0.s12 (nI_1 k)) (fun h1 hB1 => ?_)
        refine bp_goto (tgt := 107) 89 rfl (by decide) ?_
        have y := (nI_eq_iff (a := tc T k) (b := 10) (by have := tc_lt hT k; omega) (by decide)).mp z137
        exact ih (k + 1) _ (by omega) (by omega) hB1 (by rw [← nlE_10 y]; exact hN)
      · refine bp_iconst (v := 1) (q := 141) 76 rfl rfl (by decide) ?_
        refine bp_goto (tgt := 145) 77 rfl (by decide) ?_
        refine bp_bipush (v := -3) (q := 147) 79 rfl rfl (by decide) ?_
        refine bp_aload_n (q := 148) 80 rfl rfl rfl rfl ?_
        refine bp_getI (q := 151) (ci := 9) (j := 12) 81 rfl rfl fl_Mo_90_9 hB0.kb rfl ?_
        rw [hB0.i12]
        refine bp_callV (q := 154) (ci := 9) 82 rfl rfl cw_Mo_failIf lk_Mo_118 rfl hB0.kb wd1449 wd44 rfl rfl (Nat.le_of_ble_eq_true rfl) ⟨Nat.le_of_ble_eq_true rfl, Nat.le_of_ble_eq_true rfl⟩ (s_Mo_failIf0 hB0 (by decide) rfl (fun h1 hB1 => ?_))
        refine bp_aload_n (q := 155) 83 rfl rfl rfl rfl ?_
        refine bp_dup (q := 156) 84 rfl rfl rfl ?_
        refine bp_getI (q := 159) (ci := 9) (j := 12) 85 rfl rfl fl_Mo_90_9 hB1.kb rfl ?_
        rw [hB1.i12]
        refine bp_iconst (v := 1) (q := 160) 86 rfl rfl (by decide) ?_
        refine bp_iadd (q := 161) 87 rfl rfl ?_
        refine bp_putI (q := 164) (ci := 9) (j := 12) 88 rfl rfl fl_Mo_90_9 cl9 hB1.kb (fun r hr => by cases hr; rfl) (by decide) rfl rfl ?_
        refine bp_nx (X := fun h2 => MoX M h0 h2 tw (k + 1) (-3) (nI k) tl lk al ind sk dp lv fr en nf nn dg nu kd pn pe T xs L ps L1 p1 nt tb fd) (hB1.s12 (nI_1 k)) (fun h2 hB2 => ?_)
        refine bp_goto (tgt := 107) 89 rfl (by decide) ?_
        have y : ¬ tc T k = 10 := fun e => z137 (by rw [e]; rfl)
        have hNk : k = N := by rw [nlE_no y] at hN; exact hN
        obtain ⟨q1, q2⟩ := hR.1 (by omega)
        refine lp_Mo_rbG hB2 hQ (by decide) q1 (by rw [q2, hNk])
set_option maxRecDepth 100000 in
set_option maxHeartbeats 4000000 in
theorem lp_Mo_rb (hQ : ∀ h', MoS M h0 h' tw (bMe R) T xs (if bFa R = 0 then bL R else L) (if bFa R = 0 then bPs R else ps) → Q (some (.int (if bFa R = 0 then nI (bPs R).length else bFa R))) h' c s) (hC : okC T) : ∀ (n : Nat) (i lv : Nat) (fr : Bool) (v : Nat → Nat) (nt : List (Nat → Nat)) (tb nm : List Nat) (L1 : List (Nat × Nat)) (p1 : List (Nat × Nat × Nat)) (fm : Int32) (nf nn dg : Nat) (nu : Int32) (fd : List Nat) (h : bp_H), T.length + 2 ≤ n + i → okX T i lv false v nt tb nm L1 p1 → (¬ nt = [] ∨ tc T i = 123) → MoX M h0 h tw i 0 fm tl (mlV v) (v 3) (v 4) (v 5) nt.length lv fr tb.length nf nn dg nu kd pn pe T xs L ps L1 p1 nt tb fd → RR T (i, 0, -1, lv, fr, false, false, v, nt, tb, nm, L1, p1) = R → bp_A l G H0 (7, 162, false, false) M_Mo_readBraced h c s 76 [some (.ref (M 0)), some (.int 1), none] [] (fun o h' c' s' => ∃ v, o = .returned v ∧ Q v h' c' s') := by
  intro n
  induction n with
  | zero =>
    intro i lv fr v nt tb nm L1 p1 fm nf nn dg nu fd h hn hok hst hB0 hRe
    exact absurd hok.1 (by omega)
  | succ n ih =>
    intro i lv fr v nt tb nm L1 p1 fm nf nn dg nu fd h hn hok hst hB0 hRe
    refine bp_iload_n (q := 77) 45 rfl rfl rfl rfl ?_
    refine bp_if_eq (q := 80) (tgt := 107) 46 rfl rfl (by decide) (fun z => absurd z (by decide)) (fun z77 => ?_)
    refine bp_aload_n (q := 81) 47 rfl rfl rfl rfl ?_
    refine bp_getI (q := 84) (ci := 9) (j := 13) 48 rfl rfl fl_Mo_69_9 hB0.kb rfl ?_
    rw [hB0.i13]
    refine bp_if_ne (q := 87) (tgt := 107) 49 rfl rfl (by decide) (fun z => absurd z (by decide)) (fun z84 => ?_)
    refine bp_aload_n (q := 88) 50 rfl rfl rfl rfl ?_
    refine bp_callV (q := 91) (ci := 9) 51 rfl rfl cw_Mo_readThing lk_Mo_129 rfl hB0.kb wd1457 wd46 rfl rfl (Nat.le_of_ble_eq_true rfl) ⟨Nat.le_of_ble_eq_true rfl, Nat.le_of_ble_eq_true rfl⟩ (s_Mo_readThing (nm := nm) hB0 hC hok hst (fun h1 ho => ?_))
    rcases ho with ⟨i9, lv9, fr9, v9, nt9, tb9, nm9, L19, p19, fm9, nf9, nn9, dg9, nu9, fd9, hB1, hok9, hji, hRR⟩ | ⟨fa9, fm9, i9, lk9, al9, ind9, sk9, dp9, lv9, fr9, en9, nf9, nn9, dg9, nu9, L19, p19, nt9, tb9, fd9, hf9, hB1, hfa9, hme9⟩
    · refine bp_aload_n (q := 92) 52 rfl rfl rfl rfl ?_
      refine bp_getI (q := 95) (ci := 9) (j := 20) 53 rfl rfl fl_Mo_93_9 hB1.kb rfl ?_
      rw [hB1.i20]
      refine bp_if_le (q := 98) (tgt := 102) 54 rfl rfl (by decide) (fun z95 => ?_) (fun z95 => ?_)
      · refine bp_iconst (v := 0) (q := 103) 57 rfl rfl (by decide) ?_
        refine bp_istore_n (q := 104) 58 rfl rfl rfl (by decide) (bp_up1 rfl) ?_
        refine bp_goto (tgt := 76) 59 rfl (by decide) ?_
        refine bp_iload_n (q := 77) 45 rfl rfl rfl rfl ?_
        refine bp_if_eq (q := 80) (tgt := 107) 46 rfl rfl (by decide) (fun z77 => ?_) (fun z => absurd z (by decide))
        have y : nt9 = [] := List.eq_nil_of_length_eq_zero (by have := (nI_le_iff (a := nt9.length) (b := 0) (by have := hok9.2.2.2.2.1; omega) (by decide)).mp z95; omega)
        subst y
        have eR : R = bFin T (i9, 0, -1, lv9, fr9, false, true, v9, [], tb9, nm9, L19, p19) := by rw [← hRe, hRR]; exact RR_fin rfl (Or.inr rfl)
        exact lp_Mo_rb2 hQ hC.1 hok9.2.2.2.2.2.2.2.2 (by rw [eR]; exact bFin_R) T.length i9 _ (by omega) hok9.1 hB1 rfl
      · refine bp_iconst (v := 1) (q := 99) 55 rfl rfl (by decide) ?_
        refine bp_goto (tgt := 103) 56 rfl (by decide) ?_
        refine bp_istore_n (q := 104) 58 rfl rfl rfl (by decide) (bp_up1 rfl) ?_
        refine bp_goto (tgt := 76) 59 rfl (by decide) ?_
        have y : ¬ nt9 = [] := fun e => z95 (by rw [e]; decide)
        exact ih _ _ _ _ _ _ _ _ _ _ _ _ _ _ _ _ (by omega) hok9 (Or.inl y) hB1 (by rw [← hRe, hRR, decide_eq_false y])
    · refine bp_aload_n (q := 92) 52 rfl rfl rfl rfl ?_
      refine bp_getI (q := 95) (ci := 9) (j := 20) 53 rfl rfl fl_Mo_93_9 hB1.kb rfl ?_
      rw [hB1.i20]
      refine bp_if_le (q := 98) (tgt := 102) 54 rfl rfl (by decide) (fun z95 => ?_) (fun z95 => ?_)
      · refine bp_iconst (v := 0) (q := 103) 57 rfl rfl (by decide) ?_
        refine bp_istore_n (q := 104) 58 rfl rfl rfl (by decide) (bp_up1 rfl) ?_
        refine bp_goto (tgt := 76) 59 rfl (by decide) ?_
        exact lp_Mo_rbF hB1 hQ hf9 (by rw [← hRe]; exact hfa9) (by rw [← hRe]; exact hme9)
      · refine bp_iconst (v := 1) (q := 99) 55 rfl rfl (by decide) ?_
        refine bp_goto (tgt := 103) 56 rfl (by decide) ?_
        refine bp_istore_n (q := 104) 58 rfl rfl rfl (by decide) (bp_up1 rfl) ?_
        refine bp_goto (tgt := 76) 59 rfl (by decide) ?_
        exact lp_Mo_rbF hB1 hQ hf9 (by rw [← hRe]; exact hfa9) (by rw [← hRe]; exact hme9)
theorem okX_start {T nm : List Nat} (h1 : nm.length ≤ 400) (h2 : ∀ x ∈ nm, x < 128) : okX T 0 0 false vStart [] [0] nm [] [] := ⟨Nat.zero_le _, Nat.zero_le _, okV_start, (fun u hu => nomatch hu), Nat.zero_le _, ⟨by decide, fun x hx => by rw [List.mem_singleton] at hx; omega, fun _ => by decide⟩, ⟨(fun z => nomatch z), h1, h2⟩, ⟨Nat.zero_le _, Nat.zero_le _⟩, ⟨Nat.zero_le _, Nat.zero_le _, fun j hj => absurd hj (Nat.not_lt_zero j), fun k hk => absurd hk (Nat.not_lt_zero k)⟩⟩
set_option maxRecDepth 100000 in
set_option maxHeartbeats 4000000 in
theorem s_Mo_readBraced  (hB0 : MoX M h0 h tw i fa fm tl lk al ind sk dp lv fr en nf nn dg nu kd pn pe T xs L ps L1 p1 nt tb fd) (hC : okC T) (hnm : nm.length ≤ 400) (hnc : ∀ x ∈ nm, x < 128) (hQ : ∀ h', MoS M h0 h' 0 (bMe (RR T (bStart T nm))) T xs (if bFa (RR T (bStart T nm)) = 0 then bL (RR T (bStart T nm)) else L) (if bFa (RR T (bStart T nm)) = 0 then bPs (RR T (bStart T nm)) else ps) → Q (some (.int (if bFa (RR T (bStart T nm)) = 0 then nI (bPs (RR T (bStart T nm))).length else bFa (RR T (bStart T nm))))) h' c s) : bp_AM l G H0 (7, 162, false, false) M_Mo_readBraced h c s [.ref (M 0)] Q := by
  refine bp_of (ls := [some (.ref (M 0)), none, none]) (by decide) dt_Mo_readBraced (Nat.le_of_ble_eq_true rfl) (fun q hq => hq) false ?_
  refine bp_aload_n (q := 1) 0 rfl rfl rfl rfl ?_
  refine bp_callV (q := 4) (ci := 9) 1 rfl rfl cw_Mo_beginReading lk_Mo_115 rfl hB0.kb wd1441 wd42 rfl rfl (Nat.le_of_ble_eq_true rfl) ⟨Nat.le_of_ble_eq_true rfl, Nat.le_of_ble_eq_true rfl⟩ (s_Mo_beginReading hB0 (fun h1 hB1 => ?_))
  refine bp_aload_n (q := 5) 2 rfl rfl rfl rfl ?_
  refine bp_aload_n (q := 6) 3 rfl rfl rfl rfl ?_
  refine bp_iconst (v := 0) (q := 7) 4 rfl rfl (by decide) ?_
  refine bp_callV (q := 10) (ci := 9) 5 rfl rfl cw_Mo_charAt lk_Mo_83 rfl hB1.kb wd1445 wd43 rfl rfl (Nat.le_of_ble_eq_true rfl) ⟨Nat.le_of_ble_eq_true rfl, Nat.le_of_ble_eq_true rfl⟩ (s_Mo_charAt (ro := false) (k := 0) hB1 hC.1 (by decide) ?_)
  refine bp_bipush (v := 123) (q := 12) 6 rfl rfl (by decide) ?_
  refine bp_icmp_eq (q := 15) (tgt := 19) 7 rfl rfl (by decide) (fun z12 => ?_) (fun z12 => ?_)
  · refine bp_iconst (v := 0) (q := 20) 10 rfl rfl (by decide) ?_
    refine bp_bipush (v := -2) (q := 22) 11 rfl rfl (by decide) ?_
    refine bp_iconst (v := 0) (q := 23) 12 rfl rfl (by decide) ?_
    refine bp_callV (q := 26) (ci := 9) 13 rfl rfl cw_Mo_failIf lk_Mo_118 rfl hB1.kb wd1449 wd44 rfl rfl (Nat.le_of_ble_eq_true rfl) ⟨Nat.le_of_ble_eq_true rfl, Nat.le_of_ble_eq_true rfl⟩ (s_Mo_failIfN hB1 rfl ?_)
    refine bp_aload_n (q := 27) 14 rfl rfl rfl rfl ?_
    refine bp_bipush (v := 96) (q := 29) 15 rfl rfl (by decide) ?_
    refine bp_putI (q := 32) (ci := 9) (j := 16) 16 rfl rfl fl_Mo_96_9 cl9 hB1.kb (fun r hr => by cases hr; rfl) (by decide) rfl rfl ?_
    refine bp_nx (X := fun h2 => MoX M h0 h2 0 0 0 fm tl 96 al ind sk dp lv fr en nf nn dg nu kd pn pe T xs L ps [] [] nt tb fd) (hB1.s16 rfl) (fun h2 hB2 => ?_)
    refine bp_aload_n (q := 33) 17 rfl rfl rfl rfl ?_
    refine bp_iconst (v := 0) (q := 34) 18 rfl rfl (by decide) ?_
    refine bp_putI (q := 37) (ci := 9) (j := 17) 19 rfl rfl fl_Mo_99_9 cl9 hB2.kb (fun r hr => by cases hr; rfl) (by decide) rfl rfl ?_
    refine bp_nx (X := fun h3 => MoX M h0 h3 0 0 0 fm tl 96 0 ind sk dp lv fr en nf nn dg nu kd pn pe T xs L ps [] [] nt tb fd) (hB2.s17 rfl) (fun h3 hB3 => ?_)
    refine bp_aload_n (q := 38) 20 rfl rfl rfl rfl ?_
    refine bp_iconst (v := 0) (q := 39) 21 rfl rfl (by decide) ?_
    refine bp_putI (q := 42) (ci := 9) (j := 18) 22 rfl rfl fl_Mo_102_9 cl9 hB3.kb (fun r hr => by cases hr; rfl) (by decide) rfl rfl ?_
    refine bp_nx (X := fun h4 => MoX M h0 h4 0 0 0 fm tl 96 0 0 sk dp lv fr en nf nn dg nu kd pn pe T xs L ps [] [] nt tb fd) (hB3.s18 rfl) (fun h4 hB4 => ?_)
    refine bp_aload_n (q := 43) 23 rfl rfl rfl rfl ?_
    refine bp_iconst (v := 1) (q := 44) 24 rfl rfl (by decide) ?_
    refine bp_putI (q := 47) (ci := 9) (j := 19) 25 rfl rfl fl_Mo_105_9 cl9 hB4.kb (fun r hr => by cases hr; rfl) (by decide) rfl rfl ?_
    refine bp_nx (X := fun h5 => MoX M h0 h5 0 0 0 fm tl 96 0 0 1 dp lv fr en nf nn dg nu kd pn pe T xs L ps [] [] nt tb fd) (hB4.s19 rfl) (fun h5 hB5 => ?_)
    refine bp_aload_n (q := 48) 26 rfl rfl rfl rfl ?_
    refine bp_iconst (v := 0) (q := 49) 27 rfl rfl (by decide) ?_
    refine bp_putI (q := 52) (ci := 9) (j := 20) 28 rfl rfl fl_Mo_93_9 cl9 hB5.kb (fun r hr => by cases hr; rfl) (by decide) rfl rfl ?_
    refine bp_nx (X := fun h6 => MoX M h0 h6 0 0 0 fm tl 96 0 0 1 0 lv fr en nf nn dg nu kd pn pe T xs L ps [] [] nt tb fd) (hB5.s20 rfl) (fun h6 hB6 => ?_)
    refine bp_aload_n (q := 53) 29 rfl rfl rfl rfl ?_
    refine bp_iconst (v := 0) (q := 54) 30 rfl rfl (by decide) ?_
    refine bp_putI (q := 57) (ci := 9) (j := 22) 31 rfl rfl fl_Mo_108_9 cl9 hB6.kb (fun r hr => by cases hr; rfl) (by decide) rfl rfl ?_
    refine bp_nx (X := fun h7 => MoX M h0 h7 0 0 0 fm tl 96 0 0 1 0 0 fr en nf nn dg nu kd pn pe T xs L ps [] [] nt tb fd) (hB6.s22 rfl) (fun h7 hB7 => ?_)
    refine bp_aload_n (q := 58) 32 rfl rfl rfl rfl ?_
    refine bp_iconst (v := 0) (q := 59) 33 rfl rfl (by decide) ?_
    refine bp_putI (q := 62) (ci := 9) (j := 23) 34 rfl rfl fl_Mo_122_9 cl9 hB7.kb (fun r hr => by cases hr; rfl) (by decide) rfl rfl ?_
    refine bp_nx (X := fun h8 => MoX M h0 h8 0 0 0 fm tl 96 0 0 1 0 0 false en nf nn dg nu kd pn pe T xs L ps [] [] nt tb fd) (hB7.s23 rfl) (fun h8 hB8 => ?_)
    refine bp_aload_n (q := 63) 35 rfl rfl rfl rfl ?_
    refine bp_iconst (v := 1) (q := 64) 36 rfl rfl (by decide) ?_
    refine bp_putI (q := 67) (ci := 9) (j := 24) 37 rfl rfl fl_Mo_126_9 cl9 hB8.kb (fun r hr => by cases hr; rfl) (by decide) rfl rfl ?_
    refine bp_nx (X := fun h9 => MoX M h0 h9 0 0 0 fm tl 96 0 0 1 0 0 false 1 nf nn dg nu kd pn pe T xs L ps [] [] nt tb fd) (hB8.s24 rfl) (fun h9 hB9 => ?_)
    refine bp_aload_n (q := 68) 38 rfl rfl rfl rfl ?_
    refine bp_getR (x := M 25) (q := 71) (ci := 9) (j := 25) 39 rfl rfl fl_Mo_46_9 hB9.kb rfl hB9.r25 ?_
    refine bp_iconst (v := 0) (q := 72) 40 rfl rfl (by decide) ?_
    refine bp_iconst (v := 0) (q := 73) 41 rfl rfl (by decide) ?_
    refine bp_iast (q := 74) 42 rfl rfl hB9.k25 (vp_inL (n := 0) hB9.l25 (by decide) (by decide))  ?_
    rw [show ((0 : Int32).toNatClampNeg) = 0 from rfl]
    refine bp_nx (X := fun h10 => MoX M h0 h10 0 0 0 fm tl 96 0 0 1 0 0 false 1 nf nn dg nu kd pn pe T xs L ps [] [] [] [0] fd) ((hB9.arr25 (tb' := [0]) (bp_Fi.sI rfl) ⟨by decide, fun q hq => by rw [Nat.lt_one_iff.mp hq, bp_I_sI, if_pos ⟨rfl, rfl⟩]; rfl⟩).arr21 (nt' := []) ⟨rfl, rfl, rfl, fun _ _ _ => rfl⟩ ⟨by decide, fun q hq => absurd hq (Nat.not_lt_zero q)⟩) (fun h10 hB10 => ?_)
    refine bp_iconst (v := 1) (q := 75) 43 rfl rfl (by decide) ?_
    refine bp_istore_n (q := 76) 44 rfl rfl rfl (by decide) (bp_up1 rfl) ?_
    have y := (nI_eq_iff (a := tc T 0) (b := 123) (by have := tc_lt hC.1 0; omega) (by decide)).mp z12
    exact lp_Mo_rb hQ hC (T.length + 2) 0 0 false vStart [] [0] nm [] [] _ _ _ _ _ _ _ (by omega) (okX_start hnm hnc) (Or.inr y) hB10 (by show _ = RR T (bStart T nm); unfold bStart; rw [if_pos y])
  · refine bp_iconst (v := 1) (q := 16) 8 rfl rfl (by decide) ?_
    refine bp_goto (tgt := 20) 9 rfl (by decide) ?_
    refine bp_bipush (v := -2) (q := 22) 11 rfl rfl (by decide) ?_
    refine bp_iconst (v := 0) (q := 23) 12 rfl rfl (by decide) ?_
    refine bp_callV (q := 26) (ci := 9) 13 rfl rfl cw_Mo_failIf lk_Mo_118 rfl hB1.kb wd1449 wd44 rfl rfl (Nat.le_of_ble_eq_true rfl) ⟨Nat.le_of_ble_eq_true rfl, Nat.le_of_ble_eq_true rfl⟩ (s_Mo_failIf0 hB1 (by decide) rfl (fun h2 hB2 => ?_))
    refine bp_aload_n (q := 27) 14 rfl rfl rfl rfl ?_
    refine bp_bipush (v := 96) (q := 29) 15 rfl rfl (by decide) ?_
    refine bp_putI (q := 32) (ci := 9) (j := 16) 16 rfl rfl fl_Mo_96_9 cl9 hB2.kb (fun r hr => by cases hr; rfl) (by decide) rfl rfl ?_
    refine bp_nx (X := fun h3 => MoX M h0 h3 0 0 (-2) (nI 0) tl 96 al ind sk dp lv fr en nf nn dg nu kd pn pe T xs L ps [] [] nt tb fd) (hB2.s16 rfl) (fun h3 hB3 => ?_)
    refine bp_aload_n (q := 33) 17 rfl rfl rfl rfl ?_
    refine bp_iconst (v := 0) (q := 34) 18 rfl rfl (by decide) ?_
    refine bp_putI (q := 37) (ci := 9) (j := 17) 19 rfl rfl fl_Mo_99_9 cl9 hB3.kb (fun r hr => by cases hr; rfl) (by decide) rfl rfl ?_
    refine bp_nx (X := fun h4 => MoX M h0 h4 0 0 (-2) (nI 0) tl 96 0 ind sk dp lv fr en nf nn dg nu kd pn pe T xs L ps [] [] nt tb fd) (hB3.s17 rfl) (fun h4 hB4 => ?_)
    refine bp_aload_n (q := 38) 20 rfl rfl rfl rfl ?_
    refine bp_iconst (v := 0) (q := 39) 21 rfl rfl (by decide) ?_
    refine bp_putI (q := 42) (ci := 9) (j := 18) 22 rfl rfl fl_Mo_102_9 cl9 hB4.kb (fun r hr => by cases hr; rfl) (by decide) rfl rfl ?_
    refine bp_nx (X := fun h5 => MoX M h0 h5 0 0 (-2) (nI 0) tl 96 0 0 sk dp lv fr en nf nn dg nu kd pn pe T xs L ps [] [] nt tb fd) (hB4.s18 rfl) (fun h5 hB5 => ?_)
    refine bp_aload_n (q := 43) 23 rfl rfl rfl rfl ?_
    refine bp_iconst (v := 1) (q := 44) 24 rfl rfl (by decide) ?_
    refine bp_putI (q := 47) (ci := 9) (j := 19) 25 rfl rfl fl_Mo_105_9 cl9 hB5.kb (fun r hr => by cases hr; rfl) (by decide) rfl rfl ?_
    refine bp_nx (X := fun h6 => MoX M h0 h6 0 0 (-2) (nI 0) tl 96 0 0 1 dp lv fr en nf nn dg nu kd pn pe T xs L ps [] [] nt tb fd) (hB5.s19 rfl) (fun h6 hB6 => ?_)
    refine bp_aload_n (q := 48) 26 rfl rfl rfl rfl ?_
    refine bp_iconst (v := 0) (q := 49) 27 rfl rfl (by decide) ?_
    refine bp_putI (q := 52) (ci := 9) (j := 20) 28 rfl rfl fl_Mo_93_9 cl9 hB6.kb (fun r hr => by cases hr; rfl) (by decide) rfl rfl ?_
    refine bp_nx (X := fun h7 => MoX M h0 h7 0 0 (-2) (nI 0) tl 96 0 0 1 0 lv fr en nf nn dg nu kd pn pe T xs L ps [] [] nt tb fd) (hB6.s20 rfl) (fun h7 hB7 => ?_)
    refine bp_aload_n (q := 53) 29 rfl rfl rfl rfl ?_
    refine bp_iconst (v := 0) (q := 54) 30 rfl rfl (by decide) ?_
    refine bp_putI (q := 57) (ci := 9) (j := 22) 31 rfl rfl fl_Mo_108_9 cl9 hB7.kb (fun r hr => by cases hr; rfl) (by decide) rfl rfl ?_
    refine bp_nx (X := fun h8 => MoX M h0 h8 0 0 (-2) (nI 0) tl 96 0 0 1 0 0 fr en nf nn dg nu kd pn pe T xs L ps [] [] nt tb fd) (hB7.s22 rfl) (fun h8 hB8 => ?_)
    refine bp_aload_n (q := 58) 32 rfl rfl rfl rfl ?_
    refine bp_iconst (v := 0) (q := 59) 33 rfl rfl (by decide) ?_
    refine bp_putI (q := 62) (ci := 9) (j := 23) 34 rfl rfl fl_Mo_122_9 cl9 hB8.kb (fun r hr => by cases hr; rfl) (by decide) rfl rfl ?_
    refine bp_nx (X := fun h9 => MoX M h0 h9 0 0 (-2) (nI 0) tl 96 0 0 1 0 0 false en nf nn dg nu kd pn pe T xs L ps [] [] nt tb fd) (hB8.s23 rfl) (fun h9 hB9 => ?_)
    refine bp_aload_n (q := 63) 35 rfl rfl rfl rfl ?_
    refine bp_iconst (v := 1) (q := 64) 36 rfl rfl (by decide) ?_
    refine bp_putI (q := 67) (ci := 9) (j := 24) 37 rfl rfl fl_Mo_126_9 cl9 hB9.kb (fun r hr => by cases hr; rfl) (by decide) rfl rfl ?_
    refine bp_nx (X := fun h10 => MoX M h0 h10 0 0 (-2) (nI 0) tl 96 0 0 1 0 0 false 1 nf nn dg nu kd pn pe T xs L ps [] [] nt tb fd) (hB9.s24 rfl) (fun h10 hB10 => ?_)
    refine bp_aload_n (q := 68) 38 rfl rfl rfl rfl ?_
    refine bp_getR (x := M 25) (q := 71) (ci := 9) (j := 25) 39 rfl rfl fl_Mo_46_9 hB10.kb rfl hB10.r25 ?_
    refine bp_iconst (v := 0) (q := 72) 40 rfl rfl (by decide) ?_
    refine bp_iconst (v := 0) (q := 73) 41 rfl rfl (by decide) ?_
    refine bp_iast (q := 74) 42 rfl rfl hB10.k25 (vp_inL (n := 0) hB10.l25 (by decide) (by decide))  ?_
    rw [show ((0 : Int32).toNatClampNeg) = 0 from rfl]
    refine bp_nx (X := fun h11 => MoX M h0 h11 0 0 (-2) (nI 0) tl 96 0 0 1 0 0 false 1 nf nn dg nu kd pn pe T xs L ps [] [] [] [0] fd) ((hB10.arr25 (tb' := [0]) (bp_Fi.sI rfl) ⟨by decide, fun q hq => by rw [Nat.lt_one_iff.mp hq, bp_I_sI, if_pos ⟨rfl, rfl⟩]; rfl⟩).arr21 (nt' := []) ⟨rfl, rfl, rfl, fun _ _ _ => rfl⟩ ⟨by decide, fun q hq => absurd hq (Nat.not_lt_zero q)⟩) (fun h11 hB11 => ?_)
    refine bp_iconst (v := 1) (q := 75) 43 rfl rfl (by decide) ?_
    refine bp_istore_n (q := 76) 44 rfl rfl rfl (by decide) (bp_up1 rfl) ?_
    have y : ¬ tc T 0 = 123 := fun e => z12 (by rw [e]; rfl)
    have e : RR T (bStart T nm) = (0, -2, nI 0, 0, false, false, false, vStart, [], [0], nm, [], []) := by unfold bStart; rw [if_neg y]; exact RR_f (show (-2 : Int32) ≠ 0 by decide)
    exact lp_Mo_rbF hB11 hQ (by decide) (by show bFa (RR T (bStart T nm)) = _; rw [e]; rfl) (by show bMe (RR T (bStart T nm)) = _; rw [e]; rfl)
end MO25
