/-! the reference reads tags -/
def TGd (T : List Nat) (R : TS) (i k : Nat) (n : Int32) (e ot rs : Nat) (hl ed : Bool) (sy sz co : Nat) (L1 : List (Nat × Nat)) (p1 : List (Nat × Nat × Nat)) (x y : Nat) : Prop := LAr T i k n e ∧ okU T (i, 0, -1, true, ot, rs, hl, ed, sy, sz, co, L1, p1 ++ [(x, y, L1.length)]) ∧ TT T (i, 0, -1, true, ot, rs, hl, ed, sy, sz, co, L1, p1 ++ [(x, y, L1.length)]) = R
def TBd (M : Nat → Nat) (h0 h : bp_H) (tw : Int32) (tl : Int32) (lk : Nat) (al : Nat) (ind : Nat) (sk : Nat) (dp : Nat) (lv : Nat) (fr : Bool) (en : Nat) (nf : Nat) (nn : Nat) (dg : Nat) (nu : Int32) (T : List Nat) (xs : List Nat) (L : List (Nat × Nat)) (ps : List (Nat × Nat × Nat)) (nt : List (Nat → Nat)) (tb : List Nat) (fd : List Nat) (R : TS) : Prop := ∃ (fa fm : Int32) (i kd : Nat) (pn : Int32) (pe : Nat) (L1 : List (Nat × Nat)) (p1 : List (Nat × Nat × Nat)), ¬ fa = 0 ∧ MoX M h0 h tw i fa fm tl lk al ind sk dp lv fr en nf nn dg nu kd pn pe T xs L ps L1 p1 nt tb fd ∧ tFa R = fa ∧ tMe R = fm
/-- what the tags of a run have set: which are open, style, size, colour, the last one -/
def RTI (ot sy sz co lst : Nat) : Prop := ((lst = 0 ∧ ot = 0) ∨ (lst = 1 ∧ ot = 1) ∨ (lst = 2 ∧ 2 ≤ ot ∧ ot < 4) ∨ (lst = 3 ∧ 4 ≤ ot ∧ ot < 8) ∨ (lst = 4 ∧ 8 ≤ ot ∧ ot < 16) ∨ (lst = 5 ∧ 16 ≤ ot ∧ ot < 32)) ∧ sy = ot % 8 ∧ (ot < 8 → sz = 12) ∧ (ot < 16 → co = 0) ∧ (ot ≠ 0 → ¬ (sy = 0 ∧ sz = 12 ∧ co = 0)) ∧ 1 ≤ sz ∧ sz < 100 ∧ co < 8
theorem stS_add {m b : Nat} (h : m < b) : stS m b false = m + b := by
  unfold stS
  rw [if_neg (by decide), Nat.div_eq_of_lt h]
  rfl
theorem or_k : ∀ ot, ot < 16 → (ot < 1 → nI (2 * ot) ||| (1 <<< (nI 1 &&& 31)) = nI (2 * (ot + 1))) ∧ (ot < 2 → nI (2 * ot) ||| (1 <<< (nI 2 &&& 31)) = nI (2 * (ot + 2))) ∧ (ot < 4 → nI (2 * ot) ||| (1 <<< (nI 3 &&& 31)) = nI (2 * (ot + 4))) ∧ (ot < 8 → nI (2 * ot) ||| (1 <<< (nI 4 &&& 31)) = nI (2 * (ot + 8))) ∧ (ot < 16 → nI (2 * ot) ||| (1 <<< (nI 5 &&& 31)) = nI (2 * (ot + 16))) := by decide +kernel
section MO28
variable {l : Launch} {G : bp_G} {H0 : Heap} {M : Nat → Nat} {h0 h : bp_H} {tw : Int32} {i : Nat} {fa : Int32} {fm : Int32} {tl : Int32} {lk : Nat} {al : Nat} {ind : Nat} {sk : Nat} {dp : Nat} {lv : Nat} {fr : Bool} {en : Nat} {nf : Nat} {nn : Nat} {dg : Nat} {nu : Int32} {kd : Nat} {pn : Int32} {pe : Nat} {T : List Nat} {xs : List Nat} {L : List (Nat × Nat)} {ps : List (Nat × Nat × Nat)} {L1 : List (Nat × Nat)} {p1 : List (Nat × Nat × Nat)} {nt : List (Nat → Nat)} {tb : List Nat} {fd : List Nat} {c s : Nat} {Q : Option Value → bp_H → Nat → Nat → Prop} {R : TS} {x y : Nat}
section RTIs
variable {ot sy sz co lst k v : Nat}
theorem RTI.dv (h : RTI ot sy sz co lst) (h1 : 1 ≤ k) (h5 : k ≤ 5) (hl : lst < k) : ot / 2 ^ (k - 1) = 0 := by
  have c : k = 1 ∨ k = 2 ∨ k = 3 ∨ k = 4 ∨ k = 5 := by omega
  have h := h.1
  apply Nat.div_eq_of_lt
  rcases c with c | c | c | c | c <;> subst c
  · show ot < 1; omega
  · show ot < 2; omega
  · show ot < 4; omega
  · show ot < 8; omega
  · show ot < 16; omega
theorem RTI.lt1 (h : RTI ot sy sz co lst) (hl : lst < 1) : ot < 1 := by have h := h.1; omega
theorem RTI.lt2 (h : RTI ot sy sz co lst) (hl : lst < 2) : ot < 2 := by have h := h.1; omega
theorem RTI.lt3 (h : RTI ot sy sz co lst) (hl : lst < 3) : ot < 4 := by have h := h.1; omega
theorem RTI.lt4 (h : RTI ot sy sz co lst) (hl : lst < 4) : ot < 8 := by have h := h.1; omega
theorem RTI.lt5 (h : RTI ot sy sz co lst) (hl : lst < 5) : ot < 16 := by have h := h.1; omega
theorem RTI.g1 (h : RTI ot sy sz co lst) (ho : ot < 1) : RTI (ot + 2 ^ (1 - 1)) (sy + 1) sz co 1 := by
  obtain ⟨h0, h1, h2, h3, h4, h5, h6, h7⟩ := h
  have e : 2 ^ (1 - 1) = 1 := rfl
  rw [e]
  exact ⟨by omega, by omega, fun _ => h2 (by omega), fun _ => h3 (by omega), fun _ z => by omega, h5, h6, h7⟩
theorem RTI.g2 (h : RTI ot sy sz co lst) (ho : ot < 2) : RTI (ot + 2 ^ (2 - 1)) (sy + 2) sz co 2 := by
  obtain ⟨h0, h1, h2, h3, h4, h5, h6, h7⟩ := h
  have e : 2 ^ (2 - 1) = 2 := rfl
  rw [e]
  exact ⟨by omega, by omega, fun _ => h2 (by omega), fun _ => h3 (by omega), fun _ z => by omega, h5, h6, h7⟩
theorem RTI.g3 (h : RTI ot sy sz co lst) (ho : ot < 4) : RTI (ot + 2 ^ (3 - 1)) (sy + 4) sz co 3 := by
  obtain ⟨h0, h1, h2, h3, h4, h5, h6, h7⟩ := h
  have e : 2 ^ (3 - 1) = 4 := rfl
  rw [e]
  exact ⟨by omega, by omega, fun _ => h2 (by omega), fun _ => h3 (by omega), fun _ z => by omega, h5, h6, h7⟩
theorem RTI.g4 (h : RTI ot sy sz co lst) (ho : ot < 8) (v1 : 1 ≤ v) (v2 : v ≤ 99) (v3 : v ≠ 12) : RTI (ot + 2 ^ (4 - 1)) sy v co 4 := by
  obtain ⟨h0, h1, h2, h3, h4, h5, h6, h7⟩ := h
  have e : 2 ^ (4 - 1) = 8 := rfl
  rw [e]
  exact ⟨by omega, by omega, fun _ => by omega, fun _ => h3 (by omega), fun _ z => v3 z.2.1, v1, by omega, h7⟩
theorem RTI.g5 (h : RTI ot sy sz co lst) (ho : ot < 16) (v1 : 1 ≤ v) (v2 : v ≤ 7) : RTI (ot + 2 ^ (5 - 1)) sy sz v 5 := by
  obtain ⟨h0, h1, h2, h3, h4, h5, h6, h7⟩ := h
  have e : 2 ^ (5 - 1) = 16 := rfl
  rw [e]
  exact ⟨by omega, by omega, fun _ => by omega, fun _ => by omega, fun _ z => by omega, h5, h6, by omega⟩
end RTIs
set_option maxRecDepth 100000 in
set_option maxHeartbeats 4000000 in
theorem lp_Mo_rt {i0 k0 : Nat} (hC : okC T) (hQ1 : ∀ h' i' k' n' e' ot rs' sy sz co lst, MoX M h0 h' tw i' 0 fm tl lk al ind sk dp lv fr en nf nn dg nu k' n' e' T xs L ps L1 p1 nt tb fd → TGd T R i' k' n' e' ot rs' false false sy sz co L1 p1 x y → RTI ot sy sz co lst → ¬ (1 ≤ k' ∧ k' ≤ 5 ∧ lst < k') → (ot ≠ 0 → rs' = i0) → (ot = 0 → i' = i0 ∧ k' = k0) → i0 ≤ i' → Q (some (.int (nI ((sy + 8 * sz + 1024 * co) * 64 + 2 * ot)))) h' c s) (hQ0 : ∀ h' v, TBd M h0 h' tw tl lk al ind sk dp lv fr en nf nn dg nu T xs L ps nt tb fd R → Q (some (.int v)) h' c s) : ∀ (m : Nat) (i k : Nat) (n : Int32) (e ot rs sy sz co lst : Nat) (lo : Option Value) (h : bp_H), T.length ≤ m + i → MoX M h0 h tw i 0 fm tl lk al ind sk dp lv fr en nf nn dg nu k n e T xs L ps L1 p1 nt tb fd → TGd T R i k n e ot rs false false sy sz co L1 p1 x y → RTI ot sy sz co lst → (ot ≠ 0 → rs = i0) → (ot = 0 → i = i0 ∧ k = k0) → i0 ≤ i → bp_A l G H0 (6, 135, false, false) M_Mo_readTags h c s 7 [some (.ref (M 0)), some (.int (nI (sy + 8 * sz + 1024 * co))), some (.int (nI lst)), some (.int (nI (2 * ot))), lo] [] (fun o h' c' s' => ∃ v, o = .returned v ∧ Q v h' c' s') := by
  have hT4 := hC.1.1
  intro m
  induction m with
  | zero =>
    intro i k n e ot rs sy sz co lst lo h hm hB0 hG hI hnz hz hge
    have hk0 : k = 0 := Classical.byContradiction (fun z => by have := hG.1.in z; omega)
    have hli := hI.1
    subst hk0
    refine bp_aload_n (q := 8) 6 rfl rfl rfl rfl ?_
    refine bp_getI (q := 11) (ci := 9) (j := 13) 7 rfl rfl fl_Mo_69_9 hB0.kb rfl ?_
    rw [hB0.i13]
    refine bp_if_ne (q := 14) (tgt := 116) 8 rfl rfl (by decide) (fun z => absurd z (by decide)) (fun z11 => ?_)
    refine bp_aload_n (q := 15) 9 rfl rfl rfl rfl ?_
    refine bp_getI (q := 18) (ci := 9) (j := 31) 10 rfl rfl fl_Mo_267_9 hB0.kb rfl ?_
    rw [hB0.i31]
    refine bp_iconst (v := 1) (q := 19) 11 rfl rfl (by decide) ?_
    refine bp_icmp_lt (q := 22) (tgt := 116) 12 rfl rfl (by decide) (fun z19 => ?_) (fun z19 => ?_)
    · refine bp_iload_n (q := 117) 68 rfl rfl rfl rfl ?_
      refine bp_bipush (v := 64) (q := 119) 69 rfl rfl (by decide) ?_
      refine bp_imul (q := 120) 70 rfl rfl ?_
      refine bp_iload_n (q := 121) 71 rfl rfl rfl rfl ?_
      refine bp_iadd (q := 122) 72 rfl rfl ?_
      refine bp_iret 73 rfl rfl rfl ⟨_, rfl, ?_⟩
      rw [show nI (sy + 8 * sz + 1024 * co) * 64 + nI (2 * ot) = nI ((sy + 8 * sz + 1024 * co) * 64 + 2 * ot) from by rw [show (64 : Int32) = nI 64 from rfl, nI_mul, nI_add]]
      exact hQ1 _ _ _ _ _ _ _ _ _ _ _ hB0 hG hI (fun z => absurd z.1 (by decide)) hnz hz hge
    · exact absurd (by decide) z19
  | succ m ih =>
    intro i k n e ot rs sy sz co lst lo h hm hB0 hG hI hnz hz hge
    have hk14 := hG.1.le
    have hli := hI.1
    have hiT := hG.2.1.1
    have hsz9 := hI.2.2.2.2.2.2.1
    refine bp_aload_n (q := 8) 6 rfl rfl rfl rfl ?_
    refine bp_getI (q := 11) (ci := 9) (j := 13) 7 rfl rfl fl_Mo_69_9 hB0.kb rfl ?_
    rw [hB0.i13]
    refine bp_if_ne (q := 14) (tgt := 116) 8 rfl rfl (by decide) (fun z => absurd z (by decide)) (fun z11 => ?_)
    refine bp_aload_n (q := 15) 9 rfl rfl rfl rfl ?_
    refine bp_getI (q := 18) (ci := 9) (j := 31) 10 rfl rfl fl_Mo_267_9 hB0.kb rfl ?_
    rw [hB0.i31]
    refine bp_iconst (v := 1) (q := 19) 11 rfl rfl (by decide) ?_
    refine bp_icmp_lt (q := 22) (tgt := 116) 12 rfl rfl (by decide) (fun z19 => ?_) (fun z19 => ?_)
    · refine bp_iload_n (q := 117) 68 rfl rfl rfl rfl ?_
      refine bp_bipush (v := 64) (q := 119) 69 rfl rfl (by decide) ?_
      refine bp_imul (q := 120) 70 rfl rfl ?_
      refine bp_iload_n (q := 121) 71 rfl rfl rfl rfl ?_
      refine bp_iadd (q := 122) 72 rfl rfl ?_
      refine bp_iret 73 rfl rfl rfl ⟨_, rfl, ?_⟩
      rw [show nI (sy + 8 * sz + 1024 * co) * 64 + nI (2 * ot) = nI ((sy + 8 * sz + 1024 * co) * 64 + 2 * ot) from by rw [show (64 : Int32) = nI 64 from rfl, nI_mul, nI_add]]
      exact hQ1 _ _ _ _ _ _ _ _ _ _ _ hB0 hG hI (fun z => by have := (nI_lt_iff (b := 1) (by omega) (by decide)).mp z19; omega) hnz hz hge
    · refine bp_aload_n (q := 23) 13 rfl rfl rfl rfl ?_
      refine bp_getI (q := 26) (ci := 9) (j := 31) 14 rfl rfl fl_Mo_267_9 hB0.kb rfl ?_
      rw [hB0.i31]
      refine bp_iconst (v := 5) (q := 27) 15 rfl rfl (by decide) ?_
      refine bp_icmp_gt (q := 30) (tgt := 116) 16 rfl rfl (by decide) (fun z27 => ?_) (fun z27 => ?_)
      · refine bp_iload_n (q := 117) 68 rfl rfl rfl rfl ?_
        refine bp_bipush (v := 64) (q := 119) 69 rfl rfl (by decide) ?_
        refine bp_imul (q := 120) 70 rfl rfl ?_
        refine bp_iload_n (q := 121) 71 rfl rfl rfl rfl ?_
        refine bp_iadd (q := 122) 72 rfl rfl ?_
        refine bp_iret 73 rfl rfl rfl ⟨_, rfl, ?_⟩
        rw [show nI (sy + 8 * sz + 1024 * co) * 64 + nI (2 * ot) = nI ((sy + 8 * sz + 1024 * co) * 64 + 2 * ot) from by rw [show (64 : Int32) = nI 64 from rfl, nI_mul, nI_add]]
        exact hQ1 _ _ _ _ _ _ _ _ _ _ _ hB0 hG hI (fun z => by have := (nI_lt_iff (a := 5) (by decide) (by omega)).mp z27; omega) hnz hz hge
      · refine bp_aload_n (q := 31) 17 rfl rfl rfl rfl ?_
        refine bp_getI (q := 34) (ci := 9) (j := 31) 18 rfl rfl fl_Mo_267_9 hB0.kb rfl ?_
        rw [hB0.i31]
        refine bp_iload_n (q := 35) 19 rfl rfl rfl rfl ?_
        refine bp_icmp_le (q := 38) (tgt := 116) 20 rfl rfl (by decide) (fun z35 => ?_) (fun z35 => ?_)
        · refine bp_iload_n (q := 117) 68 rfl rfl rfl rfl ?_
          refine bp_bipush (v := 64) (q := 119) 69 rfl rfl (by decide) ?_
          refine bp_imul (q := 120) 70 rfl rfl ?_
          refine bp_iload_n (q := 121) 71 rfl rfl rfl rfl ?_
          refine bp_iadd (q := 122) 72 rfl rfl ?_
          refine bp_iret 73 rfl rfl rfl ⟨_, rfl, ?_⟩
          rw [show nI (sy + 8 * sz + 1024 * co) * 64 + nI (2 * ot) = nI ((sy + 8 * sz + 1024 * co) * 64 + 2 * ot) from by rw [show (64 : Int32) = nI 64 from rfl, nI_mul, nI_add]]
          exact hQ1 _ _ _ _ _ _ _ _ _ _ _ hB0 hG hI (fun z => by have := (nI_le_iff (by omega) (by omega)).mp z35; omega) hnz hz hge
        · refine bp_aload_n (q := 39) 21 rfl rfl rfl rfl ?_
          have hk1 : 1 ≤ k := Nat.not_lt.mp (fun z => z19 ((nI_lt_iff (b := 1) (by omega) (by decide)).mpr z))
          have hk5 : k ≤ 5 := Nat.not_lt.mp (fun z => z27 ((nI_lt_iff (a := 5) (by decide) (by omega)).mpr z))
          have hkl : lst < k := Nat.not_le.mp (fun z => z35 ((nI_le_iff (by omega) (by omega)).mpr z))
          have hr := hG.1.run hk1 hk5
          have hi := hr.1
          have hdv : ot / 2 ^ (k - 1) = 0 := RTI.dv hI hk1 hk5 hkl
          by_cases hn : n < 0
          · have hb := TT_bad hC hG.2.1 rfl hi (hr.f5 rfl rfl hdv hn) (by decide)
            rw [hG.2.2] at hb
            refine bp_callV (q := 42) (ci := 9) 22 rfl rfl cw_Mo_accept lk_Mo_323 rfl hB0.kb wd1615 wd70 rfl rfl (Nat.le_of_ble_eq_true rfl) ⟨Nat.le_of_ble_eq_true rfl, Nat.le_of_ble_eq_true rfl⟩ (s_Mo_acceptF hB0 hn (fun h1 hB1 => ?_))
            refine bp_istore (q := 44) 23 rfl rfl (by decide) (bp_up4 rfl) ?_
            refine bp_aload_n (q := 45) 24 rfl rfl rfl rfl ?_
            refine bp_getI (q := 48) (ci := 9) (j := 31) 25 rfl rfl fl_Mo_267_9 hB1.kb rfl ?_
            rw [hB1.i31]
            refine bp_istore_n (q := 49) 26 rfl rfl rfl (by decide) (bp_up2 rfl) ?_
            refine bp_iload_n (q := 50) 27 rfl rfl rfl rfl ?_
            refine bp_iconst (v := 1) (q := 51) 28 rfl rfl (by decide) ?_
            refine bp_aload_n (q := 52) 29 rfl rfl rfl rfl ?_
            refine bp_getI (q := 55) (ci := 9) (j := 31) 30 rfl rfl fl_Mo_267_9 hB1.kb rfl ?_
            rw [hB1.i31]
            refine bp_ishl (q := 56) 31 rfl rfl ?_
            refine bp_ior (q := 57) 32 rfl rfl ?_
            refine bp_istore_n (q := 58) 33 rfl rfl rfl (by decide) (bp_up3 rfl) ?_
            refine bp_aload_n (q := 59) 34 rfl rfl rfl rfl ?_
            refine bp_getI (q := 62) (ci := 9) (j := 31) 35 rfl rfl fl_Mo_267_9 hB1.kb rfl ?_
            rw [hB1.i31]
            refine bp_iconst (v := 3) (q := 63) 36 rfl rfl (by decide) ?_
            refine bp_icmp_gt (q := 66) (tgt := 79) 37 rfl rfl (by decide) (fun z63 => ?_) (fun z63 => ?_)
            · refine bp_aload_n (q := 80) 47 rfl rfl rfl rfl ?_
              refine bp_getI (q := 83) (ci := 9) (j := 31) 48 rfl rfl fl_Mo_267_9 hB1.kb rfl ?_
              rw [hB1.i31]
              refine bp_iconst (v := 4) (q := 84) 49 rfl rfl (by decide) ?_
              refine bp_icmp_ne (q := 87) (tgt := 100) 50 rfl rfl (by decide) (fun z84 => ?_) (fun z84 => ?_)
              · refine bp_iload_n (q := 101) 59 rfl rfl rfl rfl ?_
                refine bp_sipush (v := 1024) (q := 104) 60 rfl rfl (by decide) ?_
                refine bp_iload (q := 106) 61 rfl rfl rfl ?_
                refine bp_imul (q := 107) 62 rfl rfl ?_
                refine bp_iadd (q := 108) 63 rfl rfl ?_
                refine bp_istore_n (q := 109) 64 rfl rfl rfl (by decide) (bp_up1 rfl) ?_
                refine bp_aload_n (q := 110) 65 rfl rfl rfl rfl ?_
                refine bp_callV (q := 113) (ci := 9) 66 rfl rfl cw_Mo_lookAhead lk_Mo_320 rfl hB1.kb wd1576 wd64 rfl rfl (Nat.le_of_ble_eq_true rfl) ⟨Nat.le_of_ble_eq_true rfl, Nat.le_of_ble_eq_true rfl⟩ (s_Mo_lookAhead hB1 hC.1 (by omega) (fun h2 k' n' e' hL' hB2 => ?_))
                refine bp_goto (tgt := 7) 67 rfl (by decide) ?_
                refine bp_aload_n (q := 8) 6 rfl rfl rfl rfl ?_
                refine bp_getI (q := 11) (ci := 9) (j := 13) 7 rfl rfl fl_Mo_69_9 hB2.kb rfl ?_
                rw [hB2.i13]
                refine bp_if_ne (q := 14) (tgt := 116) 8 rfl rfl (by decide) (fun z11 => ?_) (fun z => absurd z (by decide))
                refine bp_iload_n (q := 117) 68 rfl rfl rfl rfl ?_
                refine bp_bipush (v := 64) (q := 119) 69 rfl rfl (by decide) ?_
                refine bp_imul (q := 120) 70 rfl rfl ?_
                refine bp_iload_n (q := 121) 71 rfl rfl rfl rfl ?_
                refine bp_iadd (q := 122) 72 rfl rfl ?_
                exact bp_iret 73 rfl rfl rfl ⟨_, rfl, hQ0 _ _ ⟨_, _, _, _, _, _, _, _, (by decide), hB2, hb.1, hb.2⟩⟩
              · refine bp_iload_n (q := 88) 51 rfl rfl rfl rfl ?_
                refine bp_bipush (v := 96) (q := 90) 52 rfl rfl (by decide) ?_
                refine bp_isub (q := 91) 53 rfl rfl ?_
                refine bp_bipush (v := 8) (q := 93) 54 rfl rfl (by decide) ?_
                refine bp_iload (q := 95) 55 rfl rfl rfl ?_
                refine bp_imul (q := 96) 56 rfl rfl ?_
                refine bp_iadd (q := 97) 57 rfl rfl ?_
                refine bp_goto (tgt := 108) 58 rfl (by decide) ?_
                refine bp_istore_n (q := 109) 64 rfl rfl rfl (by decide) (bp_up1 rfl) ?_
                refine bp_aload_n (q := 110) 65 rfl rfl rfl rfl ?_
                refine bp_callV (q := 113) (ci := 9) 66 rfl rfl cw_Mo_lookAhead lk_Mo_320 rfl hB1.kb wd1576 wd64 rfl rfl (Nat.le_of_ble_eq_true rfl) ⟨Nat.le_of_ble_eq_true rfl, Nat.le_of_ble_eq_true rfl⟩ (s_Mo_lookAhead hB1 hC.1 (by omega) (fun h2 k' n' e' hL' hB2 => ?_))
                refine bp_goto (tgt := 7) 67 rfl (by decide) ?_
                refine bp_aload_n (q := 8) 6 rfl rfl rfl rfl ?_
                refine bp_getI (q := 11) (ci := 9) (j := 13) 7 rfl rfl fl_Mo_69_9 hB2.kb rfl ?_
                rw [hB2.i13]
                refine bp_if_ne (q := 14) (tgt := 116) 8 rfl rfl (by decide) (fun z11 => ?_) (fun z => absurd z (by decide))
                refine bp_iload_n (q := 117) 68 rfl rfl rfl rfl ?_
                refine bp_bipush (v := 64) (q := 119) 69 rfl rfl (by decide) ?_
                refine bp_imul (q := 120) 70 rfl rfl ?_
                refine bp_iload_n (q := 121) 71 rfl rfl rfl rfl ?_
                refine bp_iadd (q := 122) 72 rfl rfl ?_
                exact bp_iret 73 rfl rfl rfl ⟨_, rfl, hQ0 _ _ ⟨_, _, _, _, _, _, _, _, (by decide), hB2, hb.1, hb.2⟩⟩
            · refine bp_iload_n (q := 67) 38 rfl rfl rfl rfl ?_
              refine bp_iconst (v := 1) (q := 68) 39 rfl rfl (by decide) ?_
              refine bp_aload_n (q := 69) 40 rfl rfl rfl rfl ?_
              refine bp_getI (q := 72) (ci := 9) (j := 31) 41 rfl rfl fl_Mo_267_9 hB1.kb rfl ?_
              rw [hB1.i31]
              refine bp_iconst (v := 1) (q := 73) 42 rfl rfl (by decide) ?_
              refine bp_isub (q := 74) 43 rfl rfl ?_
              refine bp_ishl (q := 75) 44 rfl rfl ?_
              refine bp_iadd (q := 76) 45 rfl rfl ?_
              refine bp_goto (tgt := 108) 46 rfl (by decide) ?_
              refine bp_istore_n (q := 109) 64 rfl rfl rfl (by decide) (bp_up1 rfl) ?_
              refine bp_aload_n (q := 110) 65 rfl rfl rfl rfl ?_
              refine bp_callV (q := 113) (ci := 9) 66 rfl rfl cw_Mo_lookAhead lk_Mo_320 rfl hB1.kb wd1576 wd64 rfl rfl (Nat.le_of_ble_eq_true rfl) ⟨Nat.le_of_ble_eq_true rfl, Nat.le_of_ble_eq_true rfl⟩ (s_Mo_lookAhead hB1 hC.1 (by omega) (fun h2 k' n' e' hL' hB2 => ?_))
              refine bp_goto (tgt := 7) 67 rfl (by decide) ?_
              refine bp_aload_n (q := 8) 6 rfl rfl rfl rfl ?_
              refine bp_getI (q := 11) (ci := 9) (j := 13) 7 rfl rfl fl_Mo_69_9 hB2.kb rfl ?_
              rw [hB2.i13]
              refine bp_if_ne (q := 14) (tgt := 116) 8 rfl rfl (by decide) (fun z11 => ?_) (fun z => absurd z (by decide))
              refine bp_iload_n (q := 117) 68 rfl rfl rfl rfl ?_
              refine bp_bipush (v := 64) (q := 119) 69 rfl rfl (by decide) ?_
              refine bp_imul (q := 120) 70 rfl rfl ?_
              refine bp_iload_n (q := 121) 71 rfl rfl rfl rfl ?_
              refine bp_iadd (q := 122) 72 rfl rfl ?_
              exact bp_iret 73 rfl rfl rfl ⟨_, rfl, hQ0 _ _ ⟨_, _, _, _, _, _, _, _, (by decide), hB2, hb.1, hb.2⟩⟩
          · have e1 := hr.ok (fa := 0) (me := -1) (ip := true) (ot := ot) (rs := rs) (hl := false) (ed := false) (sy := sy) (sz := sz) (co := co) (L := L1) (ps := p1 ++ [(x, y, L1.length)]) rfl rfl hdv hn
            have s1 := TT_step hC hG.2.1 rfl hi
            have m1 := okU_thing hC.1 hC.2 hG.2.1 rfl hi
            rw [e1] at s1 m1
            have hie : i < e := m1.2.resolve_right (fun z => z rfl)
            have heT : e ≤ T.length := m1.1.1
            have rs1 : (if ot = 0 then i else rs) = i0 := by
              by_cases z0 : ot = 0
              · rw [if_pos z0]; exact (hz z0).1
              · rw [if_neg z0]; exact hnz z0
            rw [rs1, hG.2.2] at s1
            rw [rs1] at m1
            have ck : k = 1 ∨ k = 2 ∨ k = 3 ∨ k = 4 ∨ k = 5 := by omega
            rcases ck with ck | ck | ck | ck | ck <;> subst ck
            · have hot : ot < 1 := RTI.lt1 hI hkl
              have es : stS sy (2 ^ (1 - 1)) false = sy + 1 := stS_add (by have := hI.2.1; show sy < 1; omega)
              rw [if_neg (by decide), if_neg (by decide), if_neg (by decide), es] at s1 m1
              refine bp_callV (q := 42) (ci := 9) 22 rfl rfl cw_Mo_accept lk_Mo_323 rfl hB0.kb wd1615 wd70 rfl rfl (Nat.le_of_ble_eq_true rfl) ⟨Nat.le_of_ble_eq_true rfl, Nat.le_of_ble_eq_true rfl⟩ (s_Mo_accept0 hB0 hn (fun h1 hB1 => ?_))
              refine bp_istore (q := 44) 23 rfl rfl (by decide) (bp_up4 rfl) ?_
              refine bp_aload_n (q := 45) 24 rfl rfl rfl rfl ?_
              refine bp_getI (q := 48) (ci := 9) (j := 31) 25 rfl rfl fl_Mo_267_9 hB1.kb rfl ?_
              rw [hB1.i31]
              refine bp_istore_n (q := 49) 26 rfl rfl rfl (by decide) (bp_up2 rfl) ?_
              refine bp_iload_n (q := 50) 27 rfl rfl rfl rfl ?_
              refine bp_iconst (v := 1) (q := 51) 28 rfl rfl (by decide) ?_
              refine bp_aload_n (q := 52) 29 rfl rfl rfl rfl ?_
              refine bp_getI (q := 55) (ci := 9) (j := 31) 30 rfl rfl fl_Mo_267_9 hB1.kb rfl ?_
              rw [hB1.i31]
              refine bp_ishl (q := 56) 31 rfl rfl ?_
              refine bp_ior (q := 57) 32 rfl rfl ?_
              rw [(or_k ot (by omega)).1 hot]
              refine bp_istore_n (q := 58) 33 rfl rfl rfl (by decide) (bp_up3 rfl) ?_
              refine bp_aload_n (q := 59) 34 rfl rfl rfl rfl ?_
              refine bp_getI (q := 62) (ci := 9) (j := 31) 35 rfl rfl fl_Mo_267_9 hB1.kb rfl ?_
              rw [hB1.i31]
              refine bp_iconst (v := 3) (q := 63) 36 rfl rfl (by decide) ?_
              refine bp_icmp_gt (q := 66) (tgt := 79) 37 rfl rfl (by decide) (fun z63 => ?_) (fun z63 => ?_)
              · exact absurd z63 (by decide)
              · refine bp_iload_n (q := 67) 38 rfl rfl rfl rfl ?_
                refine bp_iconst (v := 1) (q := 68) 39 rfl rfl (by decide) ?_
                refine bp_aload_n (q := 69) 40 rfl rfl rfl rfl ?_
                refine bp_getI (q := 72) (ci := 9) (j := 31) 41 rfl rfl fl_Mo_267_9 hB1.kb rfl ?_
                rw [hB1.i31]
                refine bp_iconst (v := 1) (q := 73) 42 rfl rfl (by decide) ?_
                refine bp_isub (q := 74) 43 rfl rfl ?_
                refine bp_ishl (q := 75) 44 rfl rfl ?_
                refine bp_iadd (q := 76) 45 rfl rfl ?_
                rw [show nI (sy + 8 * sz + 1024 * co) + (1 <<< (nI 1 - 1 &&& 31)) = nI (sy + 1 + 8 * sz + 1024 * co) from by rw [show ((1 : Int32) <<< (nI 1 - 1 &&& 31)) = nI 1 from by decide, nI_add]; congr 1; omega]
                refine bp_goto (tgt := 108) 46 rfl (by decide) ?_
                refine bp_istore_n (q := 109) 64 rfl rfl rfl (by decide) (bp_up1 rfl) ?_
                refine bp_aload_n (q := 110) 65 rfl rfl rfl rfl ?_
                refine bp_callV (q := 113) (ci := 9) 66 rfl rfl cw_Mo_lookAhead lk_Mo_320 rfl hB1.kb wd1576 wd64 rfl rfl (Nat.le_of_ble_eq_true rfl) ⟨Nat.le_of_ble_eq_true rfl, Nat.le_of_ble_eq_true rfl⟩ (s_Mo_lookAhead hB1 hC.1 (by omega) (fun h2 k' n' e' hL' hB2 => ?_))
                refine bp_goto (tgt := 7) 67 rfl (by decide) ?_
                exact ih e k' n' e' _ i0 _ _ _ 1 _ _ (by omega) hB2 ⟨hL', m1.1, s1.symm⟩ (RTI.g1 hI hot) (fun _ => rfl) (fun z => absurd z (by omega)) (by omega)
            · have hot : ot < 2 := RTI.lt2 hI hkl
              have es : stS sy (2 ^ (2 - 1)) false = sy + 2 := stS_add (by have := hI.2.1; show sy < 2; omega)
              rw [if_neg (by decide), if_neg (by decide), if_neg (by decide), es] at s1 m1
              refine bp_callV (q := 42) (ci := 9) 22 rfl rfl cw_Mo_accept lk_Mo_323 rfl hB0.kb wd1615 wd70 rfl rfl (Nat.le_of_ble_eq_true rfl) ⟨Nat.le_of_ble_eq_true rfl, Nat.le_of_ble_eq_true rfl⟩ (s_Mo_accept0 hB0 hn (fun h1 hB1 => ?_))
              refine bp_istore (q := 44) 23 rfl rfl (by decide) (bp_up4 rfl) ?_
              refine bp_aload_n (q := 45) 24 rfl rfl rfl rfl ?_
              refine bp_getI (q := 48) (ci := 9) (j := 31) 25 rfl rfl fl_Mo_267_9 hB1.kb rfl ?_
              rw [hB1.i31]
              refine bp_istore_n (q := 49) 26 rfl rfl rfl (by decide) (bp_up2 rfl) ?_
              refine bp_iload_n (q := 50) 27 rfl rfl rfl rfl ?_
              refine bp_iconst (v := 1) (q := 51) 28 rfl rfl (by decide) ?_
              refine bp_aload_n (q := 52) 29 rfl rfl rfl rfl ?_
              refine bp_getI (q := 55) (ci := 9) (j := 31) 30 rfl rfl fl_Mo_267_9 hB1.kb rfl ?_
              rw [hB1.i31]
              refine bp_ishl (q := 56) 31 rfl rfl ?_
              refine bp_ior (q := 57) 32 rfl rfl ?_
              rw [(or_k ot (by omega)).2.1 hot]
              refine bp_istore_n (q := 58) 33 rfl rfl rfl (by decide) (bp_up3 rfl) ?_
              refine bp_aload_n (q := 59) 34 rfl rfl rfl rfl ?_
              refine bp_getI (q := 62) (ci := 9) (j := 31) 35 rfl rfl fl_Mo_267_9 hB1.kb rfl ?_
              rw [hB1.i31]
              refine bp_iconst (v := 3) (q := 63) 36 rfl rfl (by decide) ?_
              refine bp_icmp_gt (q := 66) (tgt := 79) 37 rfl rfl (by decide) (fun z63 => ?_) (fun z63 => ?_)
              · exact absurd z63 (by decide)
              · refine bp_iload_n (q := 67) 38 rfl rfl rfl rfl ?_
                refine bp_iconst (v := 1) (q := 68) 39 rfl rfl (by decide) ?_
                refine bp_aload_n (q := 69) 40 rfl rfl rfl rfl ?_
                refine bp_getI (q := 72) (ci := 9) (j := 31) 41 rfl rfl fl_Mo_267_9 hB1.kb rfl ?_
                rw [hB1.i31]
                refine bp_iconst (v := 1) (q := 73) 42 rfl rfl (by decide) ?_
                refine bp_isub (q := 74) 43 rfl rfl ?_
                refine bp_ishl (q := 75) 44 rfl rfl ?_
                refine bp_iadd (q := 76) 45 rfl rfl ?_
                rw [show nI (sy + 8 * sz + 1024 * co) + (1 <<< (nI 2 - 1 &&& 31)) = nI (sy + 2 + 8 * sz + 1024 * co) from by rw [show ((1 : Int32) <<< (nI 2 - 1 &&& 31)) = nI 2 from by decide, nI_add]; congr 1; omega]
                refine bp_goto (tgt := 108) 46 rfl (by decide) ?_
                refine bp_istore_n (q := 109) 64 rfl rfl rfl (by decide) (bp_up1 rfl) ?_
                refine bp_aload_n (q := 110) 65 rfl rfl rfl rfl ?_
                refine bp_callV (q := 113) (ci := 9) 66 rfl rfl cw_Mo_lookAhead lk_Mo_320 rfl hB1.kb wd1576 wd64 rfl rfl (Nat.le_of_ble_eq_true rfl) ⟨Nat.le_of_ble_eq_true rfl, Nat.le_of_ble_eq_true rfl⟩ (s_Mo_lookAhead hB1 hC.1 (by omega) (fun h2 k' n' e' hL' hB2 => ?_))
                refine bp_goto (tgt := 7) 67 rfl (by decide) ?_
                exact ih e k' n' e' _ i0 _ _ _ 2 _ _ (by omega) hB2 ⟨hL', m1.1, s1.symm⟩ (RTI.g2 hI hot) (fun _ => rfl) (fun z => absurd z (by omega)) (by omega)
            · have hot : ot < 4 := RTI.lt3 hI hkl
              have es : stS sy (2 ^ (3 - 1)) false = sy + 4 := stS_add (by have := hI.2.1; show sy < 4; omega)
              rw [if_neg (by decide), if_neg (by decide), if_neg (by decide), es] at s1 m1
              refine bp_callV (q := 42) (ci := 9) 22 rfl rfl cw_Mo_accept lk_Mo_323 rfl hB0.kb wd1615 wd70 rfl rfl (Nat.le_of_ble_eq_true rfl) ⟨Nat.le_of_ble_eq_true rfl, Nat.le_of_ble_eq_true rfl⟩ (s_Mo_accept0 hB0 hn (fun h1 hB1 => ?_))
              refine bp_istore (q := 44) 23 rfl rfl (by decide) (bp_up4 rfl) ?_
              refine bp_aload_n (q := 45) 24 rfl rfl rfl rfl ?_
              refine bp_getI (q := 48) (ci := 9) (j := 31) 25 rfl rfl fl_Mo_267_9 hB1.kb rfl ?_
              rw [hB1.i31]
              refine bp_istore_n (q := 49) 26 rfl rfl rfl (by decide) (bp_up2 rfl) ?_
              refine bp_iload_n (q := 50) 27 rfl rfl rfl rfl ?_
              refine bp_iconst (v := 1) (q := 51) 28 rfl rfl (by decide) ?_
              refine bp_aload_n (q := 52) 29 rfl rfl rfl rfl ?_
              refine bp_getI (q := 55) (ci := 9) (j := 31) 30 rfl rfl fl_Mo_267_9 hB1.kb rfl ?_
              rw [hB1.i31]
              refine bp_ishl (q := 56) 31 rfl rfl ?_
              refine bp_ior (q := 57) 32 rfl rfl ?_
              rw [(or_k ot (by omega)).2.2.1 hot]
              refine bp_istore_n (q := 58) 33 rfl rfl rfl (by decide) (bp_up3 rfl) ?_
              refine bp_aload_n (q := 59) 34 rfl rfl rfl rfl ?_
              refine bp_getI (q := 62) (ci := 9) (j := 31) 35 rfl rfl fl_Mo_267_9 hB1.kb rfl ?_
              rw [hB1.i31]
              refine bp_iconst (v := 3) (q := 63) 36 rfl rfl (by decide) ?_
              refine bp_icmp_gt (q := 66) (tgt := 79) 37 rfl rfl (by decide) (fun z63 => ?_) (fun z63 => ?_)
              · exact absurd z63 (by decide)
              · refine bp_iload_n (q := 67) 38 rfl rfl rfl rfl ?_
                refine bp_iconst (v := 1) (q := 68) 39 rfl rfl (by decide) ?_
                refine bp_aload_n (q := 69) 40 rfl rfl rfl rfl ?_
                refine bp_getI (q := 72) (ci := 9) (j := 31) 41 rfl rfl fl_Mo_267_9 hB1.kb rfl ?_
                rw [hB1.i31]
                refine bp_iconst (v := 1) (q := 73) 42 rfl rfl (by decide) ?_
                refine bp_isub (q := 74) 43 rfl rfl ?_
                refine bp_ishl (q := 75) 44 rfl rfl ?_
                refine bp_iadd (q := 76) 45 rfl rfl ?_
                rw [show nI (sy + 8 * sz + 1024 * co) + (1 <<< (nI 3 - 1 &&& 31)) = nI (sy + 4 + 8 * sz + 1024 * co) from by rw [show ((1 : Int32) <<< (nI 3 - 1 &&& 31)) = nI 4 from by decide, nI_add]; congr 1; omega]
                refine bp_goto (tgt := 108) 46 rfl (by decide) ?_
                refine bp_istore_n (q := 109) 64 rfl rfl rfl (by decide) (bp_up1 rfl) ?_
                refine bp_aload_n (q := 110) 65 rfl rfl rfl rfl ?_
                refine bp_callV (q := 113) (ci := 9) 66 rfl rfl cw_Mo_lookAhead lk_Mo_320 rfl hB1.kb wd1576 wd64 rfl rfl (Nat.le_of_ble_eq_true rfl) ⟨Nat.le_of_ble_eq_true rfl, Nat.le_of_ble_eq_true rfl⟩ (s_Mo_lookAhead hB1 hC.1 (by omega) (fun h2 k' n' e' hL' hB2 => ?_))
                refine bp_goto (tgt := 7) 67 rfl (by decide) ?_
                exact ih e k' n' e' _ i0 _ _ _ 3 _ _ (by omega) hB2 ⟨hL', m1.1, s1.symm⟩ (RTI.g3 hI hot) (fun _ => rfl) (fun z => absurd z (by omega)) (by omega)
            · have hot : ot < 8 := RTI.lt4 hI hkl
              obtain ⟨nv, v1, v2, v3⟩ := (hr.2.2.2.2.2.2.2.resolve_left (fun z => hn z.1)).2.2.1 rfl
              rw [if_pos (Or.inl rfl), if_pos rfl, if_neg (by decide)] at s1 m1
              refine bp_callV (q := 42) (ci := 9) 22 rfl rfl cw_Mo_accept lk_Mo_323 rfl hB0.kb wd1615 wd70 rfl rfl (Nat.le_of_ble_eq_true rfl) ⟨Nat.le_of_ble_eq_true rfl, Nat.le_of_ble_eq_true rfl⟩ (s_Mo_accept0 hB0 hn (fun h1 hB1 => ?_))
              refine bp_istore (q := 44) 23 rfl rfl (by decide) (bp_up4 rfl) ?_
              refine bp_aload_n (q := 45) 24 rfl rfl rfl rfl ?_
              refine bp_getI (q := 48) (ci := 9) (j := 31) 25 rfl rfl fl_Mo_267_9 hB1.kb rfl ?_
              rw [hB1.i31]
              refine bp_istore_n (q := 49) 26 rfl rfl rfl (by decide) (bp_up2 rfl) ?_
              refine bp_iload_n (q := 50) 27 rfl rfl rfl rfl ?_
              refine bp_iconst (v := 1) (q := 51) 28 rfl rfl (by decide) ?_
              refine bp_aload_n (q := 52) 29 rfl rfl rfl rfl ?_
              refine bp_getI (q := 55) (ci := 9) (j := 31) 30 rfl rfl fl_Mo_267_9 hB1.kb rfl ?_
              rw [hB1.i31]
              refine bp_ishl (q := 56) 31 rfl rfl ?_
              refine bp_ior (q := 57) 32 rfl rfl ?_
              rw [(or_k ot (by omega)).2.2.2.1 hot]
              refine bp_istore_n (q := 58) 33 rfl rfl rfl (by decide) (bp_up3 rfl) ?_
              refine bp_aload_n (q := 59) 34 rfl rfl rfl rfl ?_
              refine bp_getI (q := 62) (ci := 9) (j := 31) 35 rfl rfl fl_Mo_267_9 hB1.kb rfl ?_
              rw [hB1.i31]
              refine bp_iconst (v := 3) (q := 63) 36 rfl rfl (by decide) ?_
              refine bp_icmp_gt (q := 66) (tgt := 79) 37 rfl rfl (by decide) (fun z63 => ?_) (fun z63 => ?_)
              · refine bp_aload_n (q := 80) 47 rfl rfl rfl rfl ?_
                refine bp_getI (q := 83) (ci := 9) (j := 31) 48 rfl rfl fl_Mo_267_9 hB1.kb rfl ?_
                rw [hB1.i31]
                refine bp_iconst (v := 4) (q := 84) 49 rfl rfl (by decide) ?_
                refine bp_icmp_ne (q := 87) (tgt := 100) 50 rfl rfl (by decide) (fun z84 => ?_) (fun z84 => ?_)
                · exact absurd rfl z84
                · refine bp_iload_n (q := 88) 51 rfl rfl rfl rfl ?_
                  refine bp_bipush (v := 96) (q := 90) 52 rfl rfl (by decide) ?_
                  refine bp_isub (q := 91) 53 rfl rfl ?_
                  refine bp_bipush (v := 8) (q := 93) 54 rfl rfl (by decide) ?_
                  refine bp_iload (q := 95) 55 rfl rfl rfl ?_
                  refine bp_imul (q := 96) 56 rfl rfl ?_
                  refine bp_iadd (q := 97) 57 rfl rfl ?_
                  have hsz := hI.2.2.1 hot
                  have hco := hI.2.2.2.1 (by omega)
                  rw [show nI (sy + 8 * sz + 1024 * co) - 96 + 8 * n = nI (sy + 8 * tnV T (i + 3) + 1024 * co) from by rw [nv, show (96 : Int32) = nI 96 from rfl, nI_sub (by omega), show (8 : Int32) = nI 8 from rfl, nI_mul, nI_add]; congr 1; omega]
                  refine bp_goto (tgt := 108) 58 rfl (by decide) ?_
                  refine bp_istore_n (q := 109) 64 rfl rfl rfl (by decide) (bp_up1 rfl) ?_
                  refine bp_aload_n (q := 110) 65 rfl rfl rfl rfl ?_
                  refine bp_callV (q := 113) (ci := 9) 66 rfl rfl cw_Mo_lookAhead lk_Mo_320 rfl hB1.kb wd1576 wd64 rfl rfl (Nat.le_of_ble_eq_true rfl) ⟨Nat.le_of_ble_eq_true rfl, Nat.le_of_ble_eq_true rfl⟩ (s_Mo_lookAhead hB1 hC.1 (by omega) (fun h2 k' n' e' hL' hB2 => ?_))
                  refine bp_goto (tgt := 7) 67 rfl (by decide) ?_
                  exact ih e k' n' e' _ i0 _ _ _ 4 _ _ (by omega) hB2 ⟨hL', m1.1, s1.symm⟩ (RTI.g4 hI hot v1 v2 v3) (fun _ => rfl) (fun z => absurd z (by omega)) (by omega)
              · exact absurd (by decide) z63
            · have hot : ot < 16 := RTI.lt5 hI hkl
              obtain ⟨nv, v1, v2⟩ := (hr.2.2.2.2.2.2.2.resolve_left (fun z => hn z.1)).2.2.2 rfl
              rw [if_pos (Or.inr rfl), if_neg (by decide), if_pos rfl] at s1 m1
              refine bp_callV (q := 42) (ci := 9) 22 rfl rfl cw_Mo_accept lk_Mo_323 rfl hB0.kb wd1615 wd70 rfl rfl (Nat.le_of_ble_eq_true rfl) ⟨Nat.le_of_ble_eq_true rfl, Nat.le_of_ble_eq_true rfl⟩ (s_Mo_accept0 hB0 hn (fun h1 hB1 => ?_))
              refine bp_istore (q := 44) 23 rfl rfl (by decide) (bp_up4 rfl) ?_
              refine bp_aload_n (q := 45) 24 rfl rfl rfl rfl ?_
              refine bp_getI (q := 48) (ci := 9) (j := 31) 25 rfl rfl fl_Mo_267_9 hB1.kb rfl ?_
              rw [hB1.i31]
              refine bp_istore_n (q := 49) 26 rfl rfl rfl (by decide) (bp_up2 rfl) ?_
              refine bp_iload_n (q := 50) 27 rfl rfl rfl rfl ?_
              refine bp_iconst (v := 1) (q := 51) 28 rfl rfl (by decide) ?_
              refine bp_aload_n (q := 52) 29 rfl rfl rfl rfl ?_
              refine bp_getI (q := 55) (ci := 9) (j := 31) 30 rfl rfl fl_Mo_267_9 hB1.kb rfl ?_
              rw [hB1.i31]
              refine bp_ishl (q := 56) 31 rfl rfl ?_
              refine bp_ior (q := 57) 32 rfl rfl ?_
              rw [(or_k ot (by omega)).2.2.2.2 hot]
              refine bp_istore_n (q := 58) 33 rfl rfl rfl (by decide) (bp_up3 rfl) ?_
              refine bp_aload_n (q := 59) 34 rfl rfl rfl rfl ?_
              refine bp_getI (q := 62) (ci := 9) (j := 31) 35 rfl rfl fl_Mo_267_9 hB1.kb rfl ?_
              rw [hB1.i31]
              refine bp_iconst (v := 3) (q := 63) 36 rfl rfl (by decide) ?_
              refine bp_icmp_gt (q := 66) (tgt := 79) 37 rfl rfl (by decide) (fun z63 => ?_) (fun z63 => ?_)
              · refine bp_aload_n (q := 80) 47 rfl rfl rfl rfl ?_
                refine bp_getI (q := 83) (ci := 9) (j := 31) 48 rfl rfl fl_Mo_267_9 hB1.kb rfl ?_
                rw [hB1.i31]
                refine bp_iconst (v := 4) (q := 84) 49 rfl rfl (by decide) ?_
                refine bp_icmp_ne (q := 87) (tgt := 100) 50 rfl rfl (by decide) (fun z84 => ?_) (fun z84 => ?_)
                · refine bp_iload_n (q := 101) 59 rfl rfl rfl rfl ?_
                  refine bp_sipush (v := 1024) (q := 104) 60 rfl rfl (by decide) ?_
                  refine bp_iload (q := 106) 61 rfl rfl rfl ?_
                  refine bp_imul (q := 107) 62 rfl rfl ?_
                  refine bp_iadd (q := 108) 63 rfl rfl ?_
                  have hco := hI.2.2.2.1 hot
                  rw [show nI (sy + 8 * sz + 1024 * co) + 1024 * n = nI (sy + 8 * sz + 1024 * tnV T (i + 3)) from by rw [nv, show (1024 : Int32) = nI 1024 from rfl, nI_mul, nI_add]; congr 1; omega]
                  refine bp_istore_n (q := 109) 64 rfl rfl rfl (by decide) (bp_up1 rfl) ?_
                  refine bp_aload_n (q := 110) 65 rfl rfl rfl rfl ?_
                  refine bp_callV (q := 113) (ci := 9) 66 rfl rfl cw_Mo_lookAhead lk_Mo_320 rfl hB1.kb wd1576 wd64 rfl rfl (Nat.le_of_ble_eq_true rfl) ⟨Nat.le_of_ble_eq_true rfl, Nat.le_of_ble_eq_true rfl⟩ (s_Mo_lookAhead hB1 hC.1 (by omega) (fun h2 k' n' e' hL' hB2 => ?_))
                  refine bp_goto (tgt := 7) 67 rfl (by decide) ?_
                  exact ih e k' n' e' _ i0 _ _ _ 5 _ _ (by omega) hB2 ⟨hL', m1.1, s1.symm⟩ (RTI.g5 hI hot v1 v2) (fun _ => rfl) (fun z => absurd z (by omega)) (by omega)
                · exact absurd (by first | exact z84 | exact Classical.not_not.mp z84) (by decide)
              · exact absurd (by decide) z63
set_option maxRecDepth 100000 in
set_option maxHeartbeats 4000000 in
theorem s_Mo_readTags {k e rs : Nat} {n : Int32} (hB0 : MoX M h0 h tw i 0 fm tl lk al ind sk dp lv fr en nf nn dg nu k n e T xs L ps L1 p1 nt tb fd) (hC : okC T) (hG : TGd T R i k n e 0 rs false false 0 12 0 L1 p1 x y) (hQ1 : ∀ h' i' k' n' e' ot rs' sy sz co lst, MoX M h0 h' tw i' 0 fm tl lk al ind sk dp lv fr en nf nn dg nu k' n' e' T xs L ps L1 p1 nt tb fd → TGd T R i' k' n' e' ot rs' false false sy sz co L1 p1 x y → RTI ot sy sz co lst → ¬ (1 ≤ k' ∧ k' ≤ 5 ∧ lst < k') → (ot ≠ 0 → rs' = i) → (ot = 0 → i' = i ∧ k' = k) → i ≤ i' → Q (some (.int (nI ((sy + 8 * sz + 1024 * co) * 64 + 2 * ot)))) h' c s) (hQ0 : ∀ h' v, TBd M h0 h' tw tl lk al ind sk dp lv fr en nf nn dg nu T xs L ps nt tb fd R → Q (some (.int v)) h' c s) : bp_AM l G H0 (6, 135, false, false) M_Mo_readTags h c s [.ref (M 0)] Q := by
  refine bp_of (ls := [some (.ref (M 0)), none, none, none, none]) (by decide) dt_Mo_readTags (Nat.le_of_ble_eq_true rfl) (fun q hq => hq) false ?_
  refine bp_bipush (v := 96) (q := 2) 0 rfl rfl (by decide) ?_
  refine bp_istore_n (q := 3) 1 rfl rfl rfl (by decide) (bp_up1 rfl) ?_
  refine bp_iconst (v := 0) (q := 4) 2 rfl rfl (by decide) ?_
  refine bp_istore_n (q := 5) 3 rfl rfl rfl (by decide) (bp_up2 rfl) ?_
  refine bp_iconst (v := 0) (q := 6) 4 rfl rfl (by decide) ?_
  refine bp_istore_n (q := 7) 5 rfl rfl rfl (by decide) (bp_up3 rfl) ?_
  exact lp_Mo_rt hC hQ1 hQ0 T.length i k n e 0 rs 0 12 0 0 _ _ (by omega) hB0 hG (⟨by omega, rfl, fun _ => rfl, fun _ => rfl, fun z => absurd rfl z, by decide, by decide, by decide⟩) (fun z => absurd rfl z) (fun _ => ⟨rfl, rfl⟩) (Nat.le_refl _)
end MO28
