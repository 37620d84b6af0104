/-! the reference obeys a word -/
section BO
variable {i th d w : Nat} {n fa me : Int32} {b fr it en : Bool} {v : Nat → Nat} {nt : List (Nat → Nat)} {tb nm : List Nat} {L : List (Nat × Nat)} {ps : List (Nat × Nat × Nat)}
theorem bO_u {lv : Nat} : bObey th b w n d (i, fa, me, lv, fr, it, en, v, nt, tb, nm, L, ps) = (if lv ≠ 0 then (i, fa, me, lv - 1, fr, it, en, v, nt, tb, nm, L, ps) else if nfit tb w n d = false then (i, -5, nI th, lv - 1, fr, it, en, v, nt, tb, nm, L, ps) else if w = 12 then bPar th (v 3) (v 4) (i, fa, me, lv - 1, fr, it, en, v, nt, tb, nm, L, ps) else if w = 14 then (i, fa, me, v 5, fr, it, en, v, nt, tb, nm, L ++ [(n.toNatClampNeg, lkV v)], ps) else if w = 15 then (if b then (i, fa, me, lv - 1, fr, true, en, v, nt, [], [], L, ps) else (i, fa, me, lv - 1, fr, it, en, v, nt, tb, nm, L, ps)) else (i, fa, me, lv - 1, fr, it, en, vW tb v w n d, nt, tb, nm, L, ps)) := rfl
theorem n00 : ¬ (0 : Nat) ≠ 0 := by decide
theorem bO_f (h : nfit tb w n d = false) : bObey th b w n d (i, fa, me, 0, fr, it, en, v, nt, tb, nm, L, ps) = (i, -5, nI th, 0, fr, it, en, v, nt, tb, nm, L, ps) := by
  rw [bO_u, if_neg n00, if_pos h]
theorem bO_s (h : nfit tb w n d = true) (h1 : w ≠ 12) (h2 : w ≠ 14) (h3 : w ≠ 15) : bObey th b w n d (i, fa, me, 0, fr, it, en, v, nt, tb, nm, L, ps) = (i, fa, me, 0, fr, it, en, vW tb v w n d, nt, tb, nm, L, ps) := by
  rw [bO_u, if_neg n00, if_neg (by rw [h]; decide), if_neg h1, if_neg h2, if_neg h3]
theorem bO_12 (h : nfit tb 12 n d = true) : bObey th b 12 n d (i, fa, me, 0, fr, it, en, v, nt, tb, nm, L, ps) = bPar th (v 3) (v 4) (i, fa, me, 0, fr, it, en, v, nt, tb, nm, L, ps) := by
  rw [bO_u, if_neg n00, if_neg (by rw [h]; decide), if_pos rfl]
theorem bO_14 (h : nfit tb 14 n d = true) : bObey th b 14 n d (i, fa, me, 0, fr, it, en, v, nt, tb, nm, L, ps) = (i, fa, me, v 5, fr, it, en, v, nt, tb, nm, L ++ [(n.toNatClampNeg, lkV v)], ps) := by
  rw [bO_u, if_neg n00, if_neg (by rw [h]; decide), if_neg (by decide), if_pos rfl]
theorem nf_15 : nfit tb 15 n d = true := if_pos (Or.inr rfl)
theorem nf_0 : nfit tb 0 n d = true := if_pos (Or.inl rfl)
theorem bO_15t : bObey th true 15 n d (i, fa, me, 0, fr, it, en, v, nt, tb, nm, L, ps) = (i, fa, me, 0, fr, true, en, v, nt, [], [], L, ps) := by
  rw [bO_u, if_neg n00, if_neg (by rw [nf_15]; decide), if_neg (by decide), if_neg (by decide), if_pos rfl, if_pos rfl]
theorem bO_15f : bObey th false 15 n d (i, fa, me, 0, fr, it, en, v, nt, tb, nm, L, ps) = (i, fa, me, 0, fr, it, en, v, nt, tb, nm, L, ps) := by
  rw [bO_u, if_neg n00, if_neg (by rw [nf_15]; decide), if_neg (by decide), if_neg (by decide), if_pos rfl, if_neg (by decide)]
theorem nf_big (h0 : w ≠ 0) (h1 : w ≠ 15) (h : 5 < d) : nfit tb w n d = false := by
  unfold nfit
  rw [if_neg (fun z => z.elim h0 h1), if_pos h]
theorem nf_any (hw : w = 6 ∨ w = 7 ∨ w = 8 ∨ w = 9 ∨ w = 11 ∨ w = 12 ∨ w = 1 ∨ w = 2 ∨ w = 3) (h : d ≤ 5) : nfit tb w n d = true := by
  unfold nfit
  rw [if_neg (by omega), if_neg (by omega)]
  by_cases e : d = 0
  · rw [if_pos e, decide_eq_true (by omega)]
  · rw [if_neg e, if_neg (by omega), if_neg (by omega), if_neg (by omega), if_neg (by omega), if_neg (by omega)]
theorem nf_r {o lo hi : Int32} (h0 : w ≠ 0) (h1 : w ≠ 15) (ho : decide (w ≠ 14) = wi o lo hi) (hn : (if w = 4 then wi n 1 99 else if w = 5 then decide (¬ (n < 0 ∨ nI tb.length ≤ n)) else if w = 10 then wi n 0 9 else if w = 13 then wi n 0 9 else if w = 14 then wi n 32 255 else true) = wi n lo hi) (h : d ≤ 5) : nfit tb w n d = wi (bdN d n o) lo hi := by
  unfold nfit bdN
  rw [if_neg (fun z => z.elim h0 h1), if_neg (by omega)]
  by_cases e : d = 0
  · rw [if_pos e, if_pos e]; exact ho
  · rw [if_neg e, if_neg e]; exact hn
theorem wi_i {x lo hi : Int32} : wi x lo hi = true ↔ lo ≤ x ∧ x ≤ hi := by
  unfold wi
  rw [Bool.and_eq_true, decide_eq_true_eq, decide_eq_true_eq]
/-- the number of a word fits, as the reference asks it -/
theorem nf_no {o lo hi nu : Int32} (h0 : w ≠ 0) (h1 : w ≠ 15) (hr : d ≤ 5 → nfit tb w n d = wi (bdN d n o) lo hi) (hnu : d ≤ 5 → nu = n) (h : 5 < d ∨ bdN d nu o < lo ∨ hi < bdN d nu o) : nfit tb w n d = false := by
  by_cases hd : 5 < d
  · exact nf_big h0 h1 hd
  · rw [hr (by omega)]
    rw [hnu (by omega)] at h
    refine Bool.eq_false_iff.mpr (fun z => ?_)
    have q := wi_i.mp z
    rcases h with z | z | z
    · exact hd z
    · exact absurd q.1 (Int32.not_le.mpr z)
    · exact absurd q.2 (Int32.not_le.mpr z)
theorem nf_yes {o lo hi nu : Int32} (hr : d ≤ 5 → nfit tb w n d = wi (bdN d n o) lo hi) (hnu : d ≤ 5 → nu = n) (hd : d ≤ 5) (h1 : lo ≤ bdN d nu o) (h2 : bdN d nu o ≤ hi) : nfit tb w n d = true := by
  rw [hr hd]
  rw [hnu hd] at h1 h2
  exact wi_i.mpr ⟨h1, h2⟩
theorem nf_4 (h : d ≤ 5) : nfit tb 4 n d = wi (bdN d n 12) 1 99 := nf_r (by decide) (by decide) (by decide) rfl h
theorem nf_10 (h : d ≤ 5) : nfit tb 10 n d = wi (bdN d n 0) 0 9 := nf_r (by decide) (by decide) (by decide) rfl h
theorem nf_13 (h : d ≤ 5) : nfit tb 13 n d = wi (bdN d n 1) 0 9 := nf_r (by decide) (by decide) (by decide) rfl h
theorem nf_14 (h : d ≤ 5) : nfit tb 14 n d = wi (bdN d n 0) 32 255 := nf_r (by decide) (by decide) (by decide) rfl h
theorem nf_5 (ht : tb ≠ []) (hl : tb.length ≤ 8) (h : d ≤ 5) : nfit tb 5 n d = wi (bdN d n 0) 0 (nI (tb.length - 1)) := by
  have hp : 0 < tb.length := List.length_pos_iff.mpr ht
  refine nf_r (by decide) (by decide) ?_ ?_ h
  · rw [show decide (5 ≠ 14) = true from rfl]
    exact (wi_i.mpr ⟨Int32.le_refl _, (nI_le_iff (a := 0) (by decide) (by omega)).mpr (Nat.zero_le _)⟩).symm
  · show decide (¬ (n < 0 ∨ nI tb.length ≤ n)) = wi n 0 (nI (tb.length - 1))
    rw [Bool.eq_iff_iff, decide_eq_true_eq, wi_i]
    constructor
    · intro z
      have a : ¬ n < 0 := fun q => z (Or.inl q)
      obtain ⟨k, hk, rfl⟩ := nI_of a
      have c : ¬ tb.length ≤ k := fun q => z (Or.inr ((nI_leI (by omega) hk).mpr q))
      exact ⟨Int32.not_lt.mp a, (nI_leI hk (by omega)).mpr (by omega)⟩
    · intro ⟨a, c⟩ z
      obtain ⟨k, hk, rfl⟩ := nI_of (Int32.not_lt.mpr a)
      have c := (nI_leI hk (by omega)).mp c
      rcases z with q | q
      · exact absurd a (Int32.not_le.mpr q)
      · have := (nI_leI (by omega) hk).mp q
        omega
theorem nf_1 (hw : w = 1 ∨ w = 2 ∨ w = 3) (hn : wi n (-99999) 99999 = true) (h : d ≤ 5) : nfit tb w n d = wi (bdN d n 1) (-99999) 99999 := by
  refine nf_r (by omega) (by omega) ?_ ?_ h
  · rw [decide_eq_true (by omega)]; decide
  · rw [hn, if_neg (by omega), if_neg (by omega), if_neg (by omega), if_neg (by omega), if_neg (by omega)]
theorem mlV_lt (h : okV v) : mlV v < 8192 := by
  obtain ⟨h0, h1, h2, h3, -⟩ := h
  unfold mlV
  omega
theorem mlV_u0 {x bb : Nat} {o : Bool} (h : okV v) : mlV v - mlV v % 8 + stS (mlV v % 8) bb o = mlV (bp_u1 v 0 (stS (v 0) bb o)) := by
  obtain ⟨h0, h1, h2, h3, -⟩ := h
  have e : mlV v % 8 = v 0 := by unfold mlV; omega
  rw [e]
  show v 0 + 8 * v 1 + 1024 * v 2 - v 0 + stS (v 0) bb o = stS (v 0) bb o + 8 * v 1 + 1024 * v 2
  omega
theorem mlV_u1 {a : Nat} (h : okV v) : mlV v % 8 + 8 * a + mlV v / 1024 * 1024 = mlV (bp_u1 v 1 a) := by
  obtain ⟨h0, h1, h2, h3, -⟩ := h
  have e : mlV v % 8 = v 0 := by unfold mlV; omega
  have e2 : mlV v / 1024 = v 2 := by unfold mlV; omega
  rw [e, e2]
  show v 0 + 8 * a + v 2 * 1024 = v 0 + 8 * a + 1024 * v 2
  omega
theorem mlV_u2 {a : Nat} (h : okV v) : mlV v % 1024 + 1024 * a = mlV (bp_u1 v 2 a) := by
  obtain ⟨h0, h1, h2, h3, -⟩ := h
  have e : mlV v % 1024 = v 0 + 8 * v 1 := by unfold mlV; omega
  rw [e]
  rfl
theorem m1024 {m : Nat} (h : m < 8192) : nI m - nI m / 1024 * 1024 = nI (m % 1024) := by
  rw [cm_1 m h, show (1024 : Int32) = nI 1024 from rfl, nI_mul, nI_sub (by omega)]
  congr 1
  omega
end BO
theorem wdf_16 (T : List Nat) (u x : Nat) : wdf T u x 15 1 < 16 := by
  rcases wdf_le T u x 15 1 with h | h <;> omega
section MO21
variable {l : Launch} {G : bp_G} {H0 : Heap} {M : Nat → Nat} {h0 h : bp_H} {tw : Int32} {i : Nat} {fa : Int32} {fm : Int32} {tl : Int32} {lk : Nat} {al : Nat} {ind : Nat} {sk : Nat} {dp : Nat} {lv : Nat} {fr : Bool} {en : Nat} {nf : Nat} {nn : Nat} {dg : Nat} {nu : Int32} {kd : Nat} {pn : Int32} {pe : Nat} {T : List Nat} {xs : List Nat} {L : List (Nat × Nat)} {ps : List (Nat × Nat × Nat)} {L1 : List (Nat × Nat)} {p1 : List (Nat × Nat × Nat)} {nt : List (Nat → Nat)} {tb : List Nat} {fd : List Nat} {c s : Nat} {Q : Option Value → bp_H → Nat → Nat → Prop} {v : Nat → Nat} {j th : Nat} {n : Int32} {b : Bool} {nm : List Nat}
set_option maxRecDepth 100000 in
set_option maxHeartbeats 4000000 in
theorem s_Mo_obeyPlace  (hB0 : MoX M h0 h tw i 0 fm tl (mlV v) (v 3) (v 4) (v 5) nt.length 0 false tb.length nf nn dg nu kd pn pe T xs L ps L1 p1 nt tb fd) (hw1 : ¬ wdf T nf nn 15 1 = 1) (hw2 : ¬ wdf T nf nn 15 1 = 2) (hw3 : ¬ wdf T nf nn 15 1 = 3) (hw4 : ¬ wdf T nf nn 15 1 = 4) (hw5 : ¬ wdf T nf nn 15 1 = 5) (hw10 : ¬ wdf T nf nn 15 1 = 10) (hw13 : ¬ wdf T nf nn 15 1 = 13) (hw14 : ¬ wdf T nf nn 15 1 = 14) (hw15 : ¬ wdf T nf nn 15 1 = 15) (hT : okT T) (hnt : ¬ nt = []) (hp16 : p1.length ≤ 16) (hdg : dg < 1000000) (hu : nf < 100000) (hv : nn < 100000) (huv : nf ≤ nn) (hoN : okN T j (bObey th b (wdf T nf nn 15 1) n dg (i, 0, -1, 0, false, false, false, v, nt, tb, nm, L1, p1))) (hQ : ∀ h', OUTB M h0 h' tw tl kd pn pe T xs L ps (bObey th b (wdf T nf nn 15 1) n dg (i, 0, -1, 0, false, false, false, v, nt, tb, nm, L1, p1)) j → Q none h' c s) : bp_AM l G H0 (3, 70, false, false) M_Mo_obeyPlace h c s [.ref (M 0), .int (nI th)] Q := by
  refine bp_of (ls := [some (.ref (M 0)), some (.int (nI th)), none]) (by decide) dt_Mo_obeyPlace (Nat.le_of_ble_eq_true rfl) (fun q hq => hq) false ?_
  refine bp_aload_n (q := 1) 0 rfl rfl rfl rfl ?_
  refine bp_ldc2 (q := 4) 1 rfl rfl wd1545 ?_
  refine bp_callV (q := 7) (ci := 9) 2 rfl rfl cw_Mo_word lk_Mo_197 rfl hB0.kb wd1492 wd53 rfl rfl (Nat.le_of_ble_eq_true rfl) ⟨Nat.le_of_ble_eq_true rfl, Nat.le_of_ble_eq_true rfl⟩ (s_Mo_word (ro := false) (k := 6) hB0 hT lt_233 (by decide) hu hv huv ?_)
  refine bp_if_ne (q := 10) (tgt := 60) 3 rfl rfl (by decide) (fun z7 => ?_) (fun z7 => ?_)
  · refine bp_iconst (v := 1) (q := 61) 24 rfl rfl (by decide) ?_
    have hW : wdf T nf nn 15 1 = 6 := of_decide_eq_true (bI1 z7)
    refine bp_goto (tgt := 65) 25 rfl (by decide) ?_
    refine bp_istore_n (q := 66) 27 rfl rfl rfl (by decide) (bp_up2 rfl) ?_
    refine bp_iload_n (q := 67) 28 rfl rfl rfl rfl ?_
    refine bp_if_ne (q := 70) (tgt := 71) 29 rfl rfl (by decide) (fun z67 => ?_) (fun z => absurd z (by decide))
    refine bp_aload_n (q := 72) 31 rfl rfl rfl rfl ?_
    refine bp_aload_n (q := 73) 32 rfl rfl rfl rfl ?_
    refine bp_getI (q := 76) (ci := 9) (j := 29) 33 rfl rfl fl_Mo_185_9 hB0.kb rfl ?_
    rw [hB0.i29]
    refine bp_iconst (v := 5) (q := 77) 34 rfl rfl (by decide) ?_
    refine bp_icmp_le (q := 80) (tgt := 84) 35 rfl rfl (by decide) (fun z77 => ?_) (fun z77 => ?_)
    · refine bp_iconst (v := 0) (q := 85) 38 rfl rfl (by decide) ?_
      refine bp_bipush (v := -5) (q := 87) 39 rfl rfl (by decide) ?_
      refine bp_iload_n (q := 88) 40 rfl rfl rfl rfl ?_
      refine bp_callV (q := 91) (ci := 9) 41 rfl rfl cw_Mo_failIf lk_Mo_118 rfl hB0.kb wd1449 wd44 rfl rfl (Nat.le_of_ble_eq_true rfl) ⟨Nat.le_of_ble_eq_true rfl, Nat.le_of_ble_eq_true rfl⟩ (s_Mo_failIfN hB0 rfl ?_)
      refine bp_aload_n (q := 92) 42 rfl rfl rfl rfl ?_
      refine bp_aload_n (q := 93) 43 rfl rfl rfl rfl ?_
      refine bp_ldc2 (q := 96) 44 rfl rfl wd1545 ?_
      refine bp_callV (q := 99) (ci := 9) 45 rfl rfl cw_Mo_word lk_Mo_197 rfl hB0.kb wd1492 wd53 rfl rfl (Nat.le_of_ble_eq_true rfl) ⟨Nat.le_of_ble_eq_true rfl, Nat.le_of_ble_eq_true rfl⟩ (s_Mo_word (ro := false) (k := 6) hB0 hT lt_233 (by decide) hu hv huv ?_)
      refine bp_if_eq (q := 102) (tgt := 107) 46 rfl rfl (by decide) (fun z99 => ?_) (fun z99 => ?_)
      · exact absurd (bI0.mp (by first | exact z99 | exact Classical.not_not.mp z99)) (by rw [hW]; decide)
      · refine bp_bipush (v := 96) (q := 104) 47 rfl rfl (by decide) ?_
        refine bp_goto (tgt := 111) 48 rfl (by decide) ?_
        refine bp_putI (q := 114) (ci := 9) (j := 16) 51 rfl rfl fl_Mo_96_9 cl9 hB0.kb (fun r hr => by cases hr; rfl) (by decide) rfl rfl ?_
        refine bp_nx (X := fun h1 => MoX M h0 h1 tw i 0 fm tl 96 (v 3) (v 4) (v 5) nt.length 0 false tb.length nf nn dg nu kd pn pe T xs L ps L1 p1 nt tb fd) (hB0.s16 rfl) (fun h1 hB1 => ?_)
        refine bp_aload_n (q := 115) 52 rfl rfl rfl rfl ?_
        refine bp_aload_n (q := 116) 53 rfl rfl rfl rfl ?_
        refine bp_ldc2 (q := 119) 54 rfl rfl wd1548 ?_
        refine bp_callV (q := 122) (ci := 9) 55 rfl rfl cw_Mo_word lk_Mo_197 rfl hB1.kb wd1492 wd53 rfl rfl (Nat.le_of_ble_eq_true rfl) ⟨Nat.le_of_ble_eq_true rfl, Nat.le_of_ble_eq_true rfl⟩ (s_Mo_word (ro := false) (k := 7) hB1 hT lt_239 (by decide) hu hv huv ?_)
        refine bp_if_ne (q := 125) (tgt := 135) 56 rfl rfl (by decide) (fun z122 => ?_) (fun z122 => ?_)
        · exact absurd (bI1 z122) (by rw [hW]; decide)
        · refine bp_aload_n (q := 126) 57 rfl rfl rfl rfl ?_
          refine bp_ldc2 (q := 129) 58 rfl rfl wd1546 ?_
          refine bp_callV (q := 132) (ci := 9) 59 rfl rfl cw_Mo_word lk_Mo_197 rfl hB1.kb wd1492 wd53 rfl rfl (Nat.le_of_ble_eq_true rfl) ⟨Nat.le_of_ble_eq_true rfl, Nat.le_of_ble_eq_true rfl⟩ (s_Mo_word (ro := false) (k := 11) hB1 hT lt_235 (by decide) hu hv huv ?_)
          refine bp_if_eq (q := 135) (tgt := 139) 60 rfl rfl (by decide) (fun z132 => ?_) (fun z132 => ?_)
          · refine bp_aload_n (q := 140) 63 rfl rfl rfl rfl ?_
            refine bp_ldc2 (q := 143) 64 rfl rfl wd1549 ?_
            refine bp_callV (q := 146) (ci := 9) 65 rfl rfl cw_Mo_word lk_Mo_197 rfl hB1.kb wd1492 wd53 rfl rfl (Nat.le_of_ble_eq_true rfl) ⟨Nat.le_of_ble_eq_true rfl, Nat.le_of_ble_eq_true rfl⟩ (s_Mo_word (ro := false) (k := 8) hB1 hT lt_241 (by decide) hu hv huv ?_)
            refine bp_if_eq (q := 149) (tgt := 153) 66 rfl rfl (by decide) (fun z146 => ?_) (fun z146 => ?_)
            · refine bp_aload_n (q := 154) 69 rfl rfl rfl rfl ?_
              refine bp_ldc2 (q := 157) 70 rfl rfl wd1550 ?_
              refine bp_callV (q := 160) (ci := 9) 71 rfl rfl cw_Mo_word lk_Mo_197 rfl hB1.kb wd1492 wd53 rfl rfl (Nat.le_of_ble_eq_true rfl) ⟨Nat.le_of_ble_eq_true rfl, Nat.le_of_ble_eq_true rfl⟩ (s_Mo_word (ro := false) (k := 9) hB1 hT lt_243 (by decide) hu hv huv ?_)
              refine bp_if_eq (q := 163) (tgt := 167) 72 rfl rfl (by decide) (fun z160 => ?_) (fun z160 => ?_)
              · refine bp_aload_n (q := 168) 75 rfl rfl rfl rfl ?_
                refine bp_getI (q := 171) (ci := 9) (j := 17) 76 rfl rfl fl_Mo_99_9 hB1.kb rfl ?_
                rw [hB1.i17]
                refine bp_putI (q := 174) (ci := 9) (j := 17) 77 rfl rfl fl_Mo_99_9 cl9 hB1.kb (fun r hr => by cases hr; rfl) (by decide) rfl rfl ?_
                refine bp_nx (X := fun h2 => MoX M h0 h2 tw i 0 fm tl 96 (v 3) (v 4) (v 5) nt.length 0 false tb.length nf nn dg nu kd pn pe T xs L ps L1 p1 nt tb fd) (hB1.s17 rfl) (fun h2 hB2 => ?_)
                refine bp_aload_n (q := 175) 78 rfl rfl rfl rfl ?_
                refine bp_aload_n (q := 176) 79 rfl rfl rfl rfl ?_
                refine bp_ldc2 (q := 179) 80 rfl rfl wd1546 ?_
                refine bp_callV (q := 182) (ci := 9) 81 rfl rfl cw_Mo_word lk_Mo_197 rfl hB2.kb wd1492 wd53 rfl rfl (Nat.le_of_ble_eq_true rfl) ⟨Nat.le_of_ble_eq_true rfl, Nat.le_of_ble_eq_true rfl⟩ (s_Mo_word (ro := false) (k := 11) hB2 hT lt_235 (by decide) hu hv huv ?_)
                refine bp_if_eq (q := 185) (tgt := 189) 82 rfl rfl (by decide) (fun z182 => ?_) (fun z182 => ?_)
                · refine bp_aload_n (q := 190) 85 rfl rfl rfl rfl ?_
                  refine bp_getI (q := 193) (ci := 9) (j := 18) 86 rfl rfl fl_Mo_102_9 hB2.kb rfl ?_
                  rw [hB2.i18]
                  refine bp_putI (q := 196) (ci := 9) (j := 18) 87 rfl rfl fl_Mo_102_9 cl9 hB2.kb (fun r hr => by cases hr; rfl) (by decide) rfl rfl ?_
                  refine bp_nx (X := fun h3 => MoX M h0 h3 tw i 0 fm tl 96 (v 3) (v 4) (v 5) nt.length 0 false tb.length nf nn dg nu kd pn pe T xs L ps L1 p1 nt tb fd) (hB2.s18 rfl) (fun h3 hB3 => ?_)
                  refine bp_aload_n (q := 197) 88 rfl rfl rfl rfl ?_
                  refine bp_ldc2 (q := 200) 89 rfl rfl wd1547 ?_
                  refine bp_callV (q := 203) (ci := 9) 90 rfl rfl cw_Mo_word lk_Mo_197 rfl hB3.kb wd1492 wd53 rfl rfl (Nat.le_of_ble_eq_true rfl) ⟨Nat.le_of_ble_eq_true rfl, Nat.le_of_ble_eq_true rfl⟩ (s_Mo_word (ro := false) (k := 12) hB3 hT lt_237 (by decide) hu hv huv ?_)
                  refine bp_if_eq (q := 206) (tgt := 249) 91 rfl rfl (by decide) (fun z203 => ?_) (fun z203 => ?_)
                  · refine bp_vret 115 rfl rfl  ⟨_, rfl, ?_⟩
                    have y5 : dg ≤ 5 := (nI_le_iff (b := 5) hdg (by decide)).mp z77
                    exact hQ _ (OUTB.ok (v := vPlain v) (nm := nm) hB3 (by rw [hW, decide_eq_false hnt]; exact bO_s (nf_any (by decide) y5) (by decide) (by decide) (by decide)) hoN)
                  · exact absurd (bI1 z203) (by rw [hW]; decide)
                · exact absurd (bI1 z182) (by rw [hW]; decide)
              · exact absurd (bI1 z160) (by rw [hW]; decide)
            · exact absurd (bI1 z146) (by rw [hW]; decide)
          · exact absurd (bI1 z132) (by rw [hW]; decide)
    · refine bp_iconst (v := 1) (q := 81) 36 rfl rfl (by decide) ?_
      refine bp_goto (tgt := 85) 37 rfl (by decide) ?_
      refine bp_bipush (v := -5) (q := 87) 39 rfl rfl (by decide) ?_
      refine bp_iload_n (q := 88) 40 rfl rfl rfl rfl ?_
      refine bp_callV (q := 91) (ci := 9) 41 rfl rfl cw_Mo_failIf lk_Mo_118 rfl hB0.kb wd1449 wd44 rfl rfl (Nat.le_of_ble_eq_true rfl) ⟨Nat.le_of_ble_eq_true rfl, Nat.le_of_ble_eq_true rfl⟩ (s_Mo_failIf0 hB0 (by decide) rfl (fun h1 hB1 => ?_))
      refine bp_aload_n (q := 92) 42 rfl rfl rfl rfl ?_
      refine bp_aload_n (q := 93) 43 rfl rfl rfl rfl ?_
      refine bp_ldc2 (q := 96) 44 rfl rfl wd1545 ?_
      refine bp_callV (q := 99) (ci := 9) 45 rfl rfl cw_Mo_word lk_Mo_197 rfl hB1.kb wd1492 wd53 rfl rfl (Nat.le_of_ble_eq_true rfl) ⟨Nat.le_of_ble_eq_true rfl, Nat.le_of_ble_eq_true rfl⟩ (s_Mo_word (ro := false) (k := 6) hB1 hT lt_233 (by decide) hu hv huv ?_)
      refine bp_if_eq (q := 102) (tgt := 107) 46 rfl rfl (by decide) (fun z99 => ?_) (fun z99 => ?_)
      · exact absurd (bI0.mp (by first | exact z99 | exact Classical.not_not.mp z99)) (by rw [hW]; decide)
      · refine bp_bipush (v := 96) (q := 104) 47 rfl rfl (by decide) ?_
        refine bp_goto (tgt := 111) 48 rfl (by decide) ?_
        refine bp_putI (q := 114) (ci := 9) (j := 16) 51 rfl rfl fl_Mo_96_9 cl9 hB1.kb (fun r hr => by cases hr; rfl) (by decide) rfl rfl ?_
        refine bp_nx (X := fun h2 => MoX M h0 h2 tw i (-5) (nI th) tl 96 (v 3) (v 4) (v 5) nt.length 0 false tb.length nf nn dg nu kd pn pe T xs L ps L1 p1 nt tb fd) (hB1.s16 rfl) (fun h2 hB2 => ?_)
        refine bp_aload_n (q := 115) 52 rfl rfl rfl rfl ?_
        refine bp_aload_n (q := 116) 53 rfl rfl rfl rfl ?_
        refine bp_ldc2 (q := 119) 54 rfl rfl wd1548 ?_
        refine bp_callV (q := 122) (ci := 9) 55 rfl rfl cw_Mo_word lk_Mo_197 rfl hB2.kb wd1492 wd53 rfl rfl (Nat.le_of_ble_eq_true rfl) ⟨Nat.le_of_ble_eq_true rfl, Nat.le_of_ble_eq_true rfl⟩ (s_Mo_word (ro := false) (k := 7) hB2 hT lt_239 (by decide) hu hv huv ?_)
        refine bp_if_ne (q := 125) (tgt := 135) 56 rfl rfl (by decide) (fun z122 => ?_) (fun z122 => ?_)
        · exact absurd (bI1 z122) (by rw [hW]; decide)
        · refine bp_aload_n (q := 126) 57 rfl rfl rfl rfl ?_
          refine bp_ldc2 (q := 129) 58 rfl rfl wd1546 ?_
          refine bp_callV (q := 132) (ci := 9) 59 rfl rfl cw_Mo_word lk_Mo_197 rfl hB2.kb wd1492 wd53 rfl rfl (Nat.le_of_ble_eq_true rfl) ⟨Nat.le_of_ble_eq_true rfl, Nat.le_of_ble_eq_true rfl⟩ (s_Mo_word (ro := false) (k := 11) hB2 hT lt_235 (by decide) hu hv huv ?_)
          refine bp_if_eq (q := 135) (tgt := 139) 60 rfl rfl (by decide) (fun z132 => ?_) (fun z132 => ?_)
          · refine bp_aload_n (q := 140) 63 rfl rfl rfl rfl ?_
            refine bp_ldc2 (q := 143) 64 rfl rfl wd1549 ?_
            refine bp_callV (q := 146) (ci := 9) 65 rfl rfl cw_Mo_word lk_Mo_197 rfl hB2.kb wd1492 wd53 rfl rfl (Nat.le_of_ble_eq_true rfl) ⟨Nat.le_of_ble_eq_true rfl, Nat.le_of_ble_eq_true rfl⟩ (s_Mo_word (ro := false) (k := 8) hB2 hT lt_241 (by decide) hu hv huv ?_)
            refine bp_if_eq (q := 149) (tgt := 153) 66 rfl rfl (by decide) (fun z146 => ?_) (fun z146 => ?_)
            · refine bp_aload_n (q := 154) 69 rfl rfl rfl rfl ?_
              refine bp_ldc2 (q := 157) 70 rfl rfl wd1550 ?_
              refine bp_callV (q := 160) (ci := 9) 71 rfl rfl cw_Mo_word lk_Mo_197 rfl hB2.kb wd1492 wd53 rfl rfl (Nat.le_of_ble_eq_true rfl) ⟨Nat.le_of_ble_eq_true rfl, Nat.le_of_ble_eq_true rfl⟩ (s_Mo_word (ro := false) (k := 9) hB2 hT lt_243 (by decide) hu hv huv ?_)
              refine bp_if_eq (q := 163) (tgt := 167) 72 rfl rfl (by decide) (fun z160 => ?_) (fun z160 => ?_)
              · refine bp_aload_n (q := 168) 75 rfl rfl rfl rfl ?_
                refine bp_getI (q := 171) (ci := 9) (j := 17) 76 rfl rfl fl_Mo_99_9 hB2.kb rfl ?_
                rw [hB2.i17]
                refine bp_putI (q := 174) (ci := 9) (j := 17) 77 rfl rfl fl_Mo_99_9 cl9 hB2.kb (fun r hr => by cases hr; rfl) (by decide) rfl rfl ?_
                refine bp_nx (X := fun h3 => MoX M h0 h3 tw i (-5) (nI th) tl 96 (v 3) (v 4) (v 5) nt.length 0 false tb.length nf nn dg nu kd pn pe T xs L ps L1 p1 nt tb fd) (hB2.s17 rfl) (fun h3 hB3 => ?_)
                refine bp_aload_n (q := 175) 78 rfl rfl rfl rfl ?_
                refine bp_aload_n (q := 176) 79 rfl rfl rfl rfl ?_
                refine bp_ldc2 (q := 179) 80 rfl rfl wd1546 ?_
                refine bp_callV (q := 182) (ci := 9) 81 rfl rfl cw_Mo_word lk_Mo_197 rfl hB3.kb wd1492 wd53 rfl rfl (Nat.le_of_ble_eq_true rfl) ⟨Nat.le_of_ble_eq_true rfl, Nat.le_of_ble_eq_true rfl⟩ (s_Mo_word (ro := false) (k := 11) hB3 hT lt_235 (by decide) hu hv huv ?_)
                refine bp_if_eq (q := 185) (tgt := 189) 82 rfl rfl (by decide) (fun z182 => ?_) (fun z182 => ?_)
                · refine bp_aload_n (q := 190) 85 rfl rfl rfl rfl ?_
                  refine bp_getI (q := 193) (ci := 9) (j := 18) 86 rfl rfl fl_Mo_102_9 hB3.kb rfl ?_
                  rw [hB3.i18]
                  refine bp_putI (q := 196) (ci := 9) (j := 18) 87 rfl rfl fl_Mo_102_9 cl9 hB3.kb (fun r hr => by cases hr; rfl) (by decide) rfl rfl ?_
                  refine bp_nx (X := fun h4 => MoX M h0 h4 tw i (-5) (nI th) tl 96 (v 3) (v 4) (v 5) nt.length 0 false tb.length nf nn dg nu kd pn pe T xs L ps L1 p1 nt tb fd) (hB3.s18 rfl) (fun h4 hB4 => ?_)
                  refine bp_aload_n (q := 197) 88 rfl rfl rfl rfl ?_
                  refine bp_ldc2 (q := 200) 89 rfl rfl wd1547 ?_
                  refine bp_callV (q := 203) (ci := 9) 90 rfl rfl cw_Mo_word lk_Mo_197 rfl hB4.kb wd1492 wd53 rfl rfl (Nat.le_of_ble_eq_true rfl) ⟨Nat.le_of_ble_eq_true rfl, Nat.le_of_ble_eq_true rfl⟩ (s_Mo_word (ro := false) (k := 12) hB4 hT lt_237 (by decide) hu hv huv ?_)
                  refine bp_if_eq (q := 206) (tgt := 249) 91 rfl rfl (by decide) (fun z203 => ?_) (fun z203 => ?_)
                  · refine bp_vret 115 rfl rfl  ⟨_, rfl, ?_⟩
                    have y5 : 5 < dg := Nat.not_le.mp (fun e => z77 ((nI_le_iff (b := 5) hdg (by decide)).mpr e))
                    exact hQ _ (OUTB.bad hB4 (by rw [hW, bO_f (nf_big (by decide) (by decide) y5)]) (by rw [hW, bO_f (nf_big (by decide) (by decide) y5)]) (by decide))
                  · exact absurd (bI1 z203) (by rw [hW]; decide)
                · exact absurd (bI1 z182) (by rw [hW]; decide)
              · exact absurd (bI1 z160) (by rw [hW]; decide)
            · exact absurd (bI1 z146) (by rw [hW]; decide)
          · exact absurd (bI1 z132) (by rw [hW]; decide)
  · refine bp_aload_n (q := 11) 4 rfl rfl rfl rfl ?_
    refine bp_ldc2 (q := 14) 5 rfl rfl wd1546 ?_
    refine bp_callV (q := 17) (ci := 9) 6 rfl rfl cw_Mo_word lk_Mo_197 rfl hB0.kb wd1492 wd53 rfl rfl (Nat.le_of_ble_eq_true rfl) ⟨Nat.le_of_ble_eq_true rfl, Nat.le_of_ble_eq_true rfl⟩ (s_Mo_word (ro := false) (k := 11) hB0 hT lt_235 (by decide) hu hv huv ?_)
    refine bp_if_ne (q := 20) (tgt := 60) 7 rfl rfl (by decide) (fun z17 => ?_) (fun z17 => ?_)
    · refine bp_iconst (v := 1) (q := 61) 24 rfl rfl (by decide) ?_
      have hW : wdf T nf nn 15 1 = 11 := of_decide_eq_true (bI1 z17)
      refine bp_goto (tgt := 65) 25 rfl (by decide) ?_
      refine bp_istore_n (q := 66) 27 rfl rfl rfl (by decide) (bp_up2 rfl) ?_
      refine bp_iload_n (q := 67) 28 rfl rfl rfl rfl ?_
      refine bp_if_ne (q := 70) (tgt := 71) 29 rfl rfl (by decide) (fun z67 => ?_) (fun z => absurd z (by decide))
      refine bp_aload_n (q := 72) 31 rfl rfl rfl rfl ?_
      refine bp_aload_n (q := 73) 32 rfl rfl rfl rfl ?_
      refine bp_getI (q := 76) (ci := 9) (j := 29) 33 rfl rfl fl_Mo_185_9 hB0.kb rfl ?_
      rw [hB0.i29]
      refine bp_iconst (v := 5) (q := 77) 34 rfl rfl (by decide) ?_
      refine bp_icmp_le (q := 80) (tgt := 84) 35 rfl rfl (by decide) (fun z77 => ?_) (fun z77 => ?_)
      · refine bp_iconst (v := 0) (q := 85) 38 rfl rfl (by decide) ?_
        refine bp_bipush (v := -5) (q := 87) 39 rfl rfl (by decide) ?_
        refine bp_iload_n (q := 88) 40 rfl rfl rfl rfl ?_
        refine bp_callV (q := 91) (ci := 9) 41 rfl rfl cw_Mo_failIf lk_Mo_118 rfl hB0.kb wd1449 wd44 rfl rfl (Nat.le_of_ble_eq_true rfl) ⟨Nat.le_of_ble_eq_true rfl, Nat.le_of_ble_eq_true rfl⟩ (s_Mo_failIfN hB0 rfl ?_)
        refine bp_aload_n (q := 92) 42 rfl rfl rfl rfl ?_
        refine bp_aload_n (q := 93) 43 rfl rfl rfl rfl ?_
        refine bp_ldc2 (q := 96) 44 rfl rfl wd1545 ?_
        refine bp_callV (q := 99) (ci := 9) 45 rfl rfl cw_Mo_word lk_Mo_197 rfl hB0.kb wd1492 wd53 rfl rfl (Nat.le_of_ble_eq_true rfl) ⟨Nat.le_of_ble_eq_true rfl, Nat.le_of_ble_eq_true rfl⟩ (s_Mo_word (ro := false) (k := 6) hB0 hT lt_233 (by decide) hu hv huv ?_)
        refine bp_if_eq (q := 102) (tgt := 107) 46 rfl rfl (by decide) (fun z99 => ?_) (fun z99 => ?_)
        · refine bp_aload_n (q := 108) 49 rfl rfl rfl rfl ?_
          refine bp_getI (q := 111) (ci := 9) (j := 16) 50 rfl rfl fl_Mo_96_9 hB0.kb rfl ?_
          rw [hB0.i16]
          refine bp_putI (q := 114) (ci := 9) (j := 16) 51 rfl rfl fl_Mo_96_9 cl9 hB0.kb (fun r hr => by cases hr; rfl) (by decide) rfl rfl ?_
          refine bp_nx (X := fun h1 => MoX M h0 h1 tw i 0 fm tl (mlV v) (v 3) (v 4) (v 5) nt.length 0 false tb.length nf nn dg nu kd pn pe T xs L ps L1 p1 nt tb fd) (hB0.s16 rfl) (fun h1 hB1 => ?_)
          refine bp_aload_n (q := 115) 52 rfl rfl rfl rfl ?_
          refine bp_aload_n (q := 116) 53 rfl rfl rfl rfl ?_
          refine bp_ldc2 (q := 119) 54 rfl rfl wd1548 ?_
          refine bp_callV (q := 122) (ci := 9) 55 rfl rfl cw_Mo_word lk_Mo_197 rfl hB1.kb wd1492 wd53 rfl rfl (Nat.le_of_ble_eq_true rfl) ⟨Nat.le_of_ble_eq_true rfl, Nat.le_of_ble_eq_true rfl⟩ (s_Mo_word (ro := false) (k := 7) hB1 hT lt_239 (by decide) hu hv huv ?_)
          refine bp_if_ne (q := 125) (tgt := 135) 56 rfl rfl (by decide) (fun z122 => ?_) (fun z122 => ?_)
          · exact absurd (bI1 z122) (by rw [hW]; decide)
          · refine bp_aload_n (q := 126) 57 rfl rfl rfl rfl ?_
            refine bp_ldc2 (q := 129) 58 rfl rfl wd1546 ?_
            refine bp_callV (q := 132) (ci := 9) 59 rfl rfl cw_Mo_word lk_Mo_197 rfl hB1.kb wd1492 wd53 rfl rfl (Nat.le_of_ble_eq_true rfl) ⟨Nat.le_of_ble_eq_true rfl, Nat.le_of_ble_eq_true rfl⟩ (s_Mo_word (ro := false) (k := 11) hB1 hT lt_235 (by decide) hu hv huv ?_)
            refine bp_if_eq (q := 135) (tgt := 139) 60 rfl rfl (by decide) (fun z132 => ?_) (fun z132 => ?_)
            · exact absurd (bI0.mp (by first | exact z132 | exact Classical.not_not.mp z132)) (by rw [hW]; decide)
            · refine bp_iconst (v := 0) (q := 136) 61 rfl rfl (by decide) ?_
              refine bp_goto (tgt := 171) 62 rfl (by decide) ?_
              refine bp_putI (q := 174) (ci := 9) (j := 17) 77 rfl rfl fl_Mo_99_9 cl9 hB1.kb (fun r hr => by cases hr; rfl) (by decide) rfl rfl ?_
              refine bp_nx (X := fun h2 => MoX M h0 h2 tw i 0 fm tl (mlV v) 0 (v 4) (v 5) nt.length 0 false tb.length nf nn dg nu kd pn pe T xs L ps L1 p1 nt tb fd) (hB1.s17 rfl) (fun h2 hB2 => ?_)
              refine bp_aload_n (q := 175) 78 rfl rfl rfl rfl ?_
              refine bp_aload_n (q := 176) 79 rfl rfl rfl rfl ?_
              refine bp_ldc2 (q := 179) 80 rfl rfl wd1546 ?_
              refine bp_callV (q := 182) (ci := 9) 81 rfl rfl cw_Mo_word lk_Mo_197 rfl hB2.kb wd1492 wd53 rfl rfl (Nat.le_of_ble_eq_true rfl) ⟨Nat.le_of_ble_eq_true rfl, Nat.le_of_ble_eq_true rfl⟩ (s_Mo_word (ro := false) (k := 11) hB2 hT lt_235 (by decide) hu hv huv ?_)
              refine bp_if_eq (q := 185) (tgt := 189) 82 rfl rfl (by decide) (fun z182 => ?_) (fun z182 => ?_)
              · exact absurd (bI0.mp (by first | exact z182 | exact Classical.not_not.mp z182)) (by rw [hW]; decide)
              · refine bp_iconst (v := 0) (q := 186) 83 rfl rfl (by decide) ?_
                refine bp_goto (tgt := 193) 84 rfl (by decide) ?_
                refine bp_putI (q := 196) (ci := 9) (j := 18) 87 rfl rfl fl_Mo_102_9 cl9 hB2.kb (fun r hr => by cases hr; rfl) (by decide) rfl rfl ?_
                refine bp_nx (X := fun h3 => MoX M h0 h3 tw i 0 fm tl (mlV v) 0 0 (v 5) nt.length 0 false tb.length nf nn dg nu kd pn pe T xs L ps L1 p1 nt tb fd) (hB2.s18 rfl) (fun h3 hB3 => ?_)
                refine bp_aload_n (q := 197) 88 rfl rfl rfl rfl ?_
                refine bp_ldc2 (q := 200) 89 rfl rfl wd1547 ?_
                refine bp_callV (q := 203) (ci := 9) 90 rfl rfl cw_Mo_word lk_Mo_197 rfl hB3.kb wd1492 wd53 rfl rfl (Nat.le_of_ble_eq_true rfl) ⟨Nat.le_of_ble_eq_true rfl, Nat.le_of_ble_eq_true rfl⟩ (s_Mo_word (ro := false) (k := 12) hB3 hT lt_237 (by decide) hu hv huv ?_)
                refine bp_if_eq (q := 206) (tgt := 249) 91 rfl rfl (by decide) (fun z203 => ?_) (fun z203 => ?_)
                · refine bp_vret 115 rfl rfl  ⟨_, rfl, ?_⟩
                  have y5 : dg ≤ 5 := (nI_le_iff (b := 5) hdg (by decide)).mp z77
                  exact hQ _ (OUTB.ok (v := bp_u1 (bp_u1 v 3 0) 4 0) (nm := nm) hB3 (by rw [hW, decide_eq_false hnt]; exact bO_s (nf_any (by decide) y5) (by decide) (by decide) (by decide)) hoN)
                · exact absurd (bI1 z203) (by rw [hW]; decide)
        · exact absurd (bI1 z99) (by rw [hW]; decide)
      · refine bp_iconst (v := 1) (q := 81) 36 rfl rfl (by decide) ?_
        refine bp_goto (tgt := 85) 37 rfl (by decide) ?_
        refine bp_bipush (v := -5) (q := 87) 39 rfl rfl (by decide) ?_
        refine bp_iload_n (q := 88) 40 rfl rfl rfl rfl ?_
        refine bp_callV (q := 91) (ci := 9) 41 rfl rfl cw_Mo_failIf lk_Mo_118 rfl hB0.kb wd1449 wd44 rfl rfl (Nat.le_of_ble_eq_true rfl) ⟨Nat.le_of_ble_eq_true rfl, Nat.le_of_ble_eq_true rfl⟩ (s_Mo_failIf0 hB0 (by decide) rfl (fun h1 hB1 => ?_))
        refine bp_aload_n (q := 92) 42 rfl rfl rfl rfl ?_
        refine bp_aload_n (q := 93) 43 rfl rfl rfl rfl ?_
        refine bp_ldc2 (q := 96) 44 rfl rfl wd1545 ?_
        refine bp_callV (q := 99) (ci := 9) 45 rfl rfl cw_Mo_word lk_Mo_197 rfl hB1.kb wd1492 wd53 rfl rfl (Nat.le_of_ble_eq_true rfl) ⟨Nat.le_of_ble_eq_true rfl, Nat.le_of_ble_eq_true rfl⟩ (s_Mo_word (ro := false) (k := 6) hB1 hT lt_233 (by decide) hu hv huv ?_)
        refine bp_if_eq (q := 102) (tgt := 107) 46 rfl rfl (by decide) (fun z99 => ?_) (fun z99 => ?_)
        · refine bp_aload_n (q := 108) 49 rfl rfl rfl rfl ?_
          refine bp_getI (q := 111) (ci := 9) (j := 16) 50 rfl rfl fl_Mo_96_9 hB1.kb rfl ?_
          rw [hB1.i16]
          refine bp_putI (q := 114) (ci := 9) (j := 16) 51 rfl rfl fl_Mo_96_9 cl9 hB1.kb (fun r hr => by cases hr; rfl) (by decide) rfl rfl ?_
          refine bp_nx (X := fun h2 => MoX M h0 h2 tw i (-5) (nI th) tl (mlV v) (v 3) (v 4) (v 5) nt.length 0 false tb.length nf nn dg nu kd pn pe T xs L ps L1 p1 nt tb fd) (hB1.s16 rfl) (fun h2 hB2 => ?_)
          refine bp_aload_n (q := 115) 52 rfl rfl rfl rfl ?_
          refine bp_aload_n (q := 116) 53 rfl rfl rfl rfl ?_
          refine bp_ldc2 (q := 119) 54 rfl rfl wd1548 ?_
          refine bp_callV (q := 122) (ci := 9) 55 rfl rfl cw_Mo_word lk_Mo_197 rfl hB2.kb wd1492 wd53 rfl rfl (Nat.le_of_ble_eq_true rfl) ⟨Nat.le_of_ble_eq_true rfl, Nat.le_of_ble_eq_true rfl⟩ (s_Mo_word (ro := false) (k := 7) hB2 hT lt_239 (by decide) hu hv huv ?_)
          refine bp_if_ne (q := 125) (tgt := 135) 56 rfl rfl (by decide) (fun z122 => ?_) (fun z122 => ?_)
          · exact absurd (bI1 z122) (by rw [hW]; decide)
          · refine bp_aload_n (q := 126) 57 rfl rfl rfl rfl ?_
            refine bp_ldc2 (q := 129) 58 rfl rfl wd1546 ?_
            refine bp_callV (q := 132) (ci := 9) 59 rfl rfl cw_Mo_word lk_Mo_197 rfl hB2.kb wd1492 wd53 rfl rfl (Nat.le_of_ble_eq_true rfl) ⟨Nat.le_of_ble_eq_true rfl, Nat.le_of_ble_eq_true rfl⟩ (s_Mo_word (ro := false) (k := 11) hB2 hT lt_235 (by decide) hu hv huv ?_)
            refine bp_if_eq (q := 135) (tgt := 139) 60 rfl rfl (by decide) (fun z132 => ?_) (fun z132 => ?_)
            · exact absurd (bI0.mp (by first | exact z132 | exact Classical.not_not.mp z132)) (by rw [hW]; decide)
            · refine bp_iconst (v := 0) (q := 136) 61 rfl rfl (by decide) ?_
              refine bp_goto (tgt := 171) 62 rfl (by decide) ?_
              refine bp_putI (q := 174) (ci := 9) (j := 17) 77 rfl rfl fl_Mo_99_9 cl9 hB2.kb (fun r hr => by cases hr; rfl) (by decide) rfl rfl ?_
              refine bp_nx (X := fun h3 => MoX M h0 h3 tw i (-5) (nI th) tl (mlV v) 0 (v 4) (v 5) nt.length 0 false tb.length nf nn dg nu kd pn pe T xs L ps L1 p1 nt tb fd) (hB2.s17 rfl) (fun h3 hB3 => ?_)
              refine bp_aload_n (q := 175) 78 rfl rfl rfl rfl ?_
              refine bp_aload_n (q := 176) 79 rfl rfl rfl rfl ?_
              refine bp_ldc2 (q := 179) 80 rfl rfl wd1546 ?_
              refine bp_callV (q := 182) (ci := 9) 81 rfl rfl cw_Mo_word lk_Mo_197 rfl hB3.kb wd1492 wd53 rfl rfl (Nat.le_of_ble_eq_true rfl) ⟨Nat.le_of_ble_eq_true rfl, Nat.le_of_ble_eq_true rfl⟩ (s_Mo_word (ro := false) (k := 11) hB3 hT lt_235 (by decide) hu hv huv ?_)
              refine bp_if_eq (q := 185) (tgt := 189) 82 rfl rfl (by decide) (fun z182 => ?_) (fun z182 => ?_)
              · exact absurd (bI0.mp (by first | exact z182 | exact Classical.not_not.mp z182)) (by rw [hW]; decide)
              · refine bp_iconst (v := 0) (q := 186) 83 rfl rfl (by decide) ?_
                refine bp_goto (tgt := 193) 84 rfl (by decide) ?_
                refine bp_putI (q := 196) (ci := 9) (j := 18) 87 rfl rfl fl_Mo_102_9 cl9 hB3.kb (fun r hr => by cases hr; rfl) (by decide) rfl rfl ?_
                refine bp_nx (X := fun h4 => MoX M h0 h4 tw i (-5) (nI th) tl (mlV v) 0 0 (v 5) nt.length 0 false tb.length nf nn dg nu kd pn pe T xs L ps L1 p1 nt tb fd) (hB3.s18 rfl) (fun h4 hB4 => ?_)
                refine bp_aload_n (q := 197) 88 rfl rfl rfl rfl ?_
                refine bp_ldc2 (q := 200) 89 rfl rfl wd1547 ?_
                refine bp_callV (q := 203) (ci := 9) 90 rfl rfl cw_Mo_word lk_Mo_197 rfl hB4.kb wd1492 wd53 rfl rfl (Nat.le_of_ble_eq_true rfl) ⟨Nat.le_of_ble_eq_true rfl, Nat.le_of_ble_eq_true rfl⟩ (s_Mo_word (ro := false) (k := 12) hB4 hT lt_237 (by decide) hu hv huv ?_)
                refine bp_if_eq (q := 206) (tgt := 249) 91 rfl rfl (by decide) (fun z203 => ?_) (fun z203 => ?_)
                · refine bp_vret 115 rfl rfl  ⟨_, rfl, ?_⟩
                  have y5 : 5 < dg := Nat.not_le.mp (fun e => z77 ((nI_le_iff (b := 5) hdg (by decide)).mpr e))
                  exact hQ _ (OUTB.bad hB4 (by rw [hW, bO_f (nf_big (by decide) (by decide) y5)]) (by rw [hW, bO_f (nf_big (by decide) (by decide) y5)]) (by decide))
                · exact absurd (bI1 z203) (by rw [hW]; decide)
        · exact absurd (bI1 z99) (by rw [hW]; decide)
    · refine bp_aload_n (q := 21) 8 rfl rfl rfl rfl ?_
      refine bp_ldc2 (q := 24) 9 rfl rfl wd1547 ?_
      refine bp_callV (q := 27) (ci := 9) 10 rfl rfl cw_Mo_word lk_Mo_197 rfl hB0.kb wd1492 wd53 rfl rfl (Nat.le_of_ble_eq_true rfl) ⟨Nat.le_of_ble_eq_true rfl, Nat.le_of_ble_eq_true rfl⟩ (s_Mo_word (ro := false) (k := 12) hB0 hT lt_237 (by decide) hu hv huv ?_)
      refine bp_if_ne (q := 30) (tgt := 60) 11 rfl rfl (by decide) (fun z27 => ?_) (fun z27 => ?_)
      · refine bp_iconst (v := 1) (q := 61) 24 rfl rfl (by decide) ?_
        have hW : wdf T nf nn 15 1 = 12 := of_decide_eq_true (bI1 z27)
        refine bp_goto (tgt := 65) 25 rfl (by decide) ?_
        refine bp_istore_n (q := 66) 27 rfl rfl rfl (by decide) (bp_up2 rfl) ?_
        refine bp_iload_n (q := 67) 28 rfl rfl rfl rfl ?_
        refine bp_if_ne (q := 70) (tgt := 71) 29 rfl rfl (by decide) (fun z67 => ?_) (fun z => absurd z (by decide))
        refine bp_aload_n (q := 72) 31 rfl rfl rfl rfl ?_
        refine bp_aload_n (q := 73) 32 rfl rfl rfl rfl ?_
        refine bp_getI (q := 76) (ci := 9) (j := 29) 33 rfl rfl fl_Mo_185_9 hB0.kb rfl ?_
        rw [hB0.i29]
        refine bp_iconst (v := 5) (q := 77) 34 rfl rfl (by decide) ?_
        refine bp_icmp_le (q := 80) (tgt := 84) 35 rfl rfl (by decide) (fun z77 => ?_) (fun z77 => ?_)
        · refine bp_iconst (v := 0) (q := 85) 38 rfl rfl (by decide) ?_
          refine bp_bipush (v := -5) (q := 87) 39 rfl rfl (by decide) ?_
          refine bp_iload_n (q := 88) 40 rfl rfl rfl rfl ?_
          refine bp_callV (q := 91) (ci := 9) 41 rfl rfl cw_Mo_failIf lk_Mo_118 rfl hB0.kb wd1449 wd44 rfl rfl (Nat.le_of_ble_eq_true rfl) ⟨Nat.le_of_ble_eq_true rfl, Nat.le_of_ble_eq_true rfl⟩ (s_Mo_failIfN hB0 rfl ?_)
          refine bp_aload_n (q := 92) 42 rfl rfl rfl rfl ?_
          refine bp_aload_n (q := 93) 43 rfl rfl rfl rfl ?_
          refine bp_ldc2 (q := 96) 44 rfl rfl wd1545 ?_
          refine bp_callV (q := 99) (ci := 9) 45 rfl rfl cw_Mo_word lk_Mo_197 rfl hB0.kb wd1492 wd53 rfl rfl (Nat.le_of_ble_eq_true rfl) ⟨Nat.le_of_ble_eq_true rfl, Nat.le_of_ble_eq_true rfl⟩ (s_Mo_word (ro := false) (k := 6) hB0 hT lt_233 (by decide) hu hv huv ?_)
          refine bp_if_eq (q := 102) (tgt := 107) 46 rfl rfl (by decide) (fun z99 => ?_) (fun z99 => ?_)
          · refine bp_aload_n (q := 108) 49 rfl rfl rfl rfl ?_
            refine bp_getI (q := 111) (ci := 9) (j := 16) 50 rfl rfl fl_Mo_96_9 hB0.kb rfl ?_
            rw [hB0.i16]
            refine bp_putI (q := 114) (ci := 9) (j := 16) 51 rfl rfl fl_Mo_96_9 cl9 hB0.kb (fun r hr => by cases hr; rfl) (by decide) rfl rfl ?_
            refine bp_nx (X := fun h1 => MoX M h0 h1 tw i 0 fm tl (mlV v) (v 3) (v 4) (v 5) nt.length 0 false tb.length nf nn dg nu kd pn pe T xs L ps L1 p1 nt tb fd) (hB0.s16 rfl) (fun h1 hB1 => ?_)
            refine bp_aload_n (q := 115) 52 rfl rfl rfl rfl ?_
            refine bp_aload_n (q := 116) 53 rfl rfl rfl rfl ?_
            refine bp_ldc2 (q := 119) 54 rfl rfl wd1548 ?_
            refine bp_callV (q := 122) (ci := 9) 55 rfl rfl cw_Mo_word lk_Mo_197 rfl hB1.kb wd1492 wd53 rfl rfl (Nat.le_of_ble_eq_true rfl) ⟨Nat.le_of_ble_eq_true rfl, Nat.le_of_ble_eq_true rfl⟩ (s_Mo_word (ro := false) (k := 7) hB1 hT lt_239 (by decide) hu hv huv ?_)
            refine bp_if_ne (q := 125) (tgt := 135) 56 rfl rfl (by decide) (fun z122 => ?_) (fun z122 => ?_)
            · exact absurd (bI1 z122) (by rw [hW]; decide)
            · refine bp_aload_n (q := 126) 57 rfl rfl rfl rfl ?_
              refine bp_ldc2 (q := 129) 58 rfl rfl wd1546 ?_
              refine bp_callV (q := 132) (ci := 9) 59 rfl rfl cw_Mo_word lk_Mo_197 rfl hB1.kb wd1492 wd53 rfl rfl (Nat.le_of_ble_eq_true rfl) ⟨Nat.le_of_ble_eq_true rfl, Nat.le_of_ble_eq_true rfl⟩ (s_Mo_word (ro := false) (k := 11) hB1 hT lt_235 (by decide) hu hv huv ?_)
              refine bp_if_eq (q := 135) (tgt := 139) 60 rfl rfl (by decide) (fun z132 => ?_) (fun z132 => ?_)
              · refine bp_aload_n (q := 140) 63 rfl rfl rfl rfl ?_
                refine bp_ldc2 (q := 143) 64 rfl rfl wd1549 ?_
                refine bp_callV (q := 146) (ci := 9) 65 rfl rfl cw_Mo_word lk_Mo_197 rfl hB1.kb wd1492 wd53 rfl rfl (Nat.le_of_ble_eq_true rfl) ⟨Nat.le_of_ble_eq_true rfl, Nat.le_of_ble_eq_true rfl⟩ (s_Mo_word (ro := false) (k := 8) hB1 hT lt_241 (by decide) hu hv huv ?_)
                refine bp_if_eq (q := 149) (tgt := 153) 66 rfl rfl (by decide) (fun z146 => ?_) (fun z146 => ?_)
                · refine bp_aload_n (q := 154) 69 rfl rfl rfl rfl ?_
                  refine bp_ldc2 (q := 157) 70 rfl rfl wd1550 ?_
                  refine bp_callV (q := 160) (ci := 9) 71 rfl rfl cw_Mo_word lk_Mo_197 rfl hB1.kb wd1492 wd53 rfl rfl (Nat.le_of_ble_eq_true rfl) ⟨Nat.le_of_ble_eq_true rfl, Nat.le_of_ble_eq_true rfl⟩ (s_Mo_word (ro := false) (k := 9) hB1 hT lt_243 (by decide) hu hv huv ?_)
                  refine bp_if_eq (q := 163) (tgt := 167) 72 rfl rfl (by decide) (fun z160 => ?_) (fun z160 => ?_)
                  · refine bp_aload_n (q := 168) 75 rfl rfl rfl rfl ?_
                    refine bp_getI (q := 171) (ci := 9) (j := 17) 76 rfl rfl fl_Mo_99_9 hB1.kb rfl ?_
                    rw [hB1.i17]
                    refine bp_putI (q := 174) (ci := 9) (j := 17) 77 rfl rfl fl_Mo_99_9 cl9 hB1.kb (fun r hr => by cases hr; rfl) (by decide) rfl rfl ?_
                    refine bp_nx (X := fun h2 => MoX M h0 h2 tw i 0 fm tl (mlV v) (v 3) (v 4) (v 5) nt.length 0 false tb.length nf nn dg nu kd pn pe T xs L ps L1 p1 nt tb fd) (hB1.s17 rfl) (fun h2 hB2 => ?_)
                    refine bp_aload_n (q := 175) 78 rfl rfl rfl rfl ?_
                    refine bp_aload_n (q := 176) 79 rfl rfl rfl rfl ?_
                    refine bp_ldc2 (q := 179) 80 rfl rfl wd1546 ?_
                    refine bp_callV (q := 182) (ci := 9) 81 rfl rfl cw_Mo_word lk_Mo_197 rfl hB2.kb wd1492 wd53 rfl rfl (Nat.le_of_ble_eq_true rfl) ⟨Nat.le_of_ble_eq_true rfl, Nat.le_of_ble_eq_true rfl⟩ (s_Mo_word (ro := false) (k := 11) hB2 hT lt_235 (by decide) hu hv huv ?_)
                    refine bp_if_eq (q := 185) (tgt := 189) 82 rfl rfl (by decide) (fun z182 => ?_) (fun z182 => ?_)
                    · refine bp_aload_n (q := 190) 85 rfl rfl rfl rfl ?_
                      refine bp_getI (q := 193) (ci := 9) (j := 18) 86 rfl rfl fl_Mo_102_9 hB2.kb rfl ?_
                      rw [hB2.i18]
                      refine bp_putI (q := 196) (ci := 9) (j := 18) 87 rfl rfl fl_Mo_102_9 cl9 hB2.kb (fun r hr => by cases hr; rfl) (by decide) rfl rfl ?_
                      refine bp_nx (X := fun h3 => MoX M h0 h3 tw i 0 fm tl (mlV v) (v 3) (v 4) (v 5) nt.length 0 false tb.length nf nn dg nu kd pn pe T xs L ps L1 p1 nt tb fd) (hB2.s18 rfl) (fun h3 hB3 => ?_)
                      refine bp_aload_n (q := 197) 88 rfl rfl rfl rfl ?_
                      refine bp_ldc2 (q := 200) 89 rfl rfl wd1547 ?_
                      refine bp_callV (q := 203) (ci := 9) 90 rfl rfl cw_Mo_word lk_Mo_197 rfl hB3.kb wd1492 wd53 rfl rfl (Nat.le_of_ble_eq_true rfl) ⟨Nat.le_of_ble_eq_true rfl, Nat.le_of_ble_eq_true rfl⟩ (s_Mo_word (ro := false) (k := 12) hB3 hT lt_237 (by decide) hu hv huv ?_)
                      refine bp_if_eq (q := 206) (tgt := 249) 91 rfl rfl (by decide) (fun z203 => ?_) (fun z203 => ?_)
                      · exact absurd (bI0.mp (by first | exact z203 | exact Classical.not_not.mp z203)) (by rw [hW]; decide)
                      · refine bp_aload_n (q := 207) 92 rfl rfl rfl rfl ?_
                        refine bp_aload_n (q := 208) 93 rfl rfl rfl rfl ?_
                        refine bp_getR (x := M 6) (q := 211) (ci := 9) (j := 6) 94 rfl rfl fl_Mo_21_9 hB3.kb rfl hB3.r6 ?_
                        refine bp_iconst (v := 1) (q := 212) 95 rfl rfl (by decide) ?_
                        refine bp_iald (q := 213) 96 rfl rfl hB3.k6 (vp_inL (n := 1) hB3.l6 (by decide) (by decide)) ?_
                        rw [show bp_I _ (M 6) ((1 : Int32).toNatClampNeg) = nI p1.length from hB3.2.2.2.2.2.2.1.2.2.2.1]
                        refine bp_bipush (v := 16) (q := 215) 97 rfl rfl (by decide) ?_
                        refine bp_icmp_ne (q := 218) (tgt := 222) 98 rfl rfl (by decide) (fun z215 => ?_) (fun z215 => ?_)
                        · refine bp_iconst (v := 0) (q := 223) 101 rfl rfl (by decide) ?_
                          refine bp_bipush (v := -8) (q := 225) 102 rfl rfl (by decide) ?_
                          refine bp_iload_n (q := 226) 103 rfl rfl rfl rfl ?_
                          refine bp_callV (q := 229) (ci := 9) 104 rfl rfl cw_Mo_failIf lk_Mo_118 rfl hB3.kb wd1449 wd44 rfl rfl (Nat.le_of_ble_eq_true rfl) ⟨Nat.le_of_ble_eq_true rfl, Nat.le_of_ble_eq_true rfl⟩ (s_Mo_failIfN hB3 rfl ?_)
                          refine bp_aload_n (q := 230) 105 rfl rfl rfl rfl ?_
                          refine bp_getI (q := 233) (ci := 9) (j := 13) 106 rfl rfl fl_Mo_69_9 hB3.kb rfl ?_
                          rw [hB3.i13]
                          refine bp_if_ne (q := 236) (tgt := 249) 107 rfl rfl (by decide) (fun z => absurd z (by decide)) (fun z233 => ?_)
                          refine bp_aload_n (q := 237) 108 rfl rfl rfl rfl ?_
                          refine bp_iconst (v := 1) (q := 238) 109 rfl rfl (by decide) ?_
                          refine bp_aload_n (q := 239) 110 rfl rfl rfl rfl ?_
                          refine bp_getI (q := 242) (ci := 9) (j := 17) 111 rfl rfl fl_Mo_99_9 hB3.kb rfl ?_
                          rw [hB3.i17]
                          refine bp_aload_n (q := 243) 112 rfl rfl rfl rfl ?_
                          refine bp_getI (q := 246) (ci := 9) (j := 18) 113 rfl rfl fl_Mo_102_9 hB3.kb rfl ?_
                          rw [hB3.i18]
                          refine bp_callV (q := 249) (ci := 9) 114 rfl rfl cw_Mo_endParagraph lk_Mo_132 rfl hB3.kb wd1553 wd60 rfl rfl (Nat.le_of_ble_eq_true rfl) ⟨Nat.le_of_ble_eq_true rfl, Nat.le_of_ble_eq_true rfl⟩ (s_Mo_endParagraph1 (x := v 3) (y := v 4) (e := L1.length) hB3 (by have q : ¬ p1.length = 16 := fun e => z215 (by rw [e]; rfl); omega) (Nat.le_refl _) (fun h4 hB4 => ?_))
                          refine bp_vret 115 rfl rfl  ⟨_, rfl, ?_⟩
                          have y5 : dg ≤ 5 := (nI_le_iff (b := 5) hdg (by decide)).mp z77
                          have yf : ¬ 16 ≤ p1.length := by have q : ¬ p1.length = 16 := fun e => z215 (by rw [e]; rfl); omega
                          exact hQ _ (OUTB.ok (v := v) (nm := nm) hB4 (by rw [hW, decide_eq_false hnt]; exact (bO_12 (nf_any (by decide) y5)).trans (if_neg yf)) hoN)
                        · refine bp_iconst (v := 1) (q := 219) 99 rfl rfl (by decide) ?_
                          refine bp_goto (tgt := 223) 100 rfl (by decide) ?_
                          refine bp_bipush (v := -8) (q := 225) 102 rfl rfl (by decide) ?_
                          refine bp_iload_n (q := 226) 103 rfl rfl rfl rfl ?_
                          refine bp_callV (q := 229) (ci := 9) 104 rfl rfl cw_Mo_failIf lk_Mo_118 rfl hB3.kb wd1449 wd44 rfl rfl (Nat.le_of_ble_eq_true rfl) ⟨Nat.le_of_ble_eq_true rfl, Nat.le_of_ble_eq_true rfl⟩ (s_Mo_failIf0 hB3 (by decide) rfl (fun h4 hB4 => ?_))
                          refine bp_aload_n (q := 230) 105 rfl rfl rfl rfl ?_
                          refine bp_getI (q := 233) (ci := 9) (j := 13) 106 rfl rfl fl_Mo_69_9 hB4.kb rfl ?_
                          rw [hB4.i13]
                          refine bp_if_ne (q := 236) (tgt := 249) 107 rfl rfl (by decide) (fun z233 => ?_) (fun z => absurd z (by decide))
                          refine bp_vret 115 rfl rfl  ⟨_, rfl, ?_⟩
                          have y5 : dg ≤ 5 := (nI_le_iff (b := 5) hdg (by decide)).mp z77
                          have yf : 16 ≤ p1.length := by have := (nI_eq_iff (a := p1.length) (b := 16) (by omega) (by decide)).mp (by first | exact z215 | exact Classical.not_not.mp z215); omega
                          have e9 : bObey th b 12 n dg (i, 0, -1, 0, false, false, false, v, nt, tb, nm, L1, p1) = (i, -8, nI th, 0, false, false, false, v, nt, tb, nm, L1, p1) := (bO_12 (nf_any (by decide) y5)).trans (if_pos yf)
                          exact hQ _ (OUTB.bad hB4 (by rw [hW, e9]) (by rw [hW, e9]) (by decide))
                    · exact absurd (bI1 z182) (by rw [hW]; decide)
                  · exact absurd (bI1 z160) (by rw [hW]; decide)
                · exact absurd (bI1 z146) (by rw [hW]; decide)
              · exact absurd (bI1 z132) (by rw [hW]; decide)
          · exact absurd (bI1 z99) (by rw [hW]; decide)
        · refine bp_iconst (v := 1) (q := 81) 36 rfl rfl (by decide) ?_
          refine bp_goto (tgt := 85) 37 rfl (by decide) ?_
          refine bp_bipush (v := -5) (q := 87) 39 rfl rfl (by decide) ?_
          refine bp_iload_n (q := 88) 40 rfl rfl rfl rfl ?_
          refine bp_callV (q := 91) (ci := 9) 41 rfl rfl cw_Mo_failIf lk_Mo_118 rfl hB0.kb wd1449 wd44 rfl rfl (Nat.le_of_ble_eq_true rfl) ⟨Nat.le_of_ble_eq_true rfl, Nat.le_of_ble_eq_true rfl⟩ (s_Mo_failIf0 hB0 (by decide) rfl (fun h1 hB1 => ?_))
          refine bp_aload_n (q := 92) 42 rfl rfl rfl rfl ?_
          refine bp_aload_n (q := 93) 43 rfl rfl rfl rfl ?_
          refine bp_ldc2 (q := 96) 44 rfl rfl wd1545 ?_
          refine bp_callV (q := 99) (ci := 9) 45 rfl rfl cw_Mo_word lk_Mo_197 rfl hB1.kb wd1492 wd53 rfl rfl (Nat.le_of_ble_eq_true rfl) ⟨Nat.le_of_ble_eq_true rfl, Nat.le_of_ble_eq_true rfl⟩ (s_Mo_word (ro := false) (k := 6) hB1 hT lt_233 (by decide) hu hv huv ?_)
          refine bp_if_eq (q := 102) (tgt := 107) 46 rfl rfl (by decide) (fun z99 => ?_) (fun z99 => ?_)
          · refine bp_aload_n (q := 108) 49 rfl rfl rfl rfl ?_
            refine bp_getI (q := 111) (ci := 9) (j := 16) 50 rfl rfl fl_Mo_96_9 hB1.kb rfl ?_
            rw [hB1.i16]
            refine bp_putI (q := 114) (ci := 9) (j := 16) 51 rfl rfl fl_Mo_96_9 cl9 hB1.kb (fun r hr => by cases hr; rfl) (by decide) rfl rfl ?_
            refine bp_nx (X := fun h2 => MoX M h0 h2 tw i (-5) (nI th) tl (mlV v) (v 3) (v 4) (v 5) nt.length 0 false tb.length nf nn dg nu kd pn pe T xs L ps L1 p1 nt tb fd) (hB1.s16 rfl) (fun h2 hB2 => ?_)
            refine bp_aload_n (q := 115) 52 rfl rfl rfl rfl ?_
            refine bp_aload_n (q := 116) 53 rfl rfl rfl rfl ?_
            refine bp_ldc2 (q := 119) 54 rfl rfl wd1548 ?_
            refine bp_callV (q := 122) (ci := 9) 55 rfl rfl cw_Mo_word lk_Mo_197 rfl hB2.kb wd1492 wd53 rfl rfl (Nat.le_of_ble_eq_true rfl) ⟨Nat.le_of_ble_eq_true rfl, Nat.le_of_ble_eq_true rfl⟩ (s_Mo_word (ro := false) (k := 7) hB2 hT lt_239 (by decide) hu hv huv ?_)
            refine bp_if_ne (q := 125) (tgt := 135) 56 rfl rfl (by decide) (fun z122 => ?_) (fun z122 => ?_)
            · exact absurd (bI1 z122) (by rw [hW]; decide)
            · refine bp_aload_n (q := 126) 57 rfl rfl rfl rfl ?_
              refine bp_ldc2 (q := 129) 58 rfl rfl wd1546 ?_
              refine bp_callV (q := 132) (ci := 9) 59 rfl rfl cw_Mo_word lk_Mo_197 rfl hB2.kb wd1492 wd53 rfl rfl (Nat.le_of_ble_eq_true rfl) ⟨Nat.le_of_ble_eq_true rfl, Nat.le_of_ble_eq_true rfl⟩ (s_Mo_word (ro := false) (k := 11) hB2 hT lt_235 (by decide) hu hv huv ?_)
              refine bp_if_eq (q := 135) (tgt := 139) 60 rfl rfl (by decide) (fun z132 => ?_) (fun z132 => ?_)
              · refine bp_aload_n (q := 140) 63 rfl rfl rfl rfl ?_
                refine bp_ldc2 (q := 143) 64 rfl rfl wd1549 ?_
                refine bp_callV (q := 146) (ci := 9) 65 rfl rfl cw_Mo_word lk_Mo_197 rfl hB2.kb wd1492 wd53 rfl rfl (Nat.le_of_ble_eq_true rfl) ⟨Nat.le_of_ble_eq_true rfl, Nat.le_of_ble_eq_true rfl⟩ (s_Mo_word (ro := false) (k := 8) hB2 hT lt_241 (by decide) hu hv huv ?_)
                refine bp_if_eq (q := 149) (tgt := 153) 66 rfl rfl (by decide) (fun z146 => ?_) (fun z146 => ?_)
                · refine bp_aload_n (q := 154) 69 rfl rfl rfl rfl ?_
                  refine bp_ldc2 (q := 157) 70 rfl rfl wd1550 ?_
                  refine bp_callV (q := 160) (ci := 9) 71 rfl rfl cw_Mo_word lk_Mo_197 rfl hB2.kb wd1492 wd53 rfl rfl (Nat.le_of_ble_eq_true rfl) ⟨Nat.le_of_ble_eq_true rfl, Nat.le_of_ble_eq_true rfl⟩ (s_Mo_word (ro := false) (k := 9) hB2 hT lt_243 (by decide) hu hv huv ?_)
                  refine bp_if_eq (q := 163) (tgt := 167) 72 rfl rfl (by decide) (fun z160 => ?_) (fun z160 => ?_)
                  · refine bp_aload_n (q := 168) 75 rfl rfl rfl rfl ?_
                    refine bp_getI (q := 171) (ci := 9) (j := 17) 76 rfl rfl fl_Mo_99_9 hB2.kb rfl ?_
                    rw [hB2.i17]
                    refine bp_putI (q := 174) (ci := 9) (j := 17) 77 rfl rfl fl_Mo_99_9 cl9 hB2.kb (fun r hr => by cases hr; rfl) (by decide) rfl rfl ?_
                    refine bp_nx (X := fun h3 => MoX M h0 h3 tw i (-5) (nI th) tl (mlV v) (v 3) (v 4) (v 5) nt.length 0 false tb.length nf nn dg nu kd pn pe T xs L ps L1 p1 nt tb fd) (hB2.s17 rfl) (fun h3 hB3 => ?_)
                    refine bp_aload_n (q := 175) 78 rfl rfl rfl rfl ?_
                    refine bp_aload_n (q := 176) 79 rfl rfl rfl rfl ?_
                    refine bp_ldc2 (q := 179) 80 rfl rfl wd1546 ?_
                    refine bp_callV (q := 182) (ci := 9) 81 rfl rfl cw_Mo_word lk_Mo_197 rfl hB3.kb wd1492 wd53 rfl rfl (Nat.le_of_ble_eq_true rfl) ⟨Nat.le_of_ble_eq_true rfl, Nat.le_of_ble_eq_true rfl⟩ (s_Mo_word (ro := false) (k := 11) hB3 hT lt_235 (by decide) hu hv huv ?_)
                    refine bp_if_eq (q := 185) (tgt := 189) 82 rfl rfl (by decide) (fun z182 => ?_) (fun z182 => ?_)
                    · refine bp_aload_n (q := 190) 85 rfl rfl rfl rfl ?_
                      refine bp_getI (q := 193) (ci := 9) (j := 18) 86 rfl rfl fl_Mo_102_9 hB3.kb rfl ?_
                      rw [hB3.i18]
                      refine bp_putI (q := 196) (ci := 9) (j := 18) 87 rfl rfl fl_Mo_102_9 cl9 hB3.kb (fun r hr => by cases hr; rfl) (by decide) rfl rfl ?_
                      refine bp_nx (X := fun h4 => MoX M h0 h4 tw i (-5) (nI th) tl (mlV v) (v 3) (v 4) (v 5) nt.length 0 false tb.length nf nn dg nu kd pn pe T xs L ps L1 p1 nt tb fd) (hB3.s18 rfl) (fun h4 hB4 => ?_)
                      refine bp_aload_n (q := 197) 88 rfl rfl rfl rfl ?_
                      refine bp_ldc2 (q := 200) 89 rfl rfl wd1547 ?_
                      refine bp_callV (q := 203) (ci := 9) 90 rfl rfl cw_Mo_word lk_Mo_197 rfl hB4.kb wd1492 wd53 rfl rfl (Nat.le_of_ble_eq_true rfl) ⟨Nat.le_of_ble_eq_true rfl, Nat.le_of_ble_eq_true rfl⟩ (s_Mo_word (ro := false) (k := 12) hB4 hT lt_237 (by decide) hu hv huv ?_)
                      refine bp_if_eq (q := 206) (tgt := 249) 91 rfl rfl (by decide) (fun z203 => ?_) (fun z203 => ?_)
                      · exact absurd (bI0.mp (by first | exact z203 | exact Classical.not_not.mp z203)) (by rw [hW]; decide)
                      · refine bp_aload_n (q := 207) 92 rfl rfl rfl rfl ?_
                        refine bp_aload_n (q := 208) 93 rfl rfl rfl rfl ?_
                        refine bp_getR (x := M 6) (q := 211) (ci := 9) (j := 6) 94 rfl rfl fl_Mo_21_9 hB4.kb rfl hB4.r6 ?_
                        refine bp_iconst (v := 1) (q := 212) 95 rfl rfl (by decide) ?_
                        refine bp_iald (q := 213) 96 rfl rfl hB4.k6 (vp_inL (n := 1) hB4.l6 (by decide) (by decide)) ?_
                        rw [show bp_I _ (M 6) ((1 : Int32).toNatClampNeg) = nI p1.length from hB4.2.2.2.2.2.2.1.2.2.2.1]
                        refine bp_bipush (v := 16) (q := 215) 97 rfl rfl (by decide) ?_
                        refine bp_icmp_ne (q := 218) (tgt := 222) 98 rfl rfl (by decide) (fun z215 => ?_) (fun z215 => ?_)
                        · refine bp_iconst (v := 0) (q := 223) 101 rfl rfl (by decide) ?_
                          refine bp_bipush (v := -8) (q := 225) 102 rfl rfl (by decide) ?_
                          refine bp_iload_n (q := 226) 103 rfl rfl rfl rfl ?_
                          refine bp_callV (q := 229) (ci := 9) 104 rfl rfl cw_Mo_failIf lk_Mo_118 rfl hB4.kb wd1449 wd44 rfl rfl (Nat.le_of_ble_eq_true rfl) ⟨Nat.le_of_ble_eq_true rfl, Nat.le_of_ble_eq_true rfl⟩ (s_Mo_failIf1 hB4 (by decide) ?_)
                          refine bp_aload_n (q := 230) 105 rfl rfl rfl rfl ?_
                          refine bp_getI (q := 233) (ci := 9) (j := 13) 106 rfl rfl fl_Mo_69_9 hB4.kb rfl ?_
                          rw [hB4.i13]
                          refine bp_if_ne (q := 236) (tgt := 249) 107 rfl rfl (by decide) (fun z233 => ?_) (fun z => absurd z (by decide))
                          refine bp_vret 115 rfl rfl  ⟨_, rfl, ?_⟩
                          have y5 : 5 < dg := Nat.not_le.mp (fun e => z77 ((nI_le_iff (b := 5) hdg (by decide)).mpr e))
                          exact hQ _ (OUTB.bad hB4 (by rw [hW, bO_f (nf_big (by decide) (by decide) y5)]) (by rw [hW, bO_f (nf_big (by decide) (by decide) y5)]) (by decide))
                        · refine bp_iconst (v := 1) (q := 219) 99 rfl rfl (by decide) ?_
                          refine bp_goto (tgt := 223) 100 rfl (by decide) ?_
                          refine bp_bipush (v := -8) (q := 225) 102 rfl rfl (by decide) ?_
                          refine bp_iload_n (q := 226) 103 rfl rfl rfl rfl ?_
                          refine bp_callV (q := 229) (ci := 9) 104 rfl rfl cw_Mo_failIf lk_Mo_118 rfl hB4.kb wd1449 wd44 rfl rfl (Nat.le_of_ble_eq_true rfl) ⟨Nat.le_of_ble_eq_true rfl, Nat.le_of_ble_eq_true rfl⟩ (s_Mo_failIf1 hB4 (by decide) ?_)
                          refine bp_aload_n (q := 230) 105 rfl rfl rfl rfl ?_
                          refine bp_getI (q := 233) (ci := 9) (j := 13) 106 rfl rfl fl_Mo_69_9 hB4.kb rfl ?_
                          rw [hB4.i13]
                          refine bp_if_ne (q := 236) (tgt := 249) 107 rfl rfl (by decide) (fun z233 => ?_) (fun z => absurd z (by decide))
                          refine bp_vret 115 rfl rfl  ⟨_, rfl, ?_⟩
                          have y5 : 5 < dg := Nat.not_le.mp (fun e => z77 ((nI_le_iff (b := 5) hdg (by decide)).mpr e))
                          exact hQ _ (OUTB.bad hB4 (by rw [hW, bO_f (nf_big (by decide) (by decide) y5)]) (by rw [hW, bO_f (nf_big (by decide) (by decide) y5)]) (by decide))
                    · exact absurd (bI1 z182) (by rw [hW]; decide)
                  · exact absurd (bI1 z160) (by rw [hW]; decide)
                · exact absurd (bI1 z146) (by rw [hW]; decide)
              · exact absurd (bI1 z132) (by rw [hW]; decide)
          · exact absurd (bI1 z99) (by rw [hW]; decide)
      · refine bp_aload_n (q := 31) 12 rfl rfl rfl rfl ?_
        refine bp_ldc2 (q := 34) 13 rfl rfl wd1548 ?_
        refine bp_callV (q := 37) (ci := 9) 14 rfl rfl cw_Mo_word lk_Mo_197 rfl hB0.kb wd1492 wd53 rfl rfl (Nat.le_of_ble_eq_true rfl) ⟨Nat.le_of_ble_eq_true rfl, Nat.le_of_ble_eq_true rfl⟩ (s_Mo_word (ro := false) (k := 7) hB0 hT lt_239 (by decide) hu hv huv ?_)
        refine bp_if_ne (q := 40) (tgt := 60) 15 rfl rfl (by decide) (fun z37 => ?_) (fun z37 => ?_)
        · refine bp_iconst (v := 1) (q := 61) 24 rfl rfl (by decide) ?_
          have hW : wdf T nf nn 15 1 = 7 := of_decide_eq_true (bI1 z37)
          refine bp_goto (tgt := 65) 25 rfl (by decide) ?_
          refine bp_istore_n (q := 66) 27 rfl rfl rfl (by decide) (bp_up2 rfl) ?_
          refine bp_iload_n (q := 67) 28 rfl rfl rfl rfl ?_
          refine bp_if_ne (q := 70) (tgt := 71) 29 rfl rfl (by decide) (fun z67 => ?_) (fun z => absurd z (by decide))
          refine bp_aload_n (q := 72) 31 rfl rfl rfl rfl ?_
          refine bp_aload_n (q := 73) 32 rfl rfl rfl rfl ?_
          refine bp_getI (q := 76) (ci := 9) (j := 29) 33 rfl rfl fl_Mo_185_9 hB0.kb rfl ?_
          rw [hB0.i29]
          refine bp_iconst (v := 5) (q := 77) 34 rfl rfl (by decide) ?_
          refine bp_icmp_le (q := 80) (tgt := 84) 35 rfl rfl (by decide) (fun z77 => ?_) (fun z77 => ?_)
          · refine bp_iconst (v := 0) (q := 85) 38 rfl rfl (by decide) ?_
            refine bp_bipush (v := -5) (q := 87) 39 rfl rfl (by decide) ?_
            refine bp_iload_n (q := 88) 40 rfl rfl rfl rfl ?_
            refine bp_callV (q := 91) (ci := 9) 41 rfl rfl cw_Mo_failIf lk_Mo_118 rfl hB0.kb wd1449 wd44 rfl rfl (Nat.le_of_ble_eq_true rfl) ⟨Nat.le_of_ble_eq_true rfl, Nat.le_of_ble_eq_true rfl⟩ (s_Mo_failIfN hB0 rfl ?_)
            refine bp_aload_n (q := 92) 42 rfl rfl rfl rfl ?_
            refine bp_aload_n (q := 93) 43 rfl rfl rfl rfl ?_
            refine bp_ldc2 (q := 96) 44 rfl rfl wd1545 ?_
            refine bp_callV (q := 99) (ci := 9) 45 rfl rfl cw_Mo_word lk_Mo_197 rfl hB0.kb wd1492 wd53 rfl rfl (Nat.le_of_ble_eq_true rfl) ⟨Nat.le_of_ble_eq_true rfl, Nat.le_of_ble_eq_true rfl⟩ (s_Mo_word (ro := false) (k := 6) hB0 hT lt_233 (by decide) hu hv huv ?_)
            refine bp_if_eq (q := 102) (tgt := 107) 46 rfl rfl (by decide) (fun z99 => ?_) (fun z99 => ?_)
            · refine bp_aload_n (q := 108) 49 rfl rfl rfl rfl ?_
              refine bp_getI (q := 111) (ci := 9) (j := 16) 50 rfl rfl fl_Mo_96_9 hB0.kb rfl ?_
              rw [hB0.i16]
              refine bp_putI (q := 114) (ci := 9) (j := 16) 51 rfl rfl fl_Mo_96_9 cl9 hB0.kb (fun r hr => by cases hr; rfl) (by decide) rfl rfl ?_
              refine bp_nx (X := fun h1 => MoX M h0 h1 tw i 0 fm tl (mlV v) (v 3) (v 4) (v 5) nt.length 0 false tb.length nf nn dg nu kd pn pe T xs L ps L1 p1 nt tb fd) (hB0.s16 rfl) (fun h1 hB1 => ?_)
              refine bp_aload_n (q := 115) 52 rfl rfl rfl rfl ?_
              refine bp_aload_n (q := 116) 53 rfl rfl rfl rfl ?_
              refine bp_ldc2 (q := 119) 54 rfl rfl wd1548 ?_
              refine bp_callV (q := 122) (ci := 9) 55 rfl rfl cw_Mo_word lk_Mo_197 rfl hB1.kb wd1492 wd53 rfl rfl (Nat.le_of_ble_eq_true rfl) ⟨Nat.le_of_ble_eq_true rfl, Nat.le_of_ble_eq_true rfl⟩ (s_Mo_word (ro := false) (k := 7) hB1 hT lt_239 (by decide) hu hv huv ?_)
              refine bp_if_ne (q := 125) (tgt := 135) 56 rfl rfl (by decide) (fun z122 => ?_) (fun z122 => ?_)
              · refine bp_iconst (v := 0) (q := 136) 61 rfl rfl (by decide) ?_
                refine bp_goto (tgt := 171) 62 rfl (by decide) ?_
                refine bp_putI (q := 174) (ci := 9) (j := 17) 77 rfl rfl fl_Mo_99_9 cl9 hB1.kb (fun r hr => by cases hr; rfl) (by decide) rfl rfl ?_
                refine bp_nx (X := fun h2 => MoX M h0 h2 tw i 0 fm tl (mlV v) 0 (v 4) (v 5) nt.length 0 false tb.length nf nn dg nu kd pn pe T xs L ps L1 p1 nt tb fd) (hB1.s17 rfl) (fun h2 hB2 => ?_)
                refine bp_aload_n (q := 175) 78 rfl rfl rfl rfl ?_
                refine bp_aload_n (q := 176) 79 rfl rfl rfl rfl ?_
                refine bp_ldc2 (q := 179) 80 rfl rfl wd1546 ?_
                refine bp_callV (q := 182) (ci := 9) 81 rfl rfl cw_Mo_word lk_Mo_197 rfl hB2.kb wd1492 wd53 rfl rfl (Nat.le_of_ble_eq_true rfl) ⟨Nat.le_of_ble_eq_true rfl, Nat.le_of_ble_eq_true rfl⟩ (s_Mo_word (ro := false) (k := 11) hB2 hT lt_235 (by decide) hu hv huv ?_)
                refine bp_if_eq (q := 185) (tgt := 189) 82 rfl rfl (by decide) (fun z182 => ?_) (fun z182 => ?_)
                · refine bp_aload_n (q := 190) 85 rfl rfl rfl rfl ?_
                  refine bp_getI (q := 193) (ci := 9) (j := 18) 86 rfl rfl fl_Mo_102_9 hB2.kb rfl ?_
                  rw [hB2.i18]
                  refine bp_putI (q := 196) (ci := 9) (j := 18) 87 rfl rfl fl_Mo_102_9 cl9 hB2.kb (fun r hr => by cases hr; rfl) (by decide) rfl rfl ?_
                  refine bp_nx (X := fun h3 => MoX M h0 h3 tw i 0 fm tl (mlV v) 0 (v 4) (v 5) nt.length 0 false tb.length nf nn dg nu kd pn pe T xs L ps L1 p1 nt tb fd) (hB2.s18 rfl) (fun h3 hB3 => ?_)
                  refine bp_aload_n (q := 197) 88 rfl rfl rfl rfl ?_
                  refine bp_ldc2 (q := 200) 89 rfl rfl wd1547 ?_
                  refine bp_callV (q := 203) (ci := 9) 90 rfl rfl cw_Mo_word lk_Mo_197 rfl hB3.kb wd1492 wd53 rfl rfl (Nat.le_of_ble_eq_true rfl) ⟨Nat.le_of_ble_eq_true rfl, Nat.le_of_ble_eq_true rfl⟩ (s_Mo_word (ro := false) (k := 12) hB3 hT lt_237 (by decide) hu hv huv ?_)
                  refine bp_if_eq (q := 206) (tgt := 249) 91 rfl rfl (by decide) (fun z203 => ?_) (fun z203 => ?_)
                  · refine bp_vret 115 rfl rfl  ⟨_, rfl, ?_⟩
                    have y5 : dg ≤ 5 := (nI_le_iff (b := 5) hdg (by decide)).mp z77
                    exact hQ _ (OUTB.ok (v := bp_u1 v 3 0) (nm := nm) hB3 (by rw [hW, decide_eq_false hnt]; exact bO_s (nf_any (by decide) y5) (by decide) (by decide) (by decide)) hoN)
                  · exact absurd (bI1 z203) (by rw [hW]; decide)
                · exact absurd (bI1 z182) (by rw [hW]; decide)
              · exact absurd (bI0.mp (by first | exact z122 | exact Classical.not_not.mp z122)) (by rw [hW]; decide)
            · exact absurd (bI1 z99) (by rw [hW]; decide)
          · refine bp_iconst (v := 1) (q := 81) 36 rfl rfl (by decide) ?_
            refine bp_goto (tgt := 85) 37 rfl (by decide) ?_
            refine bp_bipush (v := -5) (q := 87) 39 rfl rfl (by decide) ?_
            refine bp_iload_n (q := 88) 40 rfl rfl rfl rfl ?_
            refine bp_callV (q := 91) (ci := 9) 41 rfl rfl cw_Mo_failIf lk_Mo_118 rfl hB0.kb wd1449 wd44 rfl rfl (Nat.le_of_ble_eq_true rfl) ⟨Nat.le_of_ble_eq_true rfl, Nat.le_of_ble_eq_true rfl⟩ (s_Mo_failIf0 hB0 (by decide) rfl (fun h1 hB1 => ?_))
            refine bp_aload_n (q := 92) 42 rfl rfl rfl rfl ?_
            refine bp_aload_n (q := 93) 43 rfl rfl rfl rfl ?_
            refine bp_ldc2 (q := 96) 44 rfl rfl wd1545 ?_
            refine bp_callV (q := 99) (ci := 9) 45 rfl rfl cw_Mo_word lk_Mo_197 rfl hB1.kb wd1492 wd53 rfl rfl (Nat.le_of_ble_eq_true rfl) ⟨Nat.le_of_ble_eq_true rfl, Nat.le_of_ble_eq_true rfl⟩ (s_Mo_word (ro := false) (k := 6) hB1 hT lt_233 (by decide) hu hv huv ?_)
            refine bp_if_eq (q := 102) (tgt := 107) 46 rfl rfl (by decide) (fun z99 => ?_) (fun z99 => ?_)
            · refine bp_aload_n (q := 108) 49 rfl rfl rfl rfl ?_
              refine bp_getI (q := 111) (ci := 9) (j := 16) 50 rfl rfl fl_Mo_96_9 hB1.kb rfl ?_
              rw [hB1.i16]
              refine bp_putI (q := 114) (ci := 9) (j := 16) 51 rfl rfl fl_Mo_96_9 cl9 hB1.kb (fun r hr => by cases hr; rfl) (by decide) rfl rfl ?_
              refine bp_nx (X := fun h2 => MoX M h0 h2 tw i (-5) (nI th) tl (mlV v) (v 3) (v 4) (v 5) nt.length 0 false tb.length nf nn dg nu kd pn pe T xs L ps L1 p1 nt tb fd) (hB1.s16 rfl) (fun h2 hB2 => ?_)
              refine bp_aload_n (q := 115) 52 rfl rfl rfl rfl ?_
              refine bp_aload_n (q := 116) 53 rfl rfl rfl rfl ?_
              refine bp_ldc2 (q := 119) 54 rfl rfl wd1548 ?_
              refine bp_callV (q := 122) (ci := 9) 55 rfl rfl cw_Mo_word lk_Mo_197 rfl hB2.kb wd1492 wd53 rfl rfl (Nat.le_of_ble_eq_true rfl) ⟨Nat.le_of_ble_eq_true rfl, Nat.le_of_ble_eq_true rfl⟩ (s_Mo_word (ro := false) (k := 7) hB2 hT lt_239 (by decide) hu hv huv ?_)
              refine bp_if_ne (q := 125) (tgt := 135) 56 rfl rfl (by decide) (fun z122 => ?_) (fun z122 => ?_)
              · refine bp_iconst (v := 0) (q := 136) 61 rfl rfl (by decide) ?_
                refine bp_goto (tgt := 171) 62 rfl (by decide) ?_
                refine bp_putI (q := 174) (ci := 9) (j := 17) 77 rfl rfl fl_Mo_99_9 cl9 hB2.kb (fun r hr => by cases hr; rfl) (by decide) rfl rfl ?_
                refine bp_nx (X := fun h3 => MoX M h0 h3 tw i (-5) (nI th) tl (mlV v) 0 (v 4) (v 5) nt.length 0 false tb.length nf nn dg nu kd pn pe T xs L ps L1 p1 nt tb fd) (hB2.s17 rfl) (fun h3 hB3 => ?_)
                refine bp_aload_n (q := 175) 78 rfl rfl rfl rfl ?_
                refine bp_aload_n (q := 176) 79 rfl rfl rfl rfl ?_
                refine bp_ldc2 (q := 179) 80 rfl rfl wd1546 ?_
                refine bp_callV (q := 182) (ci := 9) 81 rfl rfl cw_Mo_word lk_Mo_197 rfl hB3.kb wd1492 wd53 rfl rfl (Nat.le_of_ble_eq_true rfl) ⟨Nat.le_of_ble_eq_true rfl, Nat.le_of_ble_eq_true rfl⟩ (s_Mo_word (ro := false) (k := 11) hB3 hT lt_235 (by decide) hu hv huv ?_)
                refine bp_if_eq (q := 185) (tgt := 189) 82 rfl rfl (by decide) (fun z182 => ?_) (fun z182 => ?_)
                · refine bp_aload_n (q := 190) 85 rfl rfl rfl rfl ?_
                  refine bp_getI (q := 193) (ci := 9) (j := 18) 86 rfl rfl fl_Mo_102_9 hB3.kb rfl ?_
                  rw [hB3.i18]
                  refine bp_putI (q := 196) (ci := 9) (j := 18) 87 rfl rfl fl_Mo_102_9 cl9 hB3.kb (fun r hr => by cases hr; rfl) (by decide) rfl rfl ?_
                  refine bp_nx (X := fun h4 => MoX M h0 h4 tw i (-5) (nI th) tl (mlV v) 0 (v 4) (v 5) nt.length 0 false tb.length nf nn dg nu kd pn pe T xs L ps L1 p1 nt tb fd) (hB3.s18 rfl) (fun h4 hB4 => ?_)
                  refine bp_aload_n (q := 197) 88 rfl rfl rfl rfl ?_
                  refine bp_ldc2 (q := 200) 89 rfl rfl wd1547 ?_
                  refine bp_callV (q := 203) (ci := 9) 90 rfl rfl cw_Mo_word lk_Mo_197 rfl hB4.kb wd1492 wd53 rfl rfl (Nat.le_of_ble_eq_true rfl) ⟨Nat.le_of_ble_eq_true rfl, Nat.le_of_ble_eq_true rfl⟩ (s_Mo_word (ro := false) (k := 12) hB4 hT lt_237 (by decide) hu hv huv ?_)
                  refine bp_if_eq (q := 206) (tgt := 249) 91 rfl rfl (by decide) (fun z203 => ?_) (fun z203 => ?_)
                  · refine bp_vret 115 rfl rfl  ⟨_, rfl, ?_⟩
                    have y5 : 5 < dg := Nat.not_le.mp (fun e => z77 ((nI_le_iff (b := 5) hdg (by decide)).mpr e))
                    exact hQ _ (OUTB.bad hB4 (by rw [hW, bO_f (nf_big (by decide) (by decide) y5)]) (by rw [hW, bO_f (nf_big (by decide) (by decide) y5)]) (by decide))
                  · exact absurd (bI1 z203) (by rw [hW]; decide)
                · exact absurd (bI1 z182) (by rw [hW]; decide)
              · exact absurd (bI0.mp (by first | exact z122 | exact Classical.not_not.mp z122)) (by rw [hW]; decide)
            · exact absurd (bI1 z99) (by rw [hW]; decide)
        · refine bp_aload_n (q := 41) 16 rfl rfl rfl rfl ?_
          refine bp_ldc2 (q := 44) 17 rfl rfl wd1549 ?_
          refine bp_callV (q := 47) (ci := 9) 18 rfl rfl cw_Mo_word lk_Mo_197 rfl hB0.kb wd1492 wd53 rfl rfl (Nat.le_of_ble_eq_true rfl) ⟨Nat.le_of_ble_eq_true rfl, Nat.le_of_ble_eq_true rfl⟩ (s_Mo_word (ro := false) (k := 8) hB0 hT lt_241 (by decide) hu hv huv ?_)
          refine bp_if_ne (q := 50) (tgt := 60) 19 rfl rfl (by decide) (fun z47 => ?_) (fun z47 => ?_)
          · refine bp_iconst (v := 1) (q := 61) 24 rfl rfl (by decide) ?_
            have hW : wdf T nf nn 15 1 = 8 := of_decide_eq_true (bI1 z47)
            refine bp_goto (tgt := 65) 25 rfl (by decide) ?_
            refine bp_istore_n (q := 66) 27 rfl rfl rfl (by decide) (bp_up2 rfl) ?_
            refine bp_iload_n (q := 67) 28 rfl rfl rfl rfl ?_
            refine bp_if_ne (q := 70) (tgt := 71) 29 rfl rfl (by decide) (fun z67 => ?_) (fun z => absurd z (by decide))
            refine bp_aload_n (q := 72) 31 rfl rfl rfl rfl ?_
            refine bp_aload_n (q := 73) 32 rfl rfl rfl rfl ?_
            refine bp_getI (q := 76) (ci := 9) (j := 29) 33 rfl rfl fl_Mo_185_9 hB0.kb rfl ?_
            rw [hB0.i29]
            refine bp_iconst (v := 5) (q := 77) 34 rfl rfl (by decide) ?_
            refine bp_icmp_le (q := 80) (tgt := 84) 35 rfl rfl (by decide) (fun z77 => ?_) (fun z77 => ?_)
            · refine bp_iconst (v := 0) (q := 85) 38 rfl rfl (by decide) ?_
              refine bp_bipush (v := -5) (q := 87) 39 rfl rfl (by decide) ?_
              refine bp_iload_n (q := 88) 40 rfl rfl rfl rfl ?_
              refine bp_callV (q := 91) (ci := 9) 41 rfl rfl cw_Mo_failIf lk_Mo_118 rfl hB0.kb wd1449 wd44 rfl rfl (Nat.le_of_ble_eq_true rfl) ⟨Nat.le_of_ble_eq_true rfl, Nat.le_of_ble_eq_true rfl⟩ (s_Mo_failIfN hB0 rfl ?_)
              refine bp_aload_n (q := 92) 42 rfl rfl rfl rfl ?_
              refine bp_aload_n (q := 93) 43 rfl rfl rfl rfl ?_
              refine bp_ldc2 (q := 96) 44 rfl rfl wd1545 ?_
              refine bp_callV (q := 99) (ci := 9) 45 rfl rfl cw_Mo_word lk_Mo_197 rfl hB0.kb wd1492 wd53 rfl rfl (Nat.le_of_ble_eq_true rfl) ⟨Nat.le_of_ble_eq_true rfl, Nat.le_of_ble_eq_true rfl⟩ (s_Mo_word (ro := false) (k := 6) hB0 hT lt_233 (by decide) hu hv huv ?_)
              refine bp_if_eq (q := 102) (tgt := 107) 46 rfl rfl (by decide) (fun z99 => ?_) (fun z99 => ?_)
              · refine bp_aload_n (q := 108) 49 rfl rfl rfl rfl ?_
                refine bp_getI (q := 111) (ci := 9) (j := 16) 50 rfl rfl fl_Mo_96_9 hB0.kb rfl ?_
                rw [hB0.i16]
                refine bp_putI (q := 114) (ci := 9) (j := 16) 51 rfl rfl fl_Mo_96_9 cl9 hB0.kb (fun r hr => by cases hr; rfl) (by decide) rfl rfl ?_
                refine bp_nx (X := fun h1 => MoX M h0 h1 tw i 0 fm tl (mlV v) (v 3) (v 4) (v 5) nt.length 0 false tb.length nf nn dg nu kd pn pe T xs L ps L1 p1 nt tb fd) (hB0.s16 rfl) (fun h1 hB1 => ?_)
                refine bp_aload_n (q := 115) 52 rfl rfl rfl rfl ?_
                refine bp_aload_n (q := 116) 53 rfl rfl rfl rfl ?_
                refine bp_ldc2 (q := 119) 54 rfl rfl wd1548 ?_
                refine bp_callV (q := 122) (ci := 9) 55 rfl rfl cw_Mo_word lk_Mo_197 rfl hB1.kb wd1492 wd53 rfl rfl (Nat.le_of_ble_eq_true rfl) ⟨Nat.le_of_ble_eq_true rfl, Nat.le_of_ble_eq_true rfl⟩ (s_Mo_word (ro := false) (k := 7) hB1 hT lt_239 (by decide) hu hv huv ?_)
                refine bp_if_ne (q := 125) (tgt := 135) 56 rfl rfl (by decide) (fun z122 => ?_) (fun z122 => ?_)
                · exact absurd (bI1 z122) (by rw [hW]; decide)
                · refine bp_aload_n (q := 126) 57 rfl rfl rfl rfl ?_
                  refine bp_ldc2 (q := 129) 58 rfl rfl wd1546 ?_
                  refine bp_callV (q := 132) (ci := 9) 59 rfl rfl cw_Mo_word lk_Mo_197 rfl hB1.kb wd1492 wd53 rfl rfl (Nat.le_of_ble_eq_true rfl) ⟨Nat.le_of_ble_eq_true rfl, Nat.le_of_ble_eq_true rfl⟩ (s_Mo_word (ro := false) (k := 11) hB1 hT lt_235 (by decide) hu hv huv ?_)
                  refine bp_if_eq (q := 135) (tgt := 139) 60 rfl rfl (by decide) (fun z132 => ?_) (fun z132 => ?_)
                  · refine bp_aload_n (q := 140) 63 rfl rfl rfl rfl ?_
                    refine bp_ldc2 (q := 143) 64 rfl rfl wd1549 ?_
                    refine bp_callV (q := 146) (ci := 9) 65 rfl rfl cw_Mo_word lk_Mo_197 rfl hB1.kb wd1492 wd53 rfl rfl (Nat.le_of_ble_eq_true rfl) ⟨Nat.le_of_ble_eq_true rfl, Nat.le_of_ble_eq_true rfl⟩ (s_Mo_word (ro := false) (k := 8) hB1 hT lt_241 (by decide) hu hv huv ?_)
                    refine bp_if_eq (q := 149) (tgt := 153) 66 rfl rfl (by decide) (fun z146 => ?_) (fun z146 => ?_)
                    · exact absurd (bI0.mp (by first | exact z146 | exact Classical.not_not.mp z146)) (by rw [hW]; decide)
                    · refine bp_iconst (v := 1) (q := 150) 67 rfl rfl (by decide) ?_
                      refine bp_goto (tgt := 171) 68 rfl (by decide) ?_
                      refine bp_putI (q := 174) (ci := 9) (j := 17) 77 rfl rfl fl_Mo_99_9 cl9 hB1.kb (fun r hr => by cases hr; rfl) (by decide) rfl rfl ?_
                      refine bp_nx (X := fun h2 => MoX M h0 h2 tw i 0 fm tl (mlV v) 1 (v 4) (v 5) nt.length 0 false tb.length nf nn dg nu kd pn pe T xs L ps L1 p1 nt tb fd) (hB1.s17 rfl) (fun h2 hB2 => ?_)
                      refine bp_aload_n (q := 175) 78 rfl rfl rfl rfl ?_
                      refine bp_aload_n (q := 176) 79 rfl rfl rfl rfl ?_
                      refine bp_ldc2 (q := 179) 80 rfl rfl wd1546 ?_
                      refine bp_callV (q := 182) (ci := 9) 81 rfl rfl cw_Mo_word lk_Mo_197 rfl hB2.kb wd1492 wd53 rfl rfl (Nat.le_of_ble_eq_true rfl) ⟨Nat.le_of_ble_eq_true rfl, Nat.le_of_ble_eq_true rfl⟩ (s_Mo_word (ro := false) (k := 11) hB2 hT lt_235 (by decide) hu hv huv ?_)
                      refine bp_if_eq (q := 185) (tgt := 189) 82 rfl rfl (by decide) (fun z182 => ?_) (fun z182 => ?_)
                      · refine bp_aload_n (q := 190) 85 rfl rfl rfl rfl ?_
                        refine bp_getI (q := 193) (ci := 9) (j := 18) 86 rfl rfl fl_Mo_102_9 hB2.kb rfl ?_
                        rw [hB2.i18]
                        refine bp_putI (q := 196) (ci := 9) (j := 18) 87 rfl rfl fl_Mo_102_9 cl9 hB2.kb (fun r hr => by cases hr; rfl) (by decide) rfl rfl ?_
                        refine bp_nx (X := fun h3 => MoX M h0 h3 tw i 0 fm tl (mlV v) 1 (v 4) (v 5) nt.length 0 false tb.length nf nn dg nu kd pn pe T xs L ps L1 p1 nt tb fd) (hB2.s18 rfl) (fun h3 hB3 => ?_)
                        refine bp_aload_n (q := 197) 88 rfl rfl rfl rfl ?_
                        refine bp_ldc2 (q := 200) 89 rfl rfl wd1547 ?_
                        refine bp_callV (q := 203) (ci := 9) 90 rfl rfl cw_Mo_word lk_Mo_197 rfl hB3.kb wd1492 wd53 rfl rfl (Nat.le_of_ble_eq_true rfl) ⟨Nat.le_of_ble_eq_true rfl, Nat.le_of_ble_eq_true rfl⟩ (s_Mo_word (ro := false) (k := 12) hB3 hT lt_237 (by decide) hu hv huv ?_)
                        refine bp_if_eq (q := 206) (tgt := 249) 91 rfl rfl (by decide) (fun z203 => ?_) (fun z203 => ?_)
                        · refine bp_vret 115 rfl rfl  ⟨_, rfl, ?_⟩
                          have y5 : dg ≤ 5 := (nI_le_iff (b := 5) hdg (by decide)).mp z77
                          exact hQ _ (OUTB.ok (v := bp_u1 v 3 1) (nm := nm) hB3 (by rw [hW, decide_eq_false hnt]; exact bO_s (nf_any (by decide) y5) (by decide) (by decide) (by decide)) hoN)
                        · exact absurd (bI1 z203) (by rw [hW]; decide)
                      · exact absurd (bI1 z182) (by rw [hW]; decide)
                  · exact absurd (bI1 z132) (by rw [hW]; decide)
              · exact absurd (bI1 z99) (by rw [hW]; decide)
            · refine bp_iconst (v := 1) (q := 81) 36 rfl rfl (by decide) ?_
              refine bp_goto (tgt := 85) 37 rfl (by decide) ?_
              refine bp_bipush (v := -5) (q := 87) 39 rfl rfl (by decide) ?_
              refine bp_iload_n (q := 88) 40 rfl rfl rfl rfl ?_
              refine bp_callV (q := 91) (ci := 9) 41 rfl rfl cw_Mo_failIf lk_Mo_118 rfl hB0.kb wd1449 wd44 rfl rfl (Nat.le_of_ble_eq_true rfl) ⟨Nat.le_of_ble_eq_true rfl, Nat.le_of_ble_eq_true rfl⟩ (s_Mo_failIf0 hB0 (by decide) rfl (fun h1 hB1 => ?_))
              refine bp_aload_n (q := 92) 42 rfl rfl rfl rfl ?_
              refine bp_aload_n (q := 93) 43 rfl rfl rfl rfl ?_
              refine bp_ldc2 (q := 96) 44 rfl rfl wd1545 ?_
              refine bp_callV (q := 99) (ci := 9) 45 rfl rfl cw_Mo_word lk_Mo_197 rfl hB1.kb wd1492 wd53 rfl rfl (Nat.le_of_ble_eq_true rfl) ⟨Nat.le_of_ble_eq_true rfl, Nat.le_of_ble_eq_true rfl⟩ (s_Mo_word (ro := false) (k := 6) hB1 hT lt_233 (by decide) hu hv huv ?_)
              refine bp_if_eq (q := 102) (tgt := 107) 46 rfl rfl (by decide) (fun z99 => ?_) (fun z99 => ?_)
              · refine bp_aload_n (q := 108) 49 rfl rfl rfl rfl ?_
                refine bp_getI (q := 111) (ci := 9) (j := 16) 50 rfl rfl fl_Mo_96_9 hB1.kb rfl ?_
                rw [hB1.i16]
                refine bp_putI (q := 114) (ci := 9) (j := 16) 51 rfl rfl fl_Mo_96_9 cl9 hB1.kb (fun r hr => by cases hr; rfl) (by decide) rfl rfl ?_
                refine bp_nx (X := fun h2 => MoX M h0 h2 tw i (-5) (nI th) tl (mlV v) (v 3) (v 4) (v 5) nt.length 0 false tb.length nf nn dg nu kd pn pe T xs L ps L1 p1 nt tb fd) (hB1.s16 rfl) (fun h2 hB2 => ?_)
                refine bp_aload_n (q := 115) 52 rfl rfl rfl rfl ?_
                refine bp_aload_n (q := 116) 53 rfl rfl rfl rfl ?_
                refine bp_ldc2 (q := 119) 54 rfl rfl wd1548 ?_
                refine bp_callV (q := 122) (ci := 9) 55 rfl rfl cw_Mo_word lk_Mo_197 rfl hB2.kb wd1492 wd53 rfl rfl (Nat.le_of_ble_eq_true rfl) ⟨Nat.le_of_ble_eq_true rfl, Nat.le_of_ble_eq_true rfl⟩ (s_Mo_word (ro := false) (k := 7) hB2 hT lt_239 (by decide) hu hv huv ?_)
                refine bp_if_ne (q := 125) (tgt := 135) 56 rfl rfl (by decide) (fun z122 => ?_) (fun z122 => ?_)
                · exact absurd (bI1 z122) (by rw [hW]; decide)
                · refine bp_aload_n (q := 126) 57 rfl rfl rfl rfl ?_
                  refine bp_ldc2 (q := 129) 58 rfl rfl wd1546 ?_
                  refine bp_callV (q := 132) (ci := 9) 59 rfl rfl cw_Mo_word lk_Mo_197 rfl hB2.kb wd1492 wd53 rfl rfl (Nat.le_of_ble_eq_true rfl) ⟨Nat.le_of_ble_eq_true rfl, Nat.le_of_ble_eq_true rfl⟩ (s_Mo_word (ro := false) (k := 11) hB2 hT lt_235 (by decide) hu hv huv ?_)
                  refine bp_if_eq (q := 135) (tgt := 139) 60 rfl rfl (by decide) (fun z132 => ?_) (fun z132 => ?_)
                  · refine bp_aload_n (q := 140) 63 rfl rfl rfl rfl ?_
                    refine bp_ldc2 (q := 143) 64 rfl rfl wd1549 ?_
                    refine bp_callV (q := 146) (ci := 9) 65 rfl rfl cw_Mo_word lk_Mo_197 rfl hB2.kb wd1492 wd53 rfl rfl (Nat.le_of_ble_eq_true rfl) ⟨Nat.le_of_ble_eq_true rfl, Nat.le_of_ble_eq_true rfl⟩ (s_Mo_word (ro := false) (k := 8) hB2 hT lt_241 (by decide) hu hv huv ?_)
                    refine bp_if_eq (q := 149) (tgt := 153) 66 rfl rfl (by decide) (fun z146 => ?_) (fun z146 => ?_)
                    · exact absurd (bI0.mp (by first | exact z146 | exact Classical.not_not.mp z146)) (by rw [hW]; decide)
                    · refine bp_iconst (v := 1) (q := 150) 67 rfl rfl (by decide) ?_
                      refine bp_goto (tgt := 171) 68 rfl (by decide) ?_
                      refine bp_putI (q := 174) (ci := 9) (j := 17) 77 rfl rfl fl_Mo_99_9 cl9 hB2.kb (fun r hr => by cases hr; rfl) (by decide) rfl rfl ?_
                      refine bp_nx (X := fun h3 => MoX M h0 h3 tw i (-5) (nI th) tl (mlV v) 1 (v 4) (v 5) nt.length 0 false tb.length nf nn dg nu kd pn pe T xs L ps L1 p1 nt tb fd) (hB2.s17 rfl) (fun h3 hB3 => ?_)
                      refine bp_aload_n (q := 175) 78 rfl rfl rfl rfl ?_
                      refine bp_aload_n (q := 176) 79 rfl rfl rfl rfl ?_
                      refine bp_ldc2 (q := 179) 80 rfl rfl wd1546 ?_
                      refine bp_callV (q := 182) (ci := 9) 81 rfl rfl cw_Mo_word lk_Mo_197 rfl hB3.kb wd1492 wd53 rfl rfl (Nat.le_of_ble_eq_true rfl) ⟨Nat.le_of_ble_eq_true rfl, Nat.le_of_ble_eq_true rfl⟩ (s_Mo_word (ro := false) (k := 11) hB3 hT lt_235 (by decide) hu hv huv ?_)
                      refine bp_if_eq (q := 185) (tgt := 189) 82 rfl rfl (by decide) (fun z182 => ?_) (fun z182 => ?_)
                      · refine bp_aload_n (q := 190) 85 rfl rfl rfl rfl ?_
                        refine bp_getI (q := 193) (ci := 9) (j := 18) 86 rfl rfl fl_Mo_102_9 hB3.kb rfl ?_
                        rw [hB3.i18]
                        refine bp_putI (q := 196) (ci := 9) (j := 18) 87 rfl rfl fl_Mo_102_9 cl9 hB3.kb (fun r hr => by cases hr; rfl) (by decide) rfl rfl ?_
                        refine bp_nx (X := fun h4 => MoX M h0 h4 tw i (-5) (nI th) tl (mlV v) 1 (v 4) (v 5) nt.length 0 false tb.length nf nn dg nu kd pn pe T xs L ps L1 p1 nt tb fd) (hB3.s18 rfl) (fun h4 hB4 => ?_)
                        refine bp_aload_n (q := 197) 88 rfl rfl rfl rfl ?_
                        refine bp_ldc2 (q := 200) 89 rfl rfl wd1547 ?_
                        refine bp_callV (q := 203) (ci := 9) 90 rfl rfl cw_Mo_word lk_Mo_197 rfl hB4.kb wd1492 wd53 rfl rfl (Nat.le_of_ble_eq_true rfl) ⟨Nat.le_of_ble_eq_true rfl, Nat.le_of_ble_eq_true rfl⟩ (s_Mo_word (ro := false) (k := 12) hB4 hT lt_237 (by decide) hu hv huv ?_)
                        refine bp_if_eq (q := 206) (tgt := 249) 91 rfl rfl (by decide) (fun z203 => ?_) (fun z203 => ?_)
                        · refine bp_vret 115 rfl rfl  ⟨_, rfl, ?_⟩
                          have y5 : 5 < dg := Nat.not_le.mp (fun e => z77 ((nI_le_iff (b := 5) hdg (by decide)).mpr e))
                          exact hQ _ (OUTB.bad hB4 (by rw [hW, bO_f (nf_big (by decide) (by decide) y5)]) (by rw [hW, bO_f (nf_big (by decide) (by decide) y5)]) (by decide))
                        · exact absurd (bI1 z203) (by rw [hW]; decide)
                      · exact absurd (bI1 z182) (by rw [hW]; decide)
                  · exact absurd (bI1 z132) (by rw [hW]; decide)
              · exact absurd (bI1 z99) (by rw [hW]; decide)
          · refine bp_aload_n (q := 51) 20 rfl rfl rfl rfl ?_
            refine bp_ldc2 (q := 54) 21 rfl rfl wd1550 ?_
            refine bp_callV (q := 57) (ci := 9) 22 rfl rfl cw_Mo_word lk_Mo_197 rfl hB0.kb wd1492 wd53 rfl rfl (Nat.le_of_ble_eq_true rfl) ⟨Nat.le_of_ble_eq_true rfl, Nat.le_of_ble_eq_true rfl⟩ (s_Mo_word (ro := false) (k := 9) hB0 hT lt_243 (by decide) hu hv huv ?_)
            refine bp_if_eq (q := 60) (tgt := 64) 23 rfl rfl (by decide) (fun z57 => ?_) (fun z57 => ?_)
            · refine bp_iconst (v := 0) (q := 65) 26 rfl rfl (by decide) ?_
              refine bp_istore_n (q := 66) 27 rfl rfl rfl (by decide) (bp_up2 rfl) ?_
              refine bp_iload_n (q := 67) 28 rfl rfl rfl rfl ?_
              refine bp_if_ne (q := 70) (tgt := 71) 29 rfl rfl (by decide) (fun z => absurd z (by decide)) (fun z67 => ?_)
              refine bp_vret 30 rfl rfl  ⟨_, rfl, ?_⟩
              have y7 : ¬ wdf T nf nn 15 1 = 6 := of_decide_eq_false (bI0.mp (by first | exact z7 | exact Classical.not_not.mp z7))
              have y17 : ¬ wdf T nf nn 15 1 = 11 := of_decide_eq_false (bI0.mp (by first | exact z17 | exact Classical.not_not.mp z17))
              have y27 : ¬ wdf T nf nn 15 1 = 12 := of_decide_eq_false (bI0.mp (by first | exact z27 | exact Classical.not_not.mp z27))
              have y37 : ¬ wdf T nf nn 15 1 = 7 := of_decide_eq_false (bI0.mp (by first | exact z37 | exact Classical.not_not.mp z37))
              have y47 : ¬ wdf T nf nn 15 1 = 8 := of_decide_eq_false (bI0.mp (by first | exact z47 | exact Classical.not_not.mp z47))
              have y57 : ¬ wdf T nf nn 15 1 = 9 := of_decide_eq_false (bI0.mp (by first | exact z57 | exact Classical.not_not.mp z57))
              have hW : wdf T nf nn 15 1 = 0 := by have := wdf_16 T nf nn; omega
              exact hQ _ (OUTB.ok (v := v) (nm := nm) hB0 (by rw [hW, decide_eq_false hnt]; exact bO_s nf_0 (by decide) (by decide) (by decide)) hoN)
            · refine bp_iconst (v := 1) (q := 61) 24 rfl rfl (by decide) ?_
              have hW : wdf T nf nn 15 1 = 9 := of_decide_eq_true (bI1 z57)
              refine bp_goto (tgt := 65) 25 rfl (by decide) ?_
              refine bp_istore_n (q := 66) 27 rfl rfl rfl (by decide) (bp_up2 rfl) ?_
              refine bp_iload_n (q := 67) 28 rfl rfl rfl rfl ?_
              refine bp_if_ne (q := 70) (tgt := 71) 29 rfl rfl (by decide) (fun z67 => ?_) (fun z => absurd z (by decide))
              refine bp_aload_n (q := 72) 31 rfl rfl rfl rfl ?_
              refine bp_aload_n (q := 73) 32 rfl rfl rfl rfl ?_
              refine bp_getI (q := 76) (ci := 9) (j := 29) 33 rfl rfl fl_Mo_185_9 hB0.kb rfl ?_
              rw [hB0.i29]
              refine bp_iconst (v := 5) (q := 77) 34 rfl rfl (by decide) ?_
              refine bp_icmp_le (q := 80) (tgt := 84) 35 rfl rfl (by decide) (fun z77 => ?_) (fun z77 => ?_)
              · refine bp_iconst (v := 0) (q := 85) 38 rfl rfl (by decide) ?_
                refine bp_bipush (v := -5) (q := 87) 39 rfl rfl (by decide) ?_
                refine bp_iload_n (q := 88) 40 rfl rfl rfl rfl ?_
                refine bp_callV (q := 91) (ci := 9) 41 rfl rfl cw_Mo_failIf lk_Mo_118 rfl hB0.kb wd1449 wd44 rfl rfl (Nat.le_of_ble_eq_true rfl) ⟨Nat.le_of_ble_eq_true rfl, Nat.le_of_ble_eq_true rfl⟩ (s_Mo_failIfN hB0 rfl ?_)
                refine bp_aload_n (q := 92) 42 rfl rfl rfl rfl ?_
                refine bp_aload_n (q := 93) 43 rfl rfl rfl rfl ?_
                refine bp_ldc2 (q := 96) 44 rfl rfl wd1545 ?_
                refine bp_callV (q := 99) (ci := 9) 45 rfl rfl cw_Mo_word lk_Mo_197 rfl hB0.kb wd1492 wd53 rfl rfl (Nat.le_of_ble_eq_true rfl) ⟨Nat.le_of_ble_eq_true rfl, Nat.le_of_ble_eq_true rfl⟩ (s_Mo_word (ro := false) (k := 6) hB0 hT lt_233 (by decide) hu hv huv ?_)
                refine bp_if_eq (q := 102) (tgt := 107) 46 rfl rfl (by decide) (fun z99 => ?_) (fun z99 => ?_)
                · refine bp_aload_n (q := 108) 49 rfl rfl rfl rfl ?_
                  refine bp_getI (q := 111) (ci := 9) (j := 16) 50 rfl rfl fl_Mo_96_9 hB0.kb rfl ?_
                  rw [hB0.i16]
                  refine bp_putI (q := 114) (ci := 9) (j := 16) 51 rfl rfl fl_Mo_96_9 cl9 hB0.kb (fun r hr => by cases hr; rfl) (by decide) rfl rfl ?_
                  refine bp_nx (X := fun h1 => MoX M h0 h1 tw i 0 fm tl (mlV v) (v 3) (v 4) (v 5) nt.length 0 false tb.length nf nn dg nu kd pn pe T xs L ps L1 p1 nt tb fd) (hB0.s16 rfl) (fun h1 hB1 => ?_)
                  refine bp_aload_n (q := 115) 52 rfl rfl rfl rfl ?_
                  refine bp_aload_n (q := 116) 53 rfl rfl rfl rfl ?_
                  refine bp_ldc2 (q := 119) 54 rfl rfl wd1548 ?_
                  refine bp_callV (q := 122) (ci := 9) 55 rfl rfl cw_Mo_word lk_Mo_197 rfl hB1.kb wd1492 wd53 rfl rfl (Nat.le_of_ble_eq_true rfl) ⟨Nat.le_of_ble_eq_true rfl, Nat.le_of_ble_eq_true rfl⟩ (s_Mo_word (ro := false) (k := 7) hB1 hT lt_239 (by decide) hu hv huv ?_)
                  refine bp_if_ne (q := 125) (tgt := 135) 56 rfl rfl (by decide) (fun z122 => ?_) (fun z122 => ?_)
                  · exact absurd (bI1 z122) (by rw [hW]; decide)
                  · refine bp_aload_n (q := 126) 57 rfl rfl rfl rfl ?_
                    refine bp_ldc2 (q := 129) 58 rfl rfl wd1546 ?_
                    refine bp_callV (q := 132) (ci := 9) 59 rfl rfl cw_Mo_word lk_Mo_197 rfl hB1.kb wd1492 wd53 rfl rfl (Nat.le_of_ble_eq_true rfl) ⟨Nat.le_of_ble_eq_true rfl, Nat.le_of_ble_eq_true rfl⟩ (s_Mo_word (ro := false) (k := 11) hB1 hT lt_235 (by decide) hu hv huv ?_)
                    refine bp_if_eq (q := 135) (tgt := 139) 60 rfl rfl (by decide) (fun z132 => ?_) (fun z132 => ?_)
                    · refine bp_aload_n (q := 140) 63 rfl rfl rfl rfl ?_
                      refine bp_ldc2 (q := 143) 64 rfl rfl wd1549 ?_
                      refine bp_callV (q := 146) (ci := 9) 65 rfl rfl cw_Mo_word lk_Mo_197 rfl hB1.kb wd1492 wd53 rfl rfl (Nat.le_of_ble_eq_true rfl) ⟨Nat.le_of_ble_eq_true rfl, Nat.le_of_ble_eq_true rfl⟩ (s_Mo_word (ro := false) (k := 8) hB1 hT lt_241 (by decide) hu hv huv ?_)
                      refine bp_if_eq (q := 149) (tgt := 153) 66 rfl rfl (by decide) (fun z146 => ?_) (fun z146 => ?_)
                      · refine bp_aload_n (q := 154) 69 rfl rfl rfl rfl ?_
                        refine bp_ldc2 (q := 157) 70 rfl rfl wd1550 ?_
                        refine bp_callV (q := 160) (ci := 9) 71 rfl rfl cw_Mo_word lk_Mo_197 rfl hB1.kb wd1492 wd53 rfl rfl (Nat.le_of_ble_eq_true rfl) ⟨Nat.le_of_ble_eq_true rfl, Nat.le_of_ble_eq_true rfl⟩ (s_Mo_word (ro := false) (k := 9) hB1 hT lt_243 (by decide) hu hv huv ?_)
                        refine bp_if_eq (q := 163) (tgt := 167) 72 rfl rfl (by decide) (fun z160 => ?_) (fun z160 => ?_)
                        · exact absurd (bI0.mp (by first | exact z160 | exact Classical.not_not.mp z160)) (by rw [hW]; decide)
                        · refine bp_iconst (v := 2) (q := 164) 73 rfl rfl (by decide) ?_
                          refine bp_goto (tgt := 171) 74 rfl (by decide) ?_
                          refine bp_putI (q := 174) (ci := 9) (j := 17) 77 rfl rfl fl_Mo_99_9 cl9 hB1.kb (fun r hr => by cases hr; rfl) (by decide) rfl rfl ?_
                          refine bp_nx (X := fun h2 => MoX M h0 h2 tw i 0 fm tl (mlV v) 2 (v 4) (v 5) nt.length 0 false tb.length nf nn dg nu kd pn pe T xs L ps L1 p1 nt tb fd) (hB1.s17 rfl) (fun h2 hB2 => ?_)
                          refine bp_aload_n (q := 175) 78 rfl rfl rfl rfl ?_
                          refine bp_aload_n (q := 176) 79 rfl rfl rfl rfl ?_
                          refine bp_ldc2 (q := 179) 80 rfl rfl wd1546 ?_
                          refine bp_callV (q := 182) (ci := 9) 81 rfl rfl cw_Mo_word lk_Mo_197 rfl hB2.kb wd1492 wd53 rfl rfl (Nat.le_of_ble_eq_true rfl) ⟨Nat.le_of_ble_eq_true rfl, Nat.le_of_ble_eq_true rfl⟩ (s_Mo_word (ro := false) (k := 11) hB2 hT lt_235 (by decide) hu hv huv ?_)
                          refine bp_if_eq (q := 185) (tgt := 189) 82 rfl rfl (by decide) (fun z182 => ?_) (fun z182 => ?_)
                          · refine bp_aload_n (q := 190) 85 rfl rfl rfl rfl ?_
                            refine bp_getI (q := 193) (ci := 9) (j := 18) 86 rfl rfl fl_Mo_102_9 hB2.kb rfl ?_
                            rw [hB2.i18]
                            refine bp_putI (q := 196) (ci := 9) (j := 18) 87 rfl rfl fl_Mo_102_9 cl9 hB2.kb (fun r hr => by cases hr; rfl) (by decide) rfl rfl ?_
                            refine bp_nx (X := fun h3 => MoX M h0 h3 tw i 0 fm tl (mlV v) 2 (v 4) (v 5) nt.length 0 false tb.length nf nn dg nu kd pn pe T xs L ps L1 p1 nt tb fd) (hB2.s18 rfl) (fun h3 hB3 => ?_)
                            refine bp_aload_n (q := 197) 88 rfl rfl rfl rfl ?_
                            refine bp_ldc2 (q := 200) 89 rfl rfl wd1547 ?_
                            refine bp_callV (q := 203) (ci := 9) 90 rfl rfl cw_Mo_word lk_Mo_197 rfl hB3.kb wd1492 wd53 rfl rfl (Nat.le_of_ble_eq_true rfl) ⟨Nat.le_of_ble_eq_true rfl, Nat.le_of_ble_eq_true rfl⟩ (s_Mo_word (ro := false) (k := 12) hB3 hT lt_237 (by decide) hu hv huv ?_)
                            refine bp_if_eq (q := 206) (tgt := 249) 91 rfl rfl (by decide) (fun z203 => ?_) (fun z203 => ?_)
                            · refine bp_vret 115 rfl rfl  ⟨_, rfl, ?_⟩
                              have y5 : dg ≤ 5 := (nI_le_iff (b := 5) hdg (by decide)).mp z77
                              exact hQ _ (OUTB.ok (v := bp_u1 v 3 2) (nm := nm) hB3 (by rw [hW, decide_eq_false hnt]; exact bO_s (nf_any (by decide) y5) (by decide) (by decide) (by decide)) hoN)
                            · exact absurd (bI1 z203) (by rw [hW]; decide)
                          · exact absurd (bI1 z182) (by rw [hW]; decide)
                      · exact absurd (bI1 z146) (by rw [hW]; decide)
                    · exact absurd (bI1 z132) (by rw [hW]; decide)
                · exact absurd (bI1 z99) (by rw [hW]; decide)
              · refine bp_iconst (v := 1) (q := 81) 36 rfl rfl (by decide) ?_
                refine bp_goto (tgt := 85) 37 rfl (by decide) ?_
                refine bp_bipush (v := -5) (q := 87) 39 rfl rfl (by decide) ?_
                refine bp_iload_n (q := 88) 40 rfl rfl rfl rfl ?_
                refine bp_callV (q := 91) (ci := 9) 41 rfl rfl cw_Mo_failIf lk_Mo_118 rfl hB0.kb wd1449 wd44 rfl rfl (Nat.le_of_ble_eq_true rfl) ⟨Nat.le_of_ble_eq_true rfl, Nat.le_of_ble_eq_true rfl⟩ (s_Mo_failIf0 hB0 (by decide) rfl (fun h1 hB1 => ?_))
                refine bp_aload_n (q := 92) 42 rfl rfl rfl rfl ?_
                refine bp_aload_n (q := 93) 43 rfl rfl rfl rfl ?_
                refine bp_ldc2 (q := 96) 44 rfl rfl wd1545 ?_
                refine bp_callV (q := 99) (ci := 9) 45 rfl rfl cw_Mo_word lk_Mo_197 rfl hB1.kb wd1492 wd53 rfl rfl (Nat.le_of_ble_eq_true rfl) ⟨Nat.le_of_ble_eq_true rfl, Nat.le_of_ble_eq_true rfl⟩ (s_Mo_word (ro := false) (k := 6) hB1 hT lt_233 (by decide) hu hv huv ?_)
                refine bp_if_eq (q := 102) (tgt := 107) 46 rfl rfl (by decide) (fun z99 => ?_) (fun z99 => ?_)
                · refine bp_aload_n (q := 108) 49 rfl rfl rfl rfl ?_
                  refine bp_getI (q := 111) (ci := 9) (j := 16) 50 rfl rfl fl_Mo_96_9 hB1.kb rfl ?_
                  rw [hB1.i16]
                  refine bp_putI (q := 114) (ci := 9) (j := 16) 51 rfl rfl fl_Mo_96_9 cl9 hB1.kb (fun r hr => by cases hr; rfl) (by decide) rfl rfl ?_
                  refine bp_nx (X := fun h2 => MoX M h0 h2 tw i (-5) (nI th) tl (mlV v) (v 3) (v 4) (v 5) nt.length 0 false tb.length nf nn dg nu kd pn pe T xs L ps L1 p1 nt tb fd) (hB1.s16 rfl) (fun h2 hB2 => ?_)
                  refine bp_aload_n (q := 115) 52 rfl rfl rfl rfl ?_
                  refine bp_aload_n (q := 116) 53 rfl rfl rfl rfl ?_
                  refine bp_ldc2 (q := 119) 54 rfl rfl wd1548 ?_
                  refine bp_callV (q := 122) (ci := 9) 55 rfl rfl cw_Mo_word lk_Mo_197 rfl hB2.kb wd1492 wd53 rfl rfl (Nat.le_of_ble_eq_true rfl) ⟨Nat.le_of_ble_eq_true rfl, Nat.le_of_ble_eq_true rfl⟩ (s_Mo_word (ro := false) (k := 7) hB2 hT lt_239 (by decide) hu hv huv ?_)
                  refine bp_if_ne (q := 125) (tgt := 135) 56 rfl rfl (by decide) (fun z122 => ?_) (fun z122 => ?_)
                  · exact absurd (bI1 z122) (by rw [hW]; decide)
                  · refine bp_aload_n (q := 126) 57 rfl rfl rfl rfl ?_
                    refine bp_ldc2 (q := 129) 58 rfl rfl wd1546 ?_
                    refine bp_callV (q := 132) (ci := 9) 59 rfl rfl cw_Mo_word lk_Mo_197 rfl hB2.kb wd1492 wd53 rfl rfl (Nat.le_of_ble_eq_true rfl) ⟨Nat.le_of_ble_eq_true rfl, Nat.le_of_ble_eq_true rfl⟩ (s_Mo_word (ro := false) (k := 11) hB2 hT lt_235 (by decide) hu hv huv ?_)
                    refine bp_if_eq (q := 135) (tgt := 139) 60 rfl rfl (by decide) (fun z132 => ?_) (fun z132 => ?_)
                    · refine bp_aload_n (q := 140) 63 rfl rfl rfl rfl ?_
                      refine bp_ldc2 (q := 143) 64 rfl rfl wd1549 ?_
                      refine bp_callV (q := 146) (ci := 9) 65 rfl rfl cw_Mo_word lk_Mo_197 rfl hB2.kb wd1492 wd53 rfl rfl (Nat.le_of_ble_eq_true rfl) ⟨Nat.le_of_ble_eq_true rfl, Nat.le_of_ble_eq_true rfl⟩ (s_Mo_word (ro := false) (k := 8) hB2 hT lt_241 (by decide) hu hv huv ?_)
                      refine bp_if_eq (q := 149) (tgt := 153) 66 rfl rfl (by decide) (fun z146 => ?_) (fun z146 => ?_)
                      · refine bp_aload_n (q := 154) 69 rfl rfl rfl rfl ?_
                        refine bp_ldc2 (q := 157) 70 rfl rfl wd1550 ?_
                        refine bp_callV (q := 160) (ci := 9) 71 rfl rfl cw_Mo_word lk_Mo_197 rfl hB2.kb wd1492 wd53 rfl rfl (Nat.le_of_ble_eq_true rfl) ⟨Nat.le_of_ble_eq_true rfl, Nat.le_of_ble_eq_true rfl⟩ (s_Mo_word (ro := false) (k := 9) hB2 hT lt_243 (by decide) hu hv huv ?_)
                        refine bp_if_eq (q := 163) (tgt := 167) 72 rfl rfl (by decide) (fun z160 => ?_) (fun z160 => ?_)
                        · exact absurd (bI0.mp (by first | exact z160 | exact Classical.not_not.mp z160)) (by rw [hW]; decide)
                        · refine bp_iconst (v := 2) (q := 164) 73 rfl rfl (by decide) ?_
                          refine bp_goto (tgt := 171) 74 rfl (by decide) ?_
                          refine bp_putI (q := 174) (ci := 9) (j := 17) 77 rfl rfl fl_Mo_99_9 cl9 hB2.kb (fun r hr => by cases hr; rfl) (by decide) rfl rfl ?_
                          refine bp_nx (X := fun h3 => MoX M h0 h3 tw i (-5) (nI th) tl (mlV v) 2 (v 4) (v 5) nt.length 0 false tb.length nf nn dg nu kd pn pe T xs L ps L1 p1 nt tb fd) (hB2.s17 rfl) (fun h3 hB3 => ?_)
                          refine bp_aload_n (q := 175) 78 rfl rfl rfl rfl ?_
                          refine bp_aload_n (q := 176) 79 rfl rfl rfl rfl ?_
                          refine bp_ldc2 (q := 179) 80 rfl rfl wd1546 ?_
                          refine bp_callV (q := 182) (ci := 9) 81 rfl rfl cw_Mo_word lk_Mo_197 rfl hB3.kb wd1492 wd53 rfl rfl (Nat.le_of_ble_eq_true rfl) ⟨Nat.le_of_ble_eq_true rfl, Nat.le_of_ble_eq_true rfl⟩ (s_Mo_word (ro := false) (k := 11) hB3 hT lt_235 (by decide) hu hv huv ?_)
                          refine bp_if_eq (q := 185) (tgt := 189) 82 rfl rfl (by decide) (fun z182 => ?_) (fun z182 => ?_)
                          · refine bp_aload_n (q := 190) 85 rfl rfl rfl rfl ?_
                            refine bp_getI (q := 193) (ci := 9) (j := 18) 86 rfl rfl fl_Mo_102_9 hB3.kb rfl ?_
                            rw [hB3.i18]
                            refine bp_putI (q := 196) (ci := 9) (j := 18) 87 rfl rfl fl_Mo_102_9 cl9 hB3.kb (fun r hr => by cases hr; rfl) (by decide) rfl rfl ?_
                            refine bp_nx (X := fun h4 => MoX M h0 h4 tw i (-5) (nI th) tl (mlV v) 2 (v 4) (v 5) nt.length 0 false tb.length nf nn dg nu kd pn pe T xs L ps L1 p1 nt tb fd) (hB3.s18 rfl) (fun h4 hB4 => ?_)
                            refine bp_aload_n (q := 197) 88 rfl rfl rfl rfl ?_
                            refine bp_ldc2 (q := 200) 89 rfl rfl wd1547 ?_
                            refine bp_callV (q := 203) (ci := 9) 90 rfl rfl cw_Mo_word lk_Mo_197 rfl hB4.kb wd1492 wd53 rfl rfl (Nat.le_of_ble_eq_true rfl) ⟨Nat.le_of_ble_eq_true rfl, Nat.le_of_ble_eq_true rfl⟩ (s_Mo_word (ro := false) (k := 12) hB4 hT lt_237 (by decide) hu hv huv ?_)
                            refine bp_if_eq (q := 206) (tgt := 249) 91 rfl rfl (by decide) (fun z203 => ?_) (fun z203 => ?_)
                            · refine bp_vret 115 rfl rfl  ⟨_, rfl, ?_⟩
                              have y5 : 5 < dg := Nat.not_le.mp (fun e => z77 ((nI_le_iff (b := 5) hdg (by decide)).mpr e))
                              exact hQ _ (OUTB.bad hB4 (by rw [hW, bO_f (nf_big (by decide) (by decide) y5)]) (by rw [hW, bO_f (nf_big (by decide) (by decide) y5)]) (by decide))
                            · exact absurd (bI1 z203) (by rw [hW]; decide)
                          · exact absurd (bI1 z182) (by rw [hW]; decide)
                      · exact absurd (bI1 z146) (by rw [hW]; decide)
                    · exact absurd (bI1 z132) (by rw [hW]; decide)
                · exact absurd (bI1 z99) (by rw [hW]; decide)
end MO21
