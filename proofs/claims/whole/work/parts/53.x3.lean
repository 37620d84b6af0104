/-! paragraph, run, letter, feed, where they answer -/
theorem w4 {w : Nat} (h : w < 4) : w = 0 ∨ w = 1 ∨ w = 2 ∨ w = 3 := by omega
def paV (L : List (Nat × Nat)) (ps : List (Nat × Nat × Nat)) (p w : Nat) : Nat := if w = 0 then p_a ps p else if w = 1 then p_i ps p else if w = 2 then rcn (lkL L) (pst ps p) (p_e ps p - pst ps p) (pst ps p) else p_e ps p - pst ps p
def ruV (L : List (Nat × Nat)) (ps : List (Nat × Nat × Nat)) (p f w : Nat) : Nat := if w = 0 then (lkL L).getD f 0 % 8 else if w = 1 then (lkL L).getD f 0 / 64 else if w = 2 then (lkL L).getD f 0 / 8 % 8 else rln (lkL L) f (p_e ps p - (f + 1)) 1
def isCh (b : Int32) : Bool := wi b 32 126 || decide (b = 10)
def fdC (x : Int64) : Nat → Nat → Nat
  | 0, k => k
  | n + 1, k => if by8 x (nI k) = 0 then k else fdC x n (k + 1)
def fdB (x : Int64) (k : Nat) : List Nat := (List.range k).map (fun j => (by8 x (nI j)).toNatClampNeg)
theorem fdC_le (x : Int64) : ∀ n k, k ≤ fdC x n k ∧ fdC x n k ≤ k + n
  | 0, k => ⟨Nat.le_refl _, Nat.le_refl _⟩
  | n + 1, k => by
    unfold fdC
    split
    · omega
    · have := fdC_le x n (k + 1); omega
theorem isCh_nI {b : Int32} (h : isCh b = true) : b = nI b.toNatClampNeg := by
  unfold isCh at h
  rw [Bool.or_eq_true] at h
  rcases h with h | h
  · obtain ⟨k, -, -, e, e2⟩ := wi_cl (x := 32) (y := 126) (by decide) (by decide) h
    rw [e2]; exact e
  · rw [of_decide_eq_true h]; rfl
section X3
variable {l : Launch} {G : bp_G} {H0 : Heap} {KP : bp_H × (Nat → Prop)} {Z : Nat → Nat} {C S : Nat} {h : bp_H} {aO na : Nat} {T xs : List Nat} {L : List (Nat × Nat)} {ps : List (Nat × Nat × Nat)} {me : Int32} {c s : Nat} {Q : Option Value → bp_H → Nat → Nat → Prop}
set_option maxRecDepth 100000 in
set_option maxHeartbeats 4000000 in
theorem s_X_paragraph {ro : Bool} {p w : Nat} (hX0 : XI KP Z C S h aO na T xs L ps me c s) (okp : okP L ps) (hp : p < ps.length) (hw : w < 4) (hQ : Q (some (.int (nI (paV L ps p w)))) h c s) : bp_AM l G H0 (6, 131, ro, ro) M_X_paragraph h c s [.ref (Z 43), .int (nI p), .int (nI w)] Q := by
  refine bp_of (ls := [some (.ref (Z 43)), some (.int (nI p)), some (.int (nI w))]) (by decide) dt_X_paragraph (Nat.le_of_ble_eq_true rfl) (fun q hq => hq) ro ?_
  have h16 := okp.2.1
  have hj := okp.2.2.1 p hp
  have hL4 := okp.1
  have hst := p_stN h16 hp
  have hen := p_enN h16 hp
  refine bp_aload_n (q := 1) 0 rfl rfl rfl rfl ?_
  refine bp_getR (x := zP Z 0) (q := 4) (ci := 0) (j := 2) 1 rfl rfl fl_X_24_0 hX0.2.1.1 rfl hX0.2.1.2.2.2.1 ?_
  refine bp_iload_n (q := 5) 2 rfl rfl rfl rfl ?_
  refine bp_callV (q := 8) (ci := 2) 3 rfl rfl cw_Page_has lk_X_162 rfl hX0.2.2.2.2.2.1.1 wd808 wd809 rfl rfl (Nat.le_of_ble_eq_true rfl) ⟨Nat.le_of_ble_eq_true rfl, Nat.le_of_ble_eq_true rfl⟩ (s_Page_has (ro := ro) hX0.2.2.2.2.2.1 ?_)
  refine bp_if_ne (q := 11) (tgt := 21) 4 rfl rfl (by decide) (fun z8 => ?_) (fun z8 => ?_)
  · refine bp_iload_n (q := 22) 10 rfl rfl rfl rfl ?_
    rcases w4 hw with e_ | e_ | e_ | e_
    · subst e_
      refine bp_tsIn (tgt := 52) 11 rfl (by decide) (by decide) rfl (by decide) ?_
      refine bp_aload_n (q := 53) 12 rfl rfl rfl rfl ?_
      refine bp_getR (x := zP Z 0) (q := 56) (ci := 0) (j := 2) 13 rfl rfl fl_X_24_0 hX0.2.1.1 rfl hX0.2.1.2.2.2.1 ?_
      refine bp_iload_n (q := 57) 14 rfl rfl rfl rfl ?_
      refine bp_callV (q := 60) (ci := 2) 15 rfl rfl cw_Page_alignmentOf lk_X_170 rfl hX0.2.2.2.2.2.1.1 wd929 wd930 rfl rfl (Nat.le_of_ble_eq_true rfl) ⟨Nat.le_of_ble_eq_true rfl, Nat.le_of_ble_eq_true rfl⟩ (s_Page_alN (ro := ro) hp hX0.2.2.2.2.2.1 ?_)
      exact bp_iret 16 rfl rfl rfl ⟨_, rfl, hQ⟩
    · subst e_
      refine bp_tsIn (tgt := 61) 11 rfl (by decide) (by decide) rfl (by decide) ?_
      refine bp_aload_n (q := 62) 17 rfl rfl rfl rfl ?_
      refine bp_getR (x := zP Z 0) (q := 65) (ci := 0) (j := 2) 18 rfl rfl fl_X_24_0 hX0.2.1.1 rfl hX0.2.1.2.2.2.1 ?_
      refine bp_iload_n (q := 66) 19 rfl rfl rfl rfl ?_
      refine bp_callV (q := 69) (ci := 2) 20 rfl rfl cw_Page_indentOf lk_X_173 rfl hX0.2.2.2.2.2.1.1 wd933 wd934 rfl rfl (Nat.le_of_ble_eq_true rfl) ⟨Nat.le_of_ble_eq_true rfl, Nat.le_of_ble_eq_true rfl⟩ (s_Page_inN (ro := ro) hp hX0.2.2.2.2.2.1 ?_)
      exact bp_iret 21 rfl rfl rfl ⟨_, rfl, hQ⟩
    · subst e_
      refine bp_tsIn (tgt := 70) 11 rfl (by decide) (by decide) rfl (by decide) ?_
      refine bp_aload_n (q := 71) 22 rfl rfl rfl rfl ?_
      refine bp_getR (x := zP Z 0) (q := 74) (ci := 0) (j := 2) 23 rfl rfl fl_X_24_0 hX0.2.1.1 rfl hX0.2.1.2.2.2.1 ?_
      refine bp_iload_n (q := 75) 24 rfl rfl rfl rfl ?_
      refine bp_callV (q := 78) (ci := 2) 25 rfl rfl cw_Page_runsOf lk_X_158 rfl hX0.2.2.2.2.2.1.1 wd1241 wd1242 rfl rfl (Nat.le_of_ble_eq_true rfl) ⟨Nat.le_of_ble_eq_true rfl, Nat.le_of_ble_eq_true rfl⟩ (s_Page_runsOf (ro := ro) okp.lkB hst hen (by rw [lkL_len]; exact hj.2.2.1) hX0.2.2.2.2.2.1 (by omega) ?_)
      exact bp_iret 26 rfl rfl rfl ⟨_, rfl, hQ⟩
    · subst e_
      refine bp_tsIn (tgt := 79) 11 rfl (by decide) (by decide) rfl (by decide) ?_
      refine bp_aload_n (q := 80) 27 rfl rfl rfl rfl ?_
      refine bp_getR (x := zP Z 0) (q := 83) (ci := 0) (j := 2) 28 rfl rfl fl_X_24_0 hX0.2.1.1 rfl hX0.2.1.2.2.2.1 ?_
      refine bp_iload_n (q := 84) 29 rfl rfl rfl rfl ?_
      refine bp_callV (q := 87) (ci := 2) 30 rfl rfl cw_Page_endOf lk_X_176 rfl hX0.2.2.2.2.2.1.1 wd804 wd805 rfl rfl (Nat.le_of_ble_eq_true rfl) ⟨Nat.le_of_ble_eq_true rfl, Nat.le_of_ble_eq_true rfl⟩ (s_Page_endN (ro := ro) hen hX0.2.2.2.2.2.1 ?_)
      refine bp_aload_n (q := 88) 31 rfl rfl rfl rfl ?_
      refine bp_getR (x := zP Z 0) (q := 91) (ci := 0) (j := 2) 32 rfl rfl fl_X_24_0 hX0.2.1.1 rfl hX0.2.1.2.2.2.1 ?_
      refine bp_iload_n (q := 92) 33 rfl rfl rfl rfl ?_
      refine bp_callV (q := 95) (ci := 2) 34 rfl rfl cw_Page_startOf lk_X_179 rfl hX0.2.2.2.2.2.1.1 wd812 wd813 rfl rfl (Nat.le_of_ble_eq_true rfl) ⟨Nat.le_of_ble_eq_true rfl, Nat.le_of_ble_eq_true rfl⟩ (s_Page_startN (ro := ro) hst hX0.2.2.2.2.2.1 ?_)
      refine bp_isub (q := 96) 35 rfl rfl ?_
      rw [nI_sub hj.2.2.2]
      exact bp_iret 36 rfl rfl rfl ⟨_, rfl, hQ⟩
  · rw [if_neg (fun q => q.elim (nI_pos (by omega)) (nI_ge hp (by omega)))] at z8
    exact absurd z8 (by decide)
set_option maxRecDepth 100000 in
set_option maxHeartbeats 4000000 in
theorem s_X_run {ro : Bool} {p f w : Nat} {r : Int32} (hX0 : XI KP Z C S h aO na T xs L ps me c s) (okp : okP L ps) (hp : p < ps.length) (hw : w < 4) (hf : fro (lkL L) (pst ps p) r (p_e ps p - pst ps p) (pst ps p) 0 = nI f) (hfe : f < p_e ps p) (hQ : Q (some (.int (nI (ruV L ps p f w)))) h c s) : bp_AM l G H0 (6, 131, ro, ro) M_X_run h c s [.ref (Z 43), .int (nI p), .int r, .int (nI w)] Q := by
  refine bp_of (ls := [some (.ref (Z 43)), some (.int (nI p)), some (.int r), some (.int (nI w)), none]) (by decide) dt_X_run (Nat.le_of_ble_eq_true rfl) (fun q hq => hq) ro ?_
  have h16 := okp.2.1
  have hj := okp.2.2.1 p hp
  have hL4 := okp.1
  have hst := p_stN h16 hp
  have hen := p_enN h16 hp
  have hlk := (okp.2.2.2 f (by omega)).2
  refine bp_aload_n (q := 1) 0 rfl rfl rfl rfl ?_
  refine bp_getR (x := zP Z 0) (q := 4) (ci := 0) (j := 2) 1 rfl rfl fl_X_24_0 hX0.2.1.1 rfl hX0.2.1.2.2.2.1 ?_
  refine bp_iload_n (q := 5) 2 rfl rfl rfl rfl ?_
  refine bp_iload_n (q := 6) 3 rfl rfl rfl rfl ?_
  refine bp_callV (q := 9) (ci := 2) 4 rfl rfl cw_Page_firstOfRun lk_X_184 rfl hX0.2.2.2.2.2.1.1 wd1283 wd1284 rfl rfl (Nat.le_of_ble_eq_true rfl) ⟨Nat.le_of_ble_eq_true rfl, Nat.le_of_ble_eq_true rfl⟩ (s_Page_firstOfRun (ro := ro) okp.lkB hst hen (by rw [lkL_len]; exact hj.2.2.1) hX0.2.2.2.2.2.1 (by omega) ?_)
  rw [hf]
  refine bp_istore (q := 11) 5 rfl rfl (by decide) (bp_up4 rfl) ?_
  refine bp_iload (q := 13) 6 rfl rfl rfl ?_
  refine bp_iconst (v := -1) (q := 14) 7 rfl rfl (by decide) ?_
  refine bp_icmp_ne (q := 17) (tgt := 27) 8 rfl rfl (by decide) (fun z14 => ?_) (fun z14 => ?_)
  · refine bp_iload_n (q := 28) 14 rfl rfl rfl rfl ?_
    rcases w4 hw with e_ | e_ | e_ | e_
    · subst e_
      refine bp_tsIn (tgt := 60) 15 rfl (by decide) (by decide) rfl (by decide) ?_
      refine bp_aload_n (q := 61) 16 rfl rfl rfl rfl ?_
      refine bp_getR (x := zP Z 0) (q := 64) (ci := 0) (j := 2) 17 rfl rfl fl_X_24_0 hX0.2.1.1 rfl hX0.2.1.2.2.2.1 ?_
      refine bp_iload (q := 66) 18 rfl rfl rfl ?_
      refine bp_callV (q := 69) (ci := 2) 19 rfl rfl cw_Page_lookAt lk_X_190 rfl hX0.2.2.2.2.2.1.1 wd904 wd905 rfl rfl (Nat.le_of_ble_eq_true rfl) ⟨Nat.le_of_ble_eq_true rfl, Nat.le_of_ble_eq_true rfl⟩ (s_Page_lookN (ro := ro) (by omega) hL4 hX0.2.2.2.2.2.1 ?_)
      refine bp_callS (q := 72) 20 rfl rfl cw_X_styleOf lk_X_193 wd981 rfl rfl (Nat.le_of_ble_eq_true rfl) ⟨Nat.le_of_ble_eq_true rfl, Nat.le_of_ble_eq_true rfl⟩ (s_X_styleOf (ro := ro) hlk ?_)
      exact bp_iret 21 rfl rfl rfl ⟨_, rfl, hQ⟩
    · subst e_
      refine bp_tsIn (tgt := 73) 15 rfl (by decide) (by decide) rfl (by decide) ?_
      refine bp_aload_n (q := 74) 22 rfl rfl rfl rfl ?_
      refine bp_getR (x := zP Z 0) (q := 77) (ci := 0) (j := 2) 23 rfl rfl fl_X_24_0 hX0.2.1.1 rfl hX0.2.1.2.2.2.1 ?_
      refine bp_iload (q := 79) 24 rfl rfl rfl ?_
      refine bp_callV (q := 82) (ci := 2) 25 rfl rfl cw_Page_lookAt lk_X_190 rfl hX0.2.2.2.2.2.1.1 wd904 wd905 rfl rfl (Nat.le_of_ble_eq_true rfl) ⟨Nat.le_of_ble_eq_true rfl, Nat.le_of_ble_eq_true rfl⟩ (s_Page_lookN (ro := ro) (by omega) hL4 hX0.2.2.2.2.2.1 ?_)
      refine bp_callS (q := 85) 26 rfl rfl cw_X_sizeOf lk_X_196 wd987 rfl rfl (Nat.le_of_ble_eq_true rfl) ⟨Nat.le_of_ble_eq_true rfl, Nat.le_of_ble_eq_true rfl⟩ (s_X_sizeOf (ro := ro) hlk ?_)
      exact bp_iret 27 rfl rfl rfl ⟨_, rfl, hQ⟩
    · subst e_
      refine bp_tsIn (tgt := 86) 15 rfl (by decide) (by decide) rfl (by decide) ?_
      refine bp_aload_n (q := 87) 28 rfl rfl rfl rfl ?_
      refine bp_getR (x := zP Z 0) (q := 90) (ci := 0) (j := 2) 29 rfl rfl fl_X_24_0 hX0.2.1.1 rfl hX0.2.1.2.2.2.1 ?_
      refine bp_iload (q := 92) 30 rfl rfl rfl ?_
      refine bp_callV (q := 95) (ci := 2) 31 rfl rfl cw_Page_lookAt lk_X_190 rfl hX0.2.2.2.2.2.1.1 wd904 wd905 rfl rfl (Nat.le_of_ble_eq_true rfl) ⟨Nat.le_of_ble_eq_true rfl, Nat.le_of_ble_eq_true rfl⟩ (s_Page_lookN (ro := ro) (by omega) hL4 hX0.2.2.2.2.2.1 ?_)
      refine bp_callS (q := 98) 32 rfl rfl cw_X_colourOf lk_X_199 wd908 rfl rfl (Nat.le_of_ble_eq_true rfl) ⟨Nat.le_of_ble_eq_true rfl, Nat.le_of_ble_eq_true rfl⟩ (s_X_colourOf (ro := ro) hlk ?_)
      exact bp_iret 33 rfl rfl rfl ⟨_, rfl, hQ⟩
    · subst e_
      refine bp_tsIn (tgt := 99) 15 rfl (by decide) (by decide) rfl (by decide) ?_
      refine bp_aload_n (q := 100) 34 rfl rfl rfl rfl ?_
      refine bp_getR (x := zP Z 0) (q := 103) (ci := 0) (j := 2) 35 rfl rfl fl_X_24_0 hX0.2.1.1 rfl hX0.2.1.2.2.2.1 ?_
      refine bp_iload_n (q := 104) 36 rfl rfl rfl rfl ?_
      refine bp_iload (q := 106) 37 rfl rfl rfl ?_
      refine bp_callV (q := 109) (ci := 2) 38 rfl rfl cw_Page_runLength lk_X_202 rfl hX0.2.2.2.2.2.1.1 wd1292 wd1293 rfl rfl (Nat.le_of_ble_eq_true rfl) ⟨Nat.le_of_ble_eq_true rfl, Nat.le_of_ble_eq_true rfl⟩ (s_Page_runLength (ro := ro) okp.lkB hen (by rw [lkL_len]; exact hj.2.2.1) hfe hX0.2.2.2.2.2.1 ?_)
      exact bp_iret 39 rfl rfl rfl ⟨_, rfl, hQ⟩
  · exact absurd z14 (nI_m1 (by omega))
set_option maxRecDepth 100000 in
set_option maxHeartbeats 4000000 in
theorem s_X_letter {ro : Bool} {p k : Nat} (hX0 : XI KP Z C S h aO na T xs L ps me c s) (okp : okP L ps) (hp : p < ps.length) (hk : k < p_e ps p - pst ps p) (hQ : Q (some (.int (nI ((cdL L).getD (pst ps p + k) 0)))) h c s) : bp_AM l G H0 (6, 131, ro, ro) M_X_letter h c s [.ref (Z 43), .int (nI p), .int (nI k)] Q := by
  refine bp_of (ls := [some (.ref (Z 43)), some (.int (nI p)), some (.int (nI k))]) (by decide) dt_X_letter (Nat.le_of_ble_eq_true rfl) (fun q hq => hq) ro ?_
  have h16 := okp.2.1
  have hj := okp.2.2.1 p hp
  have hL4 := okp.1
  have hst := p_stN h16 hp
  have hen := p_enN h16 hp
  refine bp_aload_n (q := 1) 0 rfl rfl rfl rfl ?_
  refine bp_getR (x := zP Z 0) (q := 4) (ci := 0) (j := 2) 1 rfl rfl fl_X_24_0 hX0.2.1.1 rfl hX0.2.1.2.2.2.1 ?_
  refine bp_iload_n (q := 5) 2 rfl rfl rfl rfl ?_
  refine bp_callV (q := 8) (ci := 2) 3 rfl rfl cw_Page_has lk_X_162 rfl hX0.2.2.2.2.2.1.1 wd808 wd809 rfl rfl (Nat.le_of_ble_eq_true rfl) ⟨Nat.le_of_ble_eq_true rfl, Nat.le_of_ble_eq_true rfl⟩ (s_Page_has (ro := ro) hX0.2.2.2.2.2.1 ?_)
  refine bp_if_eq (q := 11) (tgt := 38) 4 rfl rfl (by decide) (fun z8 => ?_) (fun z8 => ?_)
  · rw [if_neg (fun q => q.elim (nI_pos (by omega)) (nI_ge hp (by omega)))] at z8
    exact absurd z8 (by decide)
  · refine bp_iload_n (q := 12) 5 rfl rfl rfl rfl ?_
    refine bp_iconst (v := 0) (q := 13) 6 rfl rfl (by decide) ?_
    refine bp_aload_n (q := 14) 7 rfl rfl rfl rfl ?_
    refine bp_getR (x := zP Z 0) (q := 17) (ci := 0) (j := 2) 8 rfl rfl fl_X_24_0 hX0.2.1.1 rfl hX0.2.1.2.2.2.1 ?_
    refine bp_iload_n (q := 18) 9 rfl rfl rfl rfl ?_
    refine bp_callV (q := 21) (ci := 2) 10 rfl rfl cw_Page_endOf lk_X_176 rfl hX0.2.2.2.2.2.1.1 wd804 wd805 rfl rfl (Nat.le_of_ble_eq_true rfl) ⟨Nat.le_of_ble_eq_true rfl, Nat.le_of_ble_eq_true rfl⟩ (s_Page_endN (ro := ro) hen hX0.2.2.2.2.2.1 ?_)
    refine bp_aload_n (q := 22) 11 rfl rfl rfl rfl ?_
    refine bp_getR (x := zP Z 0) (q := 25) (ci := 0) (j := 2) 12 rfl rfl fl_X_24_0 hX0.2.1.1 rfl hX0.2.1.2.2.2.1 ?_
    refine bp_iload_n (q := 26) 13 rfl rfl rfl rfl ?_
    refine bp_callV (q := 29) (ci := 2) 14 rfl rfl cw_Page_startOf lk_X_179 rfl hX0.2.2.2.2.2.1.1 wd812 wd813 rfl rfl (Nat.le_of_ble_eq_true rfl) ⟨Nat.le_of_ble_eq_true rfl, Nat.le_of_ble_eq_true rfl⟩ (s_Page_startN (ro := ro) hst hX0.2.2.2.2.2.1 ?_)
    refine bp_isub (q := 30) 15 rfl rfl ?_
    rw [nI_sub hj.2.2.2]
    refine bp_iconst (v := 1) (q := 31) 16 rfl rfl (by decide) ?_
    refine bp_isub (q := 32) 17 rfl rfl ?_
    rw [show nI (p_e ps p - pst ps p) - 1 = nI (p_e ps p - pst ps p - 1) from nI_sub (b := 1) (by omega)]
    refine bp_callS (q := 35) 18 rfl rfl cw_X_isWithin lk_X_119 wd653 rfl rfl (Nat.le_of_ble_eq_true rfl) ⟨Nat.le_of_ble_eq_true rfl, Nat.le_of_ble_eq_true rfl⟩ (s_X_isWithin (ro := ro) ?_)
    refine bp_if_ne (q := 38) (tgt := 48) 19 rfl rfl (by decide) (fun z35 => ?_) (fun z35 => ?_)
    · refine bp_aload_n (q := 49) 25 rfl rfl rfl rfl ?_
      refine bp_getR (x := zP Z 0) (q := 52) (ci := 0) (j := 2) 26 rfl rfl fl_X_24_0 hX0.2.1.1 rfl hX0.2.1.2.2.2.1 ?_
      refine bp_aload_n (q := 53) 27 rfl rfl rfl rfl ?_
      refine bp_getR (x := zP Z 0) (q := 56) (ci := 0) (j := 2) 28 rfl rfl fl_X_24_0 hX0.2.1.1 rfl hX0.2.1.2.2.2.1 ?_
      refine bp_iload_n (q := 57) 29 rfl rfl rfl rfl ?_
      refine bp_callV (q := 60) (ci := 2) 30 rfl rfl cw_Page_startOf lk_X_179 rfl hX0.2.2.2.2.2.1.1 wd812 wd813 rfl rfl (Nat.le_of_ble_eq_true rfl) ⟨Nat.le_of_ble_eq_true rfl, Nat.le_of_ble_eq_true rfl⟩ (s_Page_startN (ro := ro) hst hX0.2.2.2.2.2.1 ?_)
      refine bp_iload_n (q := 61) 31 rfl rfl rfl rfl ?_
      refine bp_iadd (q := 62) 32 rfl rfl ?_
      rw [nI_add]
      refine bp_callV (q := 65) (ci := 2) 33 rfl rfl cw_Page_codeAt lk_X_209 rfl hX0.2.2.2.2.2.1.1 wd1010 wd1011 rfl rfl (Nat.le_of_ble_eq_true rfl) ⟨Nat.le_of_ble_eq_true rfl, Nat.le_of_ble_eq_true rfl⟩ (s_Page_codeN (ro := ro) (k := pst ps p + k) (by omega) hL4 hX0.2.2.2.2.2.1 ?_)
      exact bp_iret 34 rfl rfl rfl ⟨_, rfl, hQ⟩
    · exact absurd (bI0.mp z35) (by rw [show wi (nI k) 0 (nI (p_e ps p - pst ps p - 1)) = _ from wi_nI (n := k) (a := 0) (by omega) (by decide) (by omega)]; simp; omega)
set_option maxRecDepth 100000 in
set_option maxHeartbeats 4000000 in
theorem lp_X_feed1 {kn e : Bool} {x : Int64} {Q : Outcome → bp_H → Nat → Nat → Prop} (hX0 : XI KP Z C S h aO na T xs L ps me c s) : ∀ (m k : Nat), m + k = 8 → (∀ j, k ≤ j → j < fdC x m k → isCh (by8 x (nI j)) = true) → bp_A l G H0 (6, 131, kn, e) M_X_feed h c s 43 [some (.ref (Z 43)), some (.long x), none, some (.int (nI (fdC x m k))), none] [] Q → bp_A l G H0 (6, 131, kn, e) M_X_feed h c s 2 [some (.ref (Z 43)), some (.long x), none, some (.int (nI k)), none] [] Q := by
  intro m
  induction m with
  | zero =>
    intro k hm hg hK
    refine bp_iload_n (q := 3) 2 rfl rfl rfl rfl ?_
    refine bp_bipush (v := 8) (q := 5) 3 rfl rfl (by decide) ?_
    refine bp_icmp_ge (q := 8) (tgt := 43) 4 rfl rfl (by decide) (fun z5 => ?_) (fun z5 => ?_)
    · exact hK
    · exact absurd (nI_le (b := k) (a := 8) (by omega) (by omega)) z5
  | succ m ih =>
    intro k hm hg hK
    refine bp_iload_n (q := 3) 2 rfl rfl rfl rfl ?_
    refine bp_bipush (v := 8) (q := 5) 3 rfl rfl (by decide) ?_
    refine bp_icmp_ge (q := 8) (tgt := 43) 4 rfl rfl (by decide) (fun z5 => ?_) (fun z5 => ?_)
    · exact absurd z5 (nI_ge (a := k) (b := 8) (by omega) (by decide))
    · refine bp_lload_n (q := 9) 5 rfl rfl rfl rfl ?_
      refine bp_iload_n (q := 10) 6 rfl rfl rfl rfl ?_
      refine bp_callS (q := 13) 7 rfl rfl cw_X_byteOf lk_X_65 wd1096 rfl rfl (Nat.le_of_ble_eq_true rfl) ⟨Nat.le_of_ble_eq_true rfl, Nat.le_of_ble_eq_true rfl⟩ (s_X_byteOf (ro := kn) ?_)
      refine bp_if_eq (q := 16) (tgt := 43) 8 rfl rfl (by decide) (fun z13 => ?_) (fun z13 => ?_)
      · rw [show fdC x (m + 1) k = k from if_pos z13] at hK
        exact hK
      · refine bp_lload_n (q := 17) 9 rfl rfl rfl rfl ?_
        have e13 : fdC x (m + 1) k = fdC x m (k + 1) := if_neg z13
        refine bp_iload_n (q := 18) 10 rfl rfl rfl rfl ?_
        refine bp_callS (q := 21) 11 rfl rfl cw_X_byteOf lk_X_65 wd1096 rfl rfl (Nat.le_of_ble_eq_true rfl) ⟨Nat.le_of_ble_eq_true rfl, Nat.le_of_ble_eq_true rfl⟩ (s_X_byteOf (ro := kn) ?_)
        refine bp_callS (q := 24) 12 rfl rfl cw_X_isCharacter lk_X_69 wd1099 rfl rfl (Nat.le_of_ble_eq_true rfl) ⟨Nat.le_of_ble_eq_true rfl, Nat.le_of_ble_eq_true rfl⟩ (s_X_isCharacter (ro := kn) ?_)
        refine bp_if_ne (q := 27) (tgt := 37) 13 rfl rfl (by decide) (fun z24 => ?_) (fun z24 => ?_)
        · refine bp_iinc (v := nI (k + 1)) (q := 40) 19 rfl rfl rfl (nI_1 k) (by decide) (bp_up3 rfl) ?_
          refine bp_goto (tgt := 2) 20 rfl (by decide) ?_
          rw [e13] at hK
          exact ih (k + 1) (by omega) (fun j h1 h2 => hg j (by omega) (by rw [e13]; exact h2)) hK
        · exact absurd (bI0.mp z24) (by rw [show (wi (by8 x (nI k)) 32 126 || decide (by8 x (nI k) = 10)) = true from hg k (Nat.le_refl _) (by have := fdC_le x m (k + 1); rw [e13]; omega)]; decide)
theorem fdB_len {x : Int64} {k : Nat} : (fdB x k).length = k := by unfold fdB; rw [List.length_map, List.length_range]
theorem fdB_sn (x : Int64) (k : Nat) : fdB x (k + 1) = fdB x k ++ [(by8 x (nI k)).toNatClampNeg] := by
  unfold fdB
  rw [List.range_succ, List.map_append]; rfl
set_option maxRecDepth 100000 in
set_option maxHeartbeats 4000000 in
theorem lp_X_feed2 {x : Int64} {n : Nat} (hn : n ≤ 8) (hg : ∀ j, j < n → isCh (by8 x (nI j)) = true) (hl : T.length + n ≤ 400) (hQ : ∀ h', XI KP Z C S h' aO na (T ++ fdB x n) xs L ps me c s → Q (some (.int (nI n))) h' c s) : ∀ (m k : Nat) (h : bp_H), m + k = n → XI KP Z C S h aO na (T ++ fdB x k) xs L ps me c s → bp_A l G H0 (6, 131, false, false) M_X_feed h c s 71 [some (.ref (Z 43)), some (.long x), none, some (.int (nI n)), some (.int (nI k))] [] (fun o h' c' s' => ∃ v, o = .returned v ∧ Q v h' c' s') := by
  intro m
  induction m with
  | zero =>
    intro k h hm hX0
    refine bp_iload (q := 73) 35 rfl rfl rfl ?_
    refine bp_iload_n (q := 74) 36 rfl rfl rfl rfl ?_
    refine bp_icmp_ge (q := 77) (tgt := 96) 37 rfl rfl (by decide) (fun z74 => ?_) (fun z74 => ?_)
    · refine bp_iload_n (q := 97) 46 rfl rfl rfl rfl ?_
      exact bp_iret 47 rfl rfl rfl ⟨_, rfl, hQ _ (by rw [show k = n by omega] at hX0; exact hX0)⟩
    · exact absurd (nI_le (b := k) (a := n) (by omega) (by omega)) z74
  | succ m ih =>
    intro k h hm hX0
    refine bp_iload (q := 73) 35 rfl rfl rfl ?_
    refine bp_iload_n (q := 74) 36 rfl rfl rfl rfl ?_
    refine bp_icmp_ge (q := 77) (tgt := 96) 37 rfl rfl (by decide) (fun z74 => ?_) (fun z74 => ?_)
    · exact absurd z74 (nI_ge (a := k) (b := n) (by omega) (by omega))
    · refine bp_aload_n (q := 78) 38 rfl rfl rfl rfl ?_
      refine bp_getR (x := Z 42) (q := 81) (ci := 0) (j := 0) 39 rfl rfl fl_X_14_0 hX0.2.1.1 rfl hX0.2.1.2.1 ?_
      refine bp_lload_n (q := 82) 40 rfl rfl rfl rfl ?_
      refine bp_iload (q := 84) 41 rfl rfl rfl ?_
      refine bp_callS (q := 87) 42 rfl rfl cw_X_byteOf lk_X_65 wd1096 rfl rfl (Nat.le_of_ble_eq_true rfl) ⟨Nat.le_of_ble_eq_true rfl, Nat.le_of_ble_eq_true rfl⟩ (s_X_byteOf (ro := false) ?_)
      refine bp_callV (q := 90) (ci := 1) 43 rfl rfl cw_Row_put lk_X_89 rfl hX0.2.2.1.1 wd485 wd486 rfl rfl (Nat.le_of_ble_eq_true rfl) ⟨Nat.le_of_ble_eq_true rfl, Nat.le_of_ble_eq_true rfl⟩ (s_Row_put (v := (by8 x (nI k)).toNatClampNeg) (isCh_nI (hg k (by omega))) hX0.2.2.1 (by rw [hX0.2.2.2.1, List.length_append, fdB_len]; omega) (fun h1 hR1 f1 => ?_))
      have hX1 := hX0.setT hR1 f1
      refine bp_iinc (v := nI (k + 1)) (q := 93) 44 rfl rfl rfl (nI_1 k) (by decide) (bp_up4 rfl) ?_
      refine bp_goto (tgt := 71) 45 rfl (by decide) ?_
      rw [List.append_assoc, show fdB x k ++ [(by8 x (nI k)).toNatClampNeg] = fdB x (k + 1) from (fdB_sn x k).symm] at hX1
      exact ih (k + 1) _ (by omega) hX1
set_option maxRecDepth 100000 in
set_option maxHeartbeats 4000000 in
theorem s_X_feed {x : Int64} (hX0 : XI KP Z C S h aO na T xs L ps me c s) (hg : ∀ j, j < fdC x 8 0 → isCh (by8 x (nI j)) = true) (hl : T.length + fdC x 8 0 ≤ 400) (hQ : ∀ h', XI KP Z C S h' aO na ((T ++ fdB x (fdC x 8 0))) xs L ps me c s → Q (some (.int (nI (fdC x 8 0)))) h' c s) : bp_AM l G H0 (6, 131, false, false) M_X_feed h c s [.ref (Z 43), .long x] Q := by
  refine bp_of (ls := [some (.ref (Z 43)), some (.long x), none, none, none]) (by decide) dt_X_feed (Nat.le_of_ble_eq_true rfl) (fun q hq => hq) false ?_
  refine bp_iconst (v := 0) (q := 1) 0 rfl rfl (by decide) ?_
  refine bp_istore_n (q := 2) 1 rfl rfl rfl (by decide) (bp_up3 rfl) ?_
  refine lp_X_feed1 hX0 8 0 rfl (fun j _ h2 => hg j h2) ?_
  refine bp_aload_n (q := 44) 21 rfl rfl rfl rfl ?_
  refine bp_getR (x := Z 42) (q := 47) (ci := 0) (j := 0) 22 rfl rfl fl_X_14_0 hX0.2.1.1 rfl hX0.2.1.2.1 ?_
  refine bp_callV (q := 50) (ci := 1) 23 rfl rfl cw_Row_size lk_X_80 rfl hX0.2.2.1.1 wd455 wd456 rfl rfl (Nat.le_of_ble_eq_true rfl) ⟨Nat.le_of_ble_eq_true rfl, Nat.le_of_ble_eq_true rfl⟩ (s_Row_size (ro := false) hX0.2.2.1 ?_)
  refine bp_iload_n (q := 51) 24 rfl rfl rfl rfl ?_
  refine bp_iadd (q := 52) 25 rfl rfl ?_
  refine bp_sipush (v := 400) (q := 55) 26 rfl rfl (by decide) ?_
  refine bp_icmp_le (q := 58) (tgt := 68) 27 rfl rfl (by decide) (fun z55 => ?_) (fun z55 => ?_)
  · refine bp_iconst (v := 0) (q := 69) 33 rfl rfl (by decide) ?_
    refine bp_istore (q := 71) 34 rfl rfl (by decide) (bp_up4 rfl) ?_
    exact lp_X_feed2 (by have := fdC_le x 8 0; omega) hg hl hQ (fdC x 8 0) 0 h (Nat.add_zero _) (by rw [show fdB x 0 = [] from rfl, List.append_nil]; exact hX0)
  · rw [nI_add] at z55
    exact absurd (nI_le (b := 400) hl (by decide)) z55
end X3
