/-! readings and what they leave; take, begin, add -/
def bFa (σ : BS) : Int32 := σ.2.1
def bMe (σ : BS) : Int32 := σ.2.2.1
def bL (σ : BS) : List (Nat × Nat) := σ.2.2.2.2.2.2.2.2.2.2.2.1
def bPs (σ : BS) : List (Nat × Nat × Nat) := σ.2.2.2.2.2.2.2.2.2.2.2.2
def tFa (σ : TS) : Int32 := σ.2.1
def tMe (σ : TS) : Int32 := σ.2.2.1
def tL (σ : TS) : List (Nat × Nat) := σ.2.2.2.2.2.2.2.2.2.2.2.1
def tPs (σ : TS) : List (Nat × Nat × Nat) := σ.2.2.2.2.2.2.2.2.2.2.2.2
theorem okB.nm {T : List Nat} {σ : BS} (h : okB T σ) : σ.2.2.2.2.2.2.2.2.2.2.1.length ≤ 400 ∧ ∀ x ∈ σ.2.2.2.2.2.2.2.2.2.2.1, x < 128 := by
  obtain ⟨i, fa, me, lv, fr, it, en, v, nt, tb, nm, L, ps⟩ := σ
  exact h.2.2.2.2.2.2.1.2
theorem okU.rs {T : List Nat} {σ : TS} (h : okU T σ) : σ.2.2.2.2.2.1 ≤ 400 := by
  obtain ⟨i, fa, me, ip, ot, rs, hl, ed, sy, sz, co, L, ps⟩ := σ
  exact h.2.2.1
def okC (T : List Nat) : Prop := okT T ∧ ∀ k, k < T.length → tc T k = 10 ∨ 32 ≤ tc T k
section X2
variable {l : Launch} {G : bp_G} {H0 : Heap} {KP : bp_H × (Nat → Prop)} {Z : Nat → Nat} {C S : Nat} {h : bp_H} {aO na : Nat} {T xs : List Nat} {L : List (Nat × Nat)} {ps : List (Nat × Nat × Nat)} {me : Int32} {c s : Nat} {Q : Option Value → bp_H → Nat → Nat → Prop}
set_option maxRecDepth 100000 in
set_option maxHeartbeats 4000000 in
theorem s_X_readBraced  (hX0 : XI KP Z C S h aO na T xs L ps me c s) (hT : okC T) (hQ : ∀ h' na' c' s' nm, nm.length ≤ 400 → (∀ x ∈ nm, x < 128) → XI KP Z C S h' aO na' T xs ((if bFa (bRes T T.length (bStart T nm)) = 0 then bL (bRes T T.length (bStart T nm)) else L)) ((if bFa (bRes T T.length (bStart T nm)) = 0 then bPs (bRes T T.length (bStart T nm)) else ps)) ((bMe (bRes T T.length (bStart T nm)))) c' s' → Q (some (.int (if bFa (bRes T T.length (bStart T nm)) = 0 then nI (bPs (bRes T T.length (bStart T nm))).length else bFa (bRes T T.length (bStart T nm))))) h' c' s') : bp_AM l G H0 (10, 219, false, false) M_X_readBraced h c s [.ref (Z 43)] Q := by
  refine bp_of (ls := [some (.ref (Z 43))]) (by decide) dt_X_readBraced (Nat.le_of_ble_eq_true rfl) (fun q hq => hq) false ?_
  obtain ⟨i, fa, me', lv, fr, it, en, v, nt, tb, nm, Ld, psd, th, w, n, d, hB, hn1, hn2⟩ := hX0.br
  refine bp_aload_n (q := 1) 0 rfl rfl rfl rfl ?_
  refine bp_getR (x := zA Z 0) (q := 4) (ci := 0) (j := 4) 1 rfl rfl fl_X_36_0 hX0.2.1.1 rfl hX0.2.1.2.2.2.2.2.1 ?_
  refine bp_callU (q := 7) (ci := 3) (owner := "BracedPages$Reader") 2 rfl rfl cw_Rd_read wd408 wd410 (Or.inr rfl) ⟨by decide, by decide⟩ rfl rfl (BrX.kb hB) wd409 wd411 rfl rfl (Nat.le_of_ble_eq_true rfl) ⟨Nat.le_of_ble_eq_true rfl, Nat.le_of_ble_eq_true rfl⟩ (s_BR_read hB hT.1 (by decide) (by decide) hn1 hn2 (fun h1 na1 τ1 c1 s1 hR1 => ?_))
  have okR := okB_res hT.1 T.length _ (okB_start (T := T) hn1 hn2)
  have hX1 := hX0.ofBr hR1 okR.nm.1 okR.nm.2
  refine bp_aload_n (q := 8) 3 rfl rfl rfl rfl ?_
  refine bp_aload_n (q := 9) 4 rfl rfl rfl rfl ?_
  refine bp_getR (x := zA Z 0) (q := 12) (ci := 0) (j := 4) 5 rfl rfl fl_X_36_0 hX1.2.1.1 rfl hX1.2.1.2.2.2.2.2.1 ?_
  refine bp_callV (q := 15) (ci := 0) 6 rfl rfl cw_X_finishReading lk_X_106 rfl hX1.2.1.1 wd841 wd34 rfl rfl (Nat.le_of_ble_eq_true rfl) ⟨Nat.le_of_ble_eq_true rfl, Nat.le_of_ble_eq_true rfl⟩ (s_X_finB hX1 (BrX.kb hR1) (BrX.i15 hR1) (BrX.i16 hR1) (BrX.pg hR1) (fun h2 hX2 => ?_))
  exact bp_iret 7 rfl rfl rfl ⟨_, rfl, hQ _ _ _ _ nm hn1 hn2 hX2⟩
set_option maxRecDepth 100000 in
set_option maxHeartbeats 4000000 in
theorem s_X_readTagged  (hX0 : XI KP Z C S h aO na T xs L ps me c s) (hT : okC T) (hQ : ∀ h' rs, rs ≤ 400 → XI KP Z C S h' aO na T xs ((if tFa (tRes T T.length (tStart rs)) = 0 then tL (tRes T T.length (tStart rs)) else L)) ((if tFa (tRes T T.length (tStart rs)) = 0 then tPs (tRes T T.length (tStart rs)) else ps)) ((tMe (tRes T T.length (tStart rs)))) c s → Q (some (.int (if tFa (tRes T T.length (tStart rs)) = 0 then nI (tPs (tRes T T.length (tStart rs))).length else tFa (tRes T T.length (tStart rs))))) h' c s) : bp_AM l G H0 (10, 219, false, false) M_X_readTagged h c s [.ref (Z 43)] Q := by
  refine bp_of (ls := [some (.ref (Z 43))]) (by decide) dt_X_readTagged (Nat.le_of_ble_eq_true rfl) (fun q hq => hq) false ?_
  obtain ⟨i, fa, me', ip, ot, rs, hl, ed, sy, sz, co, Ld, psd, th, nu, ne, hB, hrs⟩ := hX0.tr
  refine bp_aload_n (q := 1) 0 rfl rfl rfl rfl ?_
  refine bp_getR (x := zB Z 0) (q := 4) (ci := 0) (j := 5) 1 rfl rfl fl_X_43_0 hX0.2.1.1 rfl hX0.2.1.2.2.2.2.2.2.1 ?_
  refine bp_callU (q := 7) (ci := 6) (owner := "BracedPages$Reader") 2 rfl rfl cw_Rd_read wd408 wd410 (Or.inr rfl) ⟨by decide, by decide⟩ rfl rfl (TrX.kb hB) wd409 wd412 rfl rfl (Nat.le_of_ble_eq_true rfl) ⟨Nat.le_of_ble_eq_true rfl, Nat.le_of_ble_eq_true rfl⟩ (s_TR_read hB hT.1 hT.2 hrs (fun h1 τ1 hR1 => ?_))
  have okR := okU_res hT.1 hT.2 T.length _ (okU_start (T := T) hrs)
  have hX1 := hX0.ofTr hR1 okR.rs
  refine bp_aload_n (q := 8) 3 rfl rfl rfl rfl ?_
  refine bp_aload_n (q := 9) 4 rfl rfl rfl rfl ?_
  refine bp_getR (x := zB Z 0) (q := 12) (ci := 0) (j := 5) 5 rfl rfl fl_X_43_0 hX1.2.1.1 rfl hX1.2.1.2.2.2.2.2.2.1 ?_
  refine bp_callV (q := 15) (ci := 0) 6 rfl rfl cw_X_finishReading lk_X_106 rfl hX1.2.1.1 wd841 wd34 rfl rfl (Nat.le_of_ble_eq_true rfl) ⟨Nat.le_of_ble_eq_true rfl, Nat.le_of_ble_eq_true rfl⟩ (s_X_finT hX1 (TrX.kb hR1) (TrX.i14 hR1) (TrX.i15 hR1) (TrX.pg hR1) (fun h2 hX2 => ?_))
  exact bp_iret 7 rfl rfl rfl ⟨_, rfl, hQ _ rs hrs hX2⟩
set_option maxRecDepth 100000 in
set_option maxHeartbeats 4000000 in
theorem s_X_take  (hX0 : XI KP Z C S h aO na T xs L ps me c s) (hl : xs.length ≤ 400) (hQ : ∀ h', XI KP Z C S h' aO na xs xs L ps me c s → Q (some (.int (nI xs.length))) h' c s) : bp_AM l G H0 (6, 131, false, false) M_X_take h c s [.ref (Z 43)] Q := by
  refine bp_of (ls := [some (.ref (Z 43))]) (by decide) dt_X_take (Nat.le_of_ble_eq_true rfl) (fun q hq => hq) false ?_
  refine bp_aload_n (q := 1) 0 rfl rfl rfl rfl ?_
  refine bp_getR (x := Z 40) (q := 4) (ci := 0) (j := 1) 1 rfl rfl fl_X_18_0 hX0.2.1.1 rfl hX0.2.1.2.2.1 ?_
  refine bp_callV (q := 7) (ci := 1) 2 rfl rfl cw_Row_size lk_X_80 rfl hX0.2.2.2.2.1.1 wd455 wd456 rfl rfl (Nat.le_of_ble_eq_true rfl) ⟨Nat.le_of_ble_eq_true rfl, Nat.le_of_ble_eq_true rfl⟩ (s_Row_size (ro := false) hX0.2.2.2.2.1 ?_)
  refine bp_sipush (v := 400) (q := 10) 3 rfl rfl (by decide) ?_
  refine bp_icmp_le (q := 13) (tgt := 23) 4 rfl rfl (by decide) (fun z10 => ?_) (fun z10 => ?_)
  · refine bp_aload_n (q := 24) 10 rfl rfl rfl rfl ?_
    refine bp_getR (x := Z 42) (q := 27) (ci := 0) (j := 0) 11 rfl rfl fl_X_14_0 hX0.2.1.1 rfl hX0.2.1.2.1 ?_
    refine bp_aload_n (q := 28) 12 rfl rfl rfl rfl ?_
    refine bp_getR (x := Z 40) (q := 31) (ci := 0) (j := 1) 13 rfl rfl fl_X_18_0 hX0.2.1.1 rfl hX0.2.1.2.2.1 ?_
    refine bp_callV (q := 34) (ci := 1) 14 rfl rfl cw_Row_copy lk_X_97 rfl hX0.2.2.1.1 wd860 wd861 rfl rfl (Nat.le_of_ble_eq_true rfl) ⟨Nat.le_of_ble_eq_true rfl, Nat.le_of_ble_eq_true rfl⟩ (s_Row_copy hX0.2.2.1 hX0.2.2.2.2.1 (by rw [hX0.2.2.2.1]; exact hl) (hX0.1.ne 40 42) (hX0.1.2.1 41 (by decide) (by decide) (by decide)) (fun h1 hR1 f1 => ?_))
    have hX1 := hX0.setT hR1 f1
    refine bp_aload_n (q := 35) 15 rfl rfl rfl rfl ?_
    refine bp_getR (x := Z 42) (q := 38) (ci := 0) (j := 0) 16 rfl rfl fl_X_14_0 hX1.2.1.1 rfl hX1.2.1.2.1 ?_
    refine bp_callV (q := 41) (ci := 1) 17 rfl rfl cw_Row_size lk_X_80 rfl hX1.2.2.1.1 wd455 wd456 rfl rfl (Nat.le_of_ble_eq_true rfl) ⟨Nat.le_of_ble_eq_true rfl, Nat.le_of_ble_eq_true rfl⟩ (s_Row_size (ro := false) hX1.2.2.1 ?_)
    exact bp_iret 18 rfl rfl rfl ⟨_, rfl, hQ _ hX1⟩
  · exact absurd (nI_le (b := 400) hl (by decide)) z10
set_option maxRecDepth 100000 in
set_option maxHeartbeats 4000000 in
theorem s_X_begin {x y : Nat} (hX0 : XI KP Z C S h aO na T xs L ps me c s) (hx : x < 3) (hy : y < 10) (hf : ps.length < 16) (hQ : ∀ h', XI KP Z C S h' aO na T xs L ((ps ++ [(x, y, L.length)])) me c s → Q (some (.int (nI (ps ++ [(x, y, L.length)]).length))) h' c s) : bp_AM l G H0 (6, 131, false, false) M_X_begin h c s [.ref (Z 43), .int (nI x), .int (nI y)] Q := by
  refine bp_of (ls := [some (.ref (Z 43)), some (.int (nI x)), some (.int (nI y))]) (by decide) dt_X_begin (Nat.le_of_ble_eq_true rfl) (fun q hq => hq) false ?_
  refine bp_iload_n (q := 1) 0 rfl rfl rfl rfl ?_
  refine bp_iconst (v := 0) (q := 2) 1 rfl rfl (by decide) ?_
  refine bp_iconst (v := 2) (q := 3) 2 rfl rfl (by decide) ?_
  refine bp_callS (q := 6) 3 rfl rfl cw_X_isWithin lk_X_119 wd653 rfl rfl (Nat.le_of_ble_eq_true rfl) ⟨Nat.le_of_ble_eq_true rfl, Nat.le_of_ble_eq_true rfl⟩ (s_X_isWithin (ro := false) ?_)
  refine bp_if_eq (q := 9) (tgt := 19) 4 rfl rfl (by decide) (fun z6 => ?_) (fun z6 => ?_)
  · exact absurd (bI0.mp z6) (by rw [show wi (nI x) 0 2 = _ from wi_nI (n := x) (a := 0) (b := 2) (by omega) (by decide) (by decide)]; simp; omega)
  · refine bp_iload_n (q := 10) 5 rfl rfl rfl rfl ?_
    refine bp_iconst (v := 0) (q := 11) 6 rfl rfl (by decide) ?_
    refine bp_bipush (v := 9) (q := 13) 7 rfl rfl (by decide) ?_
    refine bp_callS (q := 16) 8 rfl rfl cw_X_isWithin lk_X_119 wd653 rfl rfl (Nat.le_of_ble_eq_true rfl) ⟨Nat.le_of_ble_eq_true rfl, Nat.le_of_ble_eq_true rfl⟩ (s_X_isWithin (ro := false) ?_)
    refine bp_if_ne (q := 19) (tgt := 29) 9 rfl rfl (by decide) (fun z16 => ?_) (fun z16 => ?_)
    · refine bp_aload_n (q := 30) 15 rfl rfl rfl rfl ?_
      refine bp_getR (x := zP Z 0) (q := 33) (ci := 0) (j := 2) 16 rfl rfl fl_X_24_0 hX0.2.1.1 rfl hX0.2.1.2.2.2.1 ?_
      refine bp_callV (q := 36) (ci := 2) 17 rfl rfl cw_Page_isFull lk_X_125 rfl hX0.2.2.2.2.2.1.1 wd678 wd679 rfl rfl (Nat.le_of_ble_eq_true rfl) ⟨Nat.le_of_ble_eq_true rfl, Nat.le_of_ble_eq_true rfl⟩ (s_Page_isFull (ro := false) hX0.2.2.2.2.2.1 ?_)
      refine bp_if_eq (q := 39) (tgt := 49) 18 rfl rfl (by decide) (fun z36 => ?_) (fun z36 => ?_)
      · refine bp_aload_n (q := 50) 24 rfl rfl rfl rfl ?_
        refine bp_getR (x := zP Z 0) (q := 53) (ci := 0) (j := 2) 25 rfl rfl fl_X_24_0 hX0.2.1.1 rfl hX0.2.1.2.2.2.1 ?_
        refine bp_iload_n (q := 54) 26 rfl rfl rfl rfl ?_
        refine bp_iload_n (q := 55) 27 rfl rfl rfl rfl ?_
        refine bp_callV (q := 58) (ci := 2) 28 rfl rfl cw_Page_gather lk_X_131 rfl hX0.2.2.2.2.2.1.1 wd682 wd683 rfl rfl (Nat.le_of_ble_eq_true rfl) ⟨Nat.le_of_ble_eq_true rfl, Nat.le_of_ble_eq_true rfl⟩ (s_Page_gather (u := x) (v := y) rfl rfl hX0.2.2.2.2.2.1 hf (fun h1 hP1 f1 => ?_))
        have hX1 := hX0.setP hP1 f1
        refine bp_aload_n (q := 59) 29 rfl rfl rfl rfl ?_
        refine bp_getR (x := zP Z 0) (q := 62) (ci := 0) (j := 2) 30 rfl rfl fl_X_24_0 hX1.2.1.1 rfl hX1.2.1.2.2.2.1 ?_
        refine bp_callV (q := 65) (ci := 2) 31 rfl rfl cw_Page_size lk_X_135 rfl hX1.2.2.2.2.2.1.1 wd865 wd866 rfl rfl (Nat.le_of_ble_eq_true rfl) ⟨Nat.le_of_ble_eq_true rfl, Nat.le_of_ble_eq_true rfl⟩ (s_Page_size (ro := false) hX1.2.2.2.2.2.1 ?_)
        refine bp_iret 32 rfl rfl rfl ⟨_, rfl, ?_⟩
        have q := hQ _ hX1
        exact q
      · exact absurd (if_neg (by omega)) z36
    · exact absurd (bI0.mp z16) (by rw [show wi (nI y) 0 9 = _ from wi_nI (n := y) (a := 0) (b := 9) (by omega) (by decide) (by decide)]; simp; omega)
set_option maxRecDepth 100000 in
set_option maxHeartbeats 4000000 in
theorem s_X_add {u sy sz co qa qb qe : Nat} {qs : List (Nat × Nat × Nat)} (hX0 : XI KP Z C S h aO na T xs L ps me c s) (hps : ps = qs ++ [(qa, qb, qe)]) (okp : okP L ps) (h32 : 32 ≤ u) (h256 : u < 256) (hsy : sy < 8) (hsz : 1 ≤ sz ∧ sz < 100) (hco : co < 8) (hl : L.length < 400) (hQ : ∀ h', XI KP Z C S h' aO na T xs ((L ++ [(u, sy + 8 * co + 64 * sz)])) ((qs ++ [(qa, qb, L.length + 1)])) me c s → Q (some (.int (nI (rcn (lkL (L ++ [(u, sy + 8 * co + 64 * sz)])) (pst (qs ++ [(qa, qb, L.length + 1)]) qs.length) (L.length + 1 - pst (qs ++ [(qa, qb, L.length + 1)]) qs.length) (pst (qs ++ [(qa, qb, L.length + 1)]) qs.length))))) h' c s) : bp_AM l G H0 (6, 131, false, false) M_X_add h c s [.ref (Z 43), .int (nI u), .int (nI sy), .int (nI sz), .int (nI co)] Q := by
  refine bp_of (ls := [some (.ref (Z 43)), some (.int (nI u)), some (.int (nI sy)), some (.int (nI sz)), some (.int (nI co))]) (by decide) dt_X_add (Nat.le_of_ble_eq_true rfl) (fun q hq => hq) false ?_
  subst hps
  refine bp_aload_n (q := 1) 0 rfl rfl rfl rfl ?_
  refine bp_getR (x := zP Z 0) (q := 4) (ci := 0) (j := 2) 1 rfl rfl fl_X_24_0 hX0.2.1.1 rfl hX0.2.1.2.2.2.1 ?_
  refine bp_callV (q := 7) (ci := 2) 2 rfl rfl cw_Page_size lk_X_135 rfl hX0.2.2.2.2.2.1.1 wd865 wd866 rfl rfl (Nat.le_of_ble_eq_true rfl) ⟨Nat.le_of_ble_eq_true rfl, Nat.le_of_ble_eq_true rfl⟩ (s_Page_size (ro := false) hX0.2.2.2.2.2.1 ?_)
  refine bp_if_ne (q := 10) (tgt := 20) 3 rfl rfl (by decide) (fun z7 => ?_) (fun z7 => ?_)
  · refine bp_iload_n (q := 21) 9 rfl rfl rfl rfl ?_
    refine bp_bipush (v := 32) (q := 23) 10 rfl rfl (by decide) ?_
    refine bp_sipush (v := 255) (q := 26) 11 rfl rfl (by decide) ?_
    refine bp_callS (q := 29) 12 rfl rfl cw_X_isWithin lk_X_119 wd653 rfl rfl (Nat.le_of_ble_eq_true rfl) ⟨Nat.le_of_ble_eq_true rfl, Nat.le_of_ble_eq_true rfl⟩ (s_X_isWithin (ro := false) ?_)
    refine bp_if_eq (q := 32) (tgt := 42) 13 rfl rfl (by decide) (fun z29 => ?_) (fun z29 => ?_)
    · exact absurd (bI0.mp z29) (by rw [show wi (nI u) 32 255 = _ from wi_nI (n := u) (a := 32) (b := 255) (by omega) (by decide) (by decide)]; simp; omega)
    · refine bp_iload_n (q := 33) 14 rfl rfl rfl rfl ?_
      refine bp_iload_n (q := 34) 15 rfl rfl rfl rfl ?_
      refine bp_iload (q := 36) 16 rfl rfl rfl ?_
      refine bp_callS (q := 39) 17 rfl rfl cw_X_isLook lk_X_141 wd1233 rfl rfl (Nat.le_of_ble_eq_true rfl) ⟨Nat.le_of_ble_eq_true rfl, Nat.le_of_ble_eq_true rfl⟩ (s_X_isLook (ro := false) ?_)
      refine bp_if_ne (q := 42) (tgt := 52) 18 rfl rfl (by decide) (fun z39 => ?_) (fun z39 => ?_)
      · refine bp_aload_n (q := 53) 24 rfl rfl rfl rfl ?_
        refine bp_getR (x := zP Z 0) (q := 56) (ci := 0) (j := 2) 25 rfl rfl fl_X_24_0 hX0.2.1.1 rfl hX0.2.1.2.2.2.1 ?_
        refine bp_callV (q := 59) (ci := 2) 26 rfl rfl cw_Page_letters lk_X_146 rfl hX0.2.2.2.2.2.1.1 wd900 wd901 rfl rfl (Nat.le_of_ble_eq_true rfl) ⟨Nat.le_of_ble_eq_true rfl, Nat.le_of_ble_eq_true rfl⟩ (s_Page_letters (ro := false) hX0.2.2.2.2.2.1 ?_)
        refine bp_sipush (v := 400) (q := 62) 27 rfl rfl (by decide) ?_
        refine bp_icmp_lt (q := 65) (tgt := 75) 28 rfl rfl (by decide) (fun z62 => ?_) (fun z62 => ?_)
        · refine bp_aload_n (q := 76) 34 rfl rfl rfl rfl ?_
          refine bp_getR (x := zP Z 0) (q := 79) (ci := 0) (j := 2) 35 rfl rfl fl_X_24_0 hX0.2.1.1 rfl hX0.2.1.2.2.2.1 ?_
          refine bp_iload_n (q := 80) 36 rfl rfl rfl rfl ?_
          refine bp_iload_n (q := 81) 37 rfl rfl rfl rfl ?_
          refine bp_iload_n (q := 82) 38 rfl rfl rfl rfl ?_
          refine bp_iload (q := 84) 39 rfl rfl rfl ?_
          refine bp_callS (q := 87) 40 rfl rfl cw_X_lookOf lk_X_151 wd692 rfl rfl (Nat.le_of_ble_eq_true rfl) ⟨Nat.le_of_ble_eq_true rfl, Nat.le_of_ble_eq_true rfl⟩ (s_X_lookOf (ro := false) hsy (by omega) hco ?_)
          refine bp_callV (q := 90) (ci := 2) 41 rfl rfl cw_Page_putInLast lk_X_155 rfl hX0.2.2.2.2.2.1.1 wd820 wd821 rfl rfl (Nat.le_of_ble_eq_true rfl) ⟨Nat.le_of_ble_eq_true rfl, Nat.le_of_ble_eq_true rfl⟩ (s_Page_putInLast (u := u) (v := sy + 8 * co + 64 * sz) rfl rfl hX0.2.2.2.2.2.1 hl (fun h1 hP1 f1 => ?_))
          have hX1 := hX0.setP hP1 f1
          have ok1 := okp.last hl h32 h256 (show sy + 8 * co + 64 * sz < 6400 by omega)
          refine bp_aload_n (q := 91) 42 rfl rfl rfl rfl ?_
          refine bp_getR (x := zP Z 0) (q := 94) (ci := 0) (j := 2) 43 rfl rfl fl_X_24_0 hX1.2.1.1 rfl hX1.2.1.2.2.2.1 ?_
          refine bp_aload_n (q := 95) 44 rfl rfl rfl rfl ?_
          refine bp_getR (x := zP Z 0) (q := 98) (ci := 0) (j := 2) 45 rfl rfl fl_X_24_0 hX1.2.1.1 rfl hX1.2.1.2.2.2.1 ?_
          refine bp_callV (q := 101) (ci := 2) 46 rfl rfl cw_Page_size lk_X_135 rfl hX1.2.2.2.2.2.1.1 wd865 wd866 rfl rfl (Nat.le_of_ble_eq_true rfl) ⟨Nat.le_of_ble_eq_true rfl, Nat.le_of_ble_eq_true rfl⟩ (s_Page_size (ro := false) hX1.2.2.2.2.2.1 ?_)
          refine bp_iconst (v := 1) (q := 102) 47 rfl rfl (by decide) ?_
          refine bp_isub (q := 103) 48 rfl rfl ?_
          rw [show nI (qs ++ [(qa, qb, L.length + 1)]).length - 1 = nI qs.length from by rw [List.length_append]; exact nI_pred _]
          have h16 := ok1.2.1
          have hst : p_st (qs ++ [(qa, qb, L.length + 1)]) (nI qs.length) = nI (pst (qs ++ [(qa, qb, L.length + 1)]) qs.length) := p_stN h16 (by rw [List.length_append]; exact Nat.lt_succ_self _)
          have hen : p_en (qs ++ [(qa, qb, L.length + 1)]) (nI qs.length) = nI (L.length + 1) := by rw [p_enN h16 (by rw [List.length_append]; exact Nat.lt_succ_self _)]; unfold p_e; rw [p_sn']
          refine bp_callV (q := 106) (ci := 2) 49 rfl rfl cw_Page_runsOf lk_X_158 rfl hX1.2.2.2.2.2.1.1 wd1241 wd1242 rfl rfl (Nat.le_of_ble_eq_true rfl) ⟨Nat.le_of_ble_eq_true rfl, Nat.le_of_ble_eq_true rfl⟩ (s_Page_runsOf (ro := false) (st := pst (qs ++ [(qa, qb, L.length + 1)]) qs.length) (en := L.length + 1) ok1.lkB hst hen (by rw [lkL_len, List.length_append]; exact Nat.le_refl _) hX1.2.2.2.2.2.1 (by have := pst_le ok1 (j := qs.length) (by rw [List.length_append]; omega); have := ok1.1; omega) ?_)
          exact bp_iret 50 rfl rfl rfl ⟨_, rfl, hQ _ hX1⟩
        · exact absurd (nI_lt (b := 400) hl (by decide)) z62
      · exact absurd (bI0.mp z39) (by rw [show wi (nI sy) 0 7 = _ from wi_nI (n := sy) (a := 0) (b := 7) (by omega) (by decide) (by decide), show wi (nI sz) 1 99 = _ from wi_nI (n := sz) (a := 1) (b := 99) (by omega) (by decide) (by decide), show wi (nI co) 0 7 = _ from wi_nI (n := co) (a := 0) (b := 7) (by omega) (by decide) (by decide)]; simp; omega)
  · exact absurd ((nI_eq_iff (b := 0) (by have := okp.2.1; omega) (by decide)).mp z7) (by simp)
end X2
