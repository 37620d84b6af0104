/-! the braced reader: faults, groups, letters -/
theorem So.set {h : bp_H} {o j k : Nat} {v : Nat → Nat} {x : Int32} (hS : So h o v) (hj : j < 6) (hx : x = nI k) : So (bp_sI h o j x) o (bp_u1 v j k) := by
  refine ⟨hS.1, fun q hq => ?_⟩
  rw [bp_I_sI]
  by_cases e : q = j
  · rw [if_pos ⟨rfl, e⟩, hx, e, u1_same]
  · rw [if_neg (fun z => e z.2), u1_ne e, hS.2 q hq]
section BR1
variable {l : Launch} {G : bp_G} {H0 : Heap} {mx c0 s0 : Nat} {A P : Nat → Nat} {T : List Nat} {h0 : bp_H} {na0 : Nat} {h : bp_H} {na i : Nat} {fa me : Int32} {lv : Nat} {fr it en : Bool} {v : Nat → Nat} {nt : List (Nat → Nat)} {tb nm : List Nat} {L : List (Nat × Nat)} {ps : List (Nat × Nat × Nat)} {th w : Nat} {n : Int32} {d c s : Nat} {Q : Option Value → bp_H → Nat → Nat → Prop}
set_option maxRecDepth 100000 in
set_option maxHeartbeats 4000000 in
theorem s_BR_fail {x : Int32} (hB0 : BrX mx c0 s0 A P T h0 na0 h na i fa me lv fr it en v nt tb nm L ps th w n d c s) (hQ : ∀ h', BrX mx c0 s0 A P T h0 na0 h' na i x (nI th) lv fr it en v nt tb nm L ps th w n d c s → Q none h' c s) : bp_AM l G H0 (0, 0, false, false) M_Rd_fail h c s [.ref (A 0), .int x] Q := by
  refine bp_of (ls := [some (.ref (A 0)), some (.int x)]) (by decide) dt_Rd_fail (Nat.le_of_ble_eq_true rfl) (fun q hq => hq) false ?_
  refine bp_aload_n (q := 1) 0 rfl rfl rfl rfl ?_
  refine bp_iload_n (q := 2) 1 rfl rfl rfl rfl ?_
  refine bp_putI (q := 5) (ci := 3) (j := 15) 2 rfl rfl fl_Rd_19_3 cl3 hB0.kb (fun r hr => by cases hr; rfl) (by decide) rfl rfl ?_
  refine bp_nx (X := fun h1 => BrX mx c0 s0 A P T h0 na0 h1 na i x me lv fr it en v nt tb nm L ps th w n d c s) (hB0.s15 rfl) (fun h1 hB1 => ?_)
  refine bp_aload_n (q := 6) 3 rfl rfl rfl rfl ?_
  refine bp_aload_n (q := 7) 4 rfl rfl rfl rfl ?_
  refine bp_getI (q := 10) (ci := 3) (j := 14) 5 rfl rfl fl_Rd_47_3 hB1.kb rfl ?_
  rw [hB1.i14]
  refine bp_putI (q := 13) (ci := 3) (j := 16) 6 rfl rfl fl_Rd_23_3 cl3 hB1.kb (fun r hr => by cases hr; rfl) (by decide) rfl rfl ?_
  refine bp_nx (X := fun h2 => BrX mx c0 s0 A P T h0 na0 h2 na i x (nI th) lv fr it en v nt tb nm L ps th w n d c s) (hB1.s16 rfl) (fun h2 hB2 => ?_)
  exact bp_vret 7 rfl rfl  ⟨_, rfl, hQ _ hB2⟩
set_option maxRecDepth 100000 in
set_option maxHeartbeats 4000000 in
theorem s_BR_failAt {x y : Int32} (hB0 : BrX mx c0 s0 A P T h0 na0 h na i fa me lv fr it en v nt tb nm L ps th w n d c s) (hQ : ∀ h', BrX mx c0 s0 A P T h0 na0 h' na i x y lv fr it en v nt tb nm L ps th w n d c s → Q none h' c s) : bp_AM l G H0 (0, 0, false, false) M_Rd_failAt h c s [.ref (A 0), .int x, .int y] Q := by
  refine bp_of (ls := [some (.ref (A 0)), some (.int x), some (.int y)]) (by decide) dt_Rd_failAt (Nat.le_of_ble_eq_true rfl) (fun q hq => hq) false ?_
  refine bp_aload_n (q := 1) 0 rfl rfl rfl rfl ?_
  refine bp_iload_n (q := 2) 1 rfl rfl rfl rfl ?_
  refine bp_putI (q := 5) (ci := 3) (j := 15) 2 rfl rfl fl_Rd_19_3 cl3 hB0.kb (fun r hr => by cases hr; rfl) (by decide) rfl rfl ?_
  refine bp_nx (X := fun h1 => BrX mx c0 s0 A P T h0 na0 h1 na i x me lv fr it en v nt tb nm L ps th w n d c s) (hB0.s15 rfl) (fun h1 hB1 => ?_)
  refine bp_aload_n (q := 6) 3 rfl rfl rfl rfl ?_
  refine bp_iload_n (q := 7) 4 rfl rfl rfl rfl ?_
  refine bp_putI (q := 10) (ci := 3) (j := 16) 5 rfl rfl fl_Rd_23_3 cl3 hB1.kb (fun r hr => by cases hr; rfl) (by decide) rfl rfl ?_
  refine bp_nx (X := fun h2 => BrX mx c0 s0 A P T h0 na0 h2 na i x y lv fr it en v nt tb nm L ps th w n d c s) (hB1.s16 rfl) (fun h2 hB2 => ?_)
  exact bp_vret 6 rfl rfl  ⟨_, rfl, hQ _ hB2⟩
set_option maxRecDepth 100000 in
set_option maxHeartbeats 4000000 in
theorem s_BR_fault {ro : Bool}  (hB0 : BrX mx c0 s0 A P T h0 na0 h na i fa me lv fr it en v nt tb nm L ps th w n d c s) (hQ : Q (some (.int fa)) h c s) : bp_AM l G H0 (0, 0, ro, ro) M_Rd_fault h c s [.ref (A 0)] Q := by
  refine bp_of (ls := [some (.ref (A 0))]) (by decide) dt_Rd_fault (Nat.le_of_ble_eq_true rfl) (fun q hq => hq) ro ?_
  refine bp_aload_n (q := 1) 0 rfl rfl rfl rfl ?_
  refine bp_getI (q := 4) (ci := 3) (j := 15) 1 rfl rfl fl_Rd_19_3 hB0.kb rfl ?_
  rw [hB0.i15]
  exact bp_iret 2 rfl rfl rfl ⟨_, rfl, hQ⟩
set_option maxRecDepth 100000 in
set_option maxHeartbeats 4000000 in
theorem s_BR_met {ro : Bool}  (hB0 : BrX mx c0 s0 A P T h0 na0 h na i fa me lv fr it en v nt tb nm L ps th w n d c s) (hQ : Q (some (.int me)) h c s) : bp_AM l G H0 (0, 0, ro, ro) M_Rd_met h c s [.ref (A 0)] Q := by
  refine bp_of (ls := [some (.ref (A 0))]) (by decide) dt_Rd_met (Nat.le_of_ble_eq_true rfl) (fun q hq => hq) ro ?_
  refine bp_aload_n (q := 1) 0 rfl rfl rfl rfl ?_
  refine bp_getI (q := 4) (ci := 3) (j := 16) 1 rfl rfl fl_Rd_23_3 hB0.kb rfl ?_
  rw [hB0.i16]
  exact bp_iret 2 rfl rfl rfl ⟨_, rfl, hQ⟩
set_option maxRecDepth 100000 in
set_option maxHeartbeats 4000000 in
theorem s_BR_isOver {ro : Bool}  (hB0 : BrX mx c0 s0 A P T h0 na0 h na i fa me lv fr it en v nt tb nm L ps th w n d c s) (hQ : Q (some (.int (bI en))) h c s) : bp_AM l G H0 (0, 0, ro, ro) M_BR_isOver h c s [.ref (A 0)] Q := by
  refine bp_of (ls := [some (.ref (A 0))]) (by decide) dt_BR_isOver (Nat.le_of_ble_eq_true rfl) (fun q hq => hq) ro ?_
  refine bp_aload_n (q := 1) 0 rfl rfl rfl rfl ?_
  refine bp_getI (q := 4) (ci := 3) (j := 4) 1 rfl rfl fl_BR_39_3 hB0.kb rfl ?_
  rw [hB0.i4]
  exact bp_iret 2 rfl rfl (bI_nar en) ⟨_, rfl, hQ⟩
set_option maxRecDepth 100000 in
set_option maxHeartbeats 4000000 in
theorem s_BR_leavesOut  (hB0 : BrX mx c0 s0 A P T h0 na0 h na i fa me lv fr it en v nt tb nm L ps th w n d c s) (hlv : lv ≤ 9) (hQ : ∀ h', BrX mx c0 s0 A P T h0 na0 h' na i fa me (lv - 1) fr it en v nt tb nm L ps th w n d c s → Q (some (.int (bI (decide (lv ≠ 0))))) h' c s) : bp_AM l G H0 (0, 0, false, false) M_BR_leavesOut h c s [.ref (A 0)] Q := by
  refine bp_of (ls := [some (.ref (A 0))]) (by decide) dt_BR_leavesOut (Nat.le_of_ble_eq_true rfl) (fun q hq => hq) false ?_
  refine bp_aload_n (q := 1) 0 rfl rfl rfl rfl ?_
  refine bp_getI (q := 4) (ci := 3) (j := 6) 1 rfl rfl fl_BR_46_3 hB0.kb rfl ?_
  rw [hB0.i6]
  refine bp_if_ne (q := 7) (tgt := 9) 2 rfl rfl (by decide) (fun z4 => ?_) (fun z4 => ?_)
  · refine bp_aload_n (q := 10) 5 rfl rfl rfl rfl ?_
    have hz : lv ≠ 0 := fun e => z4 (by rw [e]; rfl)
    refine bp_dup (q := 11) 6 rfl rfl rfl ?_
    refine bp_getI (q := 14) (ci := 3) (j := 6) 7 rfl rfl fl_BR_46_3 hB0.kb rfl ?_
    rw [hB0.i6]
    refine bp_iconst (v := 1) (q := 15) 8 rfl rfl (by decide) ?_
    refine bp_isub (q := 16) 9 rfl rfl ?_
    refine bp_putI (q := 19) (ci := 3) (j := 6) 10 rfl rfl fl_BR_46_3 cl3 hB0.kb (fun r hr => by cases hr; rfl) (by decide) rfl rfl ?_
    refine bp_nx (X := fun h1 => BrX mx c0 s0 A P T h0 na0 h1 na i fa me (lv - 1) fr it en v nt tb nm L ps th w n d c s) (hB0.s6 (by obtain ⟨k, rfl⟩ := Nat.exists_eq_succ_of_ne_zero hz; exact nI_pred k)) (fun h1 hB1 => ?_)
    refine bp_iconst (v := 1) (q := 20) 11 rfl rfl (by decide) ?_
    refine bp_iret 12 rfl rfl (by first | rfl | assumption) ⟨_, rfl, ?_⟩
    have q := hQ _ hB1
    rw [decide_eq_true hz] at q
    exact q
  · refine bp_iconst (v := 0) (q := 8) 3 rfl rfl (by decide) ?_
    refine bp_iret 4 rfl rfl (by first | rfl | assumption) ⟨_, rfl, ?_⟩
    have y : lv = 0 := (nI_eq_iff (b := 0) (by omega) (by decide)).mp z4
    subst y
    exact hQ _ hB0
set_option maxRecDepth 100000 in
set_option maxHeartbeats 4000000 in
theorem s_St_copyK {o o2 : Nat} {v2 : Nat → Nat} (hK : bp_K h o = 10) (hO : So h o2 v2) (hne : o2 ≠ o) (hQ : ∀ h', So h' o v2 → bp_Fi (fun b => b = o) h h' → Q none h' c s) : bp_AM l G H0 (0, 0, false, false) M_St_copy h c s [.ref o, .ref o2] Q := by
  refine bp_of (ls := [some (.ref o), some (.ref o2)]) (by decide) dt_St_copy (Nat.le_of_ble_eq_true rfl) (fun q hq => hq) false ?_
  refine bp_aload_n (q := 1) 0 rfl rfl rfl rfl ?_
  refine bp_aload_n (q := 2) 1 rfl rfl rfl rfl ?_
  refine bp_getI (q := 5) (ci := 4) (j := 0) 2 rfl rfl fl_St_24_4 hO.1 rfl ?_
  refine bp_putI (q := 8) (ci := 4) (j := 0) 3 rfl rfl fl_St_24_4 cl4 hK (fun r hr => by cases hr; rfl) (by decide) rfl rfl ?_
  refine bp_aload_n (q := 9) 4 rfl rfl rfl rfl ?_
  refine bp_aload_n (q := 10) 5 rfl rfl rfl rfl ?_
  refine bp_getI (q := 13) (ci := 4) (j := 1) 6 rfl rfl fl_St_27_4 hO.1 rfl ?_
  refine bp_putI (q := 16) (ci := 4) (j := 1) 7 rfl rfl fl_St_27_4 cl4 hK (fun r hr => by cases hr; rfl) (by decide) rfl rfl ?_
  refine bp_aload_n (q := 17) 8 rfl rfl rfl rfl ?_
  refine bp_aload_n (q := 18) 9 rfl rfl rfl rfl ?_
  refine bp_getI (q := 21) (ci := 4) (j := 2) 10 rfl rfl fl_St_30_4 hO.1 rfl ?_
  refine bp_putI (q := 24) (ci := 4) (j := 2) 11 rfl rfl fl_St_30_4 cl4 hK (fun r hr => by cases hr; rfl) (by decide) rfl rfl ?_
  refine bp_aload_n (q := 25) 12 rfl rfl rfl rfl ?_
  refine bp_aload_n (q := 26) 13 rfl rfl rfl rfl ?_
  refine bp_getI (q := 29) (ci := 4) (j := 3) 14 rfl rfl fl_St_14_4 hO.1 rfl ?_
  refine bp_putI (q := 32) (ci := 4) (j := 3) 15 rfl rfl fl_St_14_4 cl4 hK (fun r hr => by cases hr; rfl) (by decide) rfl rfl ?_
  refine bp_aload_n (q := 33) 16 rfl rfl rfl rfl ?_
  refine bp_aload_n (q := 34) 17 rfl rfl rfl rfl ?_
  refine bp_getI (q := 37) (ci := 4) (j := 4) 18 rfl rfl fl_St_18_4 hO.1 rfl ?_
  refine bp_putI (q := 40) (ci := 4) (j := 4) 19 rfl rfl fl_St_18_4 cl4 hK (fun r hr => by cases hr; rfl) (by decide) rfl rfl ?_
  refine bp_aload_n (q := 41) 20 rfl rfl rfl rfl ?_
  refine bp_aload_n (q := 42) 21 rfl rfl rfl rfl ?_
  refine bp_getI (q := 45) (ci := 4) (j := 5) 22 rfl rfl fl_St_21_4 hO.1 rfl ?_
  refine bp_putI (q := 48) (ci := 4) (j := 5) 23 rfl rfl fl_St_21_4 cl4 hK (fun r hr => by cases hr; rfl) (by decide) rfl rfl ?_
  refine bp_vret 24 rfl rfl  ⟨_, rfl, ?_⟩
  refine hQ _ ⟨hK, (fun j hj => by rcases six hj with e | e | e | e | e | e <;> subst e <;> simp [bp_I_sI, hne, hO.2 0 (by decide), hO.2 1 (by decide), hO.2 2 (by decide), hO.2 3 (by decide), hO.2 4 (by decide), hO.2 5 (by decide)])⟩ ((((((bp_Fi.sI (F := fun b => b = o) rfl).tr (bp_Fi.sI (F := fun b => b = o) rfl)).tr (bp_Fi.sI (F := fun b => b = o) rfl)).tr (bp_Fi.sI (F := fun b => b = o) rfl)).tr (bp_Fi.sI (F := fun b => b = o) rfl)).tr (bp_Fi.sI (F := fun b => b = o) rfl))
set_option maxRecDepth 100000 in
set_option maxHeartbeats 4000000 in
theorem s_BR_openGroup  (hB0 : BrX mx c0 s0 A P T h0 na0 h na i fa me lv fr it en v nt tb nm L ps th w n d c s) (hQ : ∀ h' na' c' s', Br mx c0 s0 A P T h0 na0 h' na' (bOpen th (i, fa, me, lv, fr, it, en, v, nt, tb, nm, L, ps)) (th, w, n, d) c' s' → Q none h' c' s') : bp_AM l G H0 (1, 21, false, false) M_BR_openGroup h c s [.ref (A 0)] Q := by
  refine bp_of (ls := [some (.ref (A 0))]) (by decide) dt_BR_openGroup (Nat.le_of_ble_eq_true rfl) (fun q hq => hq) false ?_
  refine bp_aload_n (q := 1) 0 rfl rfl rfl rfl ?_
  refine bp_iconst (v := 0) (q := 2) 1 rfl rfl (by decide) ?_
  refine bp_putI (q := 5) (ci := 3) (j := 6) 2 rfl rfl fl_BR_46_3 cl3 hB0.kb (fun r hr => by cases hr; rfl) (by decide) rfl rfl ?_
  refine bp_nx (X := fun h1 => BrX mx c0 s0 A P T h0 na0 h1 na i fa me 0 fr it en v nt tb nm L ps th w n d c s) (hB0.s6 rfl) (fun h1 hB1 => ?_)
  refine bp_aload_n (q := 6) 3 rfl rfl rfl rfl ?_
  refine bp_getI (q := 9) (ci := 3) (j := 3) 4 rfl rfl fl_BR_35_3 hB1.kb rfl ?_
  rw [hB1.i3]
  refine bp_bipush (v := 12) (q := 11) 5 rfl rfl (by decide) ?_
  refine bp_icmp_lt (q := 14) (tgt := 21) 6 rfl rfl (by decide) (fun z11 => ?_) (fun z11 => ?_)
  · refine bp_aload_n (q := 22) 11 rfl rfl rfl rfl ?_
    have hlt : nt.length < 12 := (nI_lt_iff (b := 12) (by have := hB1.bn.2.2.2.1; omega) (by decide)).mp z11
    refine bp_getR (x := A 2) (q := 25) (ci := 3) (j := 1) 12 rfl rfl fl_BR_20_3 hB1.kb rfl hB1.r1 ?_
    refine bp_aload_n (q := 26) 13 rfl rfl rfl rfl ?_
    refine bp_getI (q := 29) (ci := 3) (j := 3) 14 rfl rfl fl_BR_35_3 hB1.kb rfl ?_
    rw [hB1.i3]
    refine bp_aald (x := A (8 + nt.length)) (q := 30) 15 rfl rfl hB1.ky (by rw [hB1.bn.2.1]; exact vp_in_nI hlt (by decide)) (by rw [nI_clamp (by omega)]; exact (hB1.bn.2.2.1 _ hlt).1) ?_
    refine bp_aload_n (q := 31) 16 rfl rfl rfl rfl ?_
    refine bp_getR (x := A 1) (q := 34) (ci := 3) (j := 0) 17 rfl rfl fl_BR_14_3 hB1.kb rfl hB1.r0 ?_
    refine bp_callV (q := 37) (ci := 4) 18 rfl rfl cw_St_copy lk_BR_109 rfl (hB1.bn.2.2.1 _ hlt).2 wd587 wd588 rfl rfl (Nat.le_of_ble_eq_true rfl) ⟨Nat.le_of_ble_eq_true rfl, Nat.le_of_ble_eq_true rfl⟩ (s_St_copyK (hB1.bn.2.2.1 _ hlt).2 hB1.so (fun z => absurd z.symm (hB1.ap.an 1 _ hlt)) (fun h2 hS2 f2 => ?_))
    have hB2 := hB1.n0 hlt (Nat.le_refl _) f2
    refine bp_aload_n (q := 38) 19 rfl rfl rfl rfl ?_
    refine bp_dup (q := 39) 20 rfl rfl rfl ?_
    refine bp_getI (q := 42) (ci := 3) (j := 3) 21 rfl rfl fl_BR_35_3 hB2.kb rfl ?_
    rw [hB2.i3]
    refine bp_iconst (v := 1) (q := 43) 22 rfl rfl (by decide) ?_
    refine bp_iadd (q := 44) 23 rfl rfl ?_
    refine bp_putI (q := 47) (ci := 3) (j := 3) 24 rfl rfl fl_BR_35_3 cl3 hB2.kb (fun r hr => by cases hr; rfl) (by decide) rfl rfl ?_
    refine bp_nx (X := fun h3 => BrX mx c0 s0 A P T h0 na0 h3 na i fa me 0 fr it en v (nt ++ [v]) tb nm L ps th w n d c s) (hB2.push (nI_1 _) hlt hS2) (fun h3 hB3 => ?_)
    refine bp_aload_n (q := 48) 25 rfl rfl rfl rfl ?_
    refine bp_dup (q := 49) 26 rfl rfl rfl ?_
    refine bp_getI (q := 52) (ci := 3) (j := 13) 27 rfl rfl fl_BR_66_3 hB3.kb rfl ?_
    rw [hB3.i13]
    refine bp_iconst (v := 1) (q := 53) 28 rfl rfl (by decide) ?_
    refine bp_iadd (q := 54) 29 rfl rfl ?_
    refine bp_putI (q := 57) (ci := 3) (j := 13) 30 rfl rfl fl_BR_66_3 cl3 hB3.kb (fun r hr => by cases hr; rfl) (by decide) rfl rfl ?_
    refine bp_nx (X := fun h4 => BrX mx c0 s0 A P T h0 na0 h4 na (i + 1) fa me 0 fr it en v (nt ++ [v]) tb nm L ps th w n d c s) (hB3.s13 (nI_1 _)) (fun h4 hB4 => ?_)
    refine bp_vret 31 rfl rfl  ⟨_, rfl, ?_⟩
    have e_ : bOpen th (i, fa, me, lv, fr, it, en, v, nt, tb, nm, L, ps) = (i + 1, fa, me, 0, fr, it, en, v, nt ++ [v], tb, nm, L, ps) := if_neg (Nat.not_le.mpr hlt)
    exact hQ _ _ _ _ (Br.cast (τ := (th, w, n, d)) e_ hB4)
  · refine bp_aload_n (q := 15) 7 rfl rfl rfl rfl ?_
    refine bp_bipush (v := -7) (q := 17) 8 rfl rfl (by decide) ?_
    refine bp_callU (q := 20) (ci := 3) (owner := "BracedPages$Reader") 9 rfl rfl cw_Rd_fail wd590 wd591 (Or.inr rfl) ⟨by decide, by decide⟩ rfl rfl hB1.kb wd594 wd593 rfl rfl (Nat.le_of_ble_eq_true rfl) ⟨Nat.le_of_ble_eq_true rfl, Nat.le_of_ble_eq_true rfl⟩ (s_BR_fail hB1 (fun h2 hB2 => ?_))
    refine bp_vret 10 rfl rfl  ⟨_, rfl, ?_⟩
    have e_ : bOpen th (i, fa, me, lv, fr, it, en, v, nt, tb, nm, L, ps) = (i, -7, nI th, 0, fr, it, en, v, nt, tb, nm, L, ps) := if_pos (Nat.not_lt.mp (mt (nI_lt_iff (b := 12) (by have := hB1.bn.2.2.2.1; omega) (by decide)).mpr z11))
    exact hQ _ _ _ _ (Br.cast (τ := (th, w, n, d)) e_ hB2)
set_option maxRecDepth 100000 in
set_option maxHeartbeats 4000000 in
theorem s_BR_closeGroup  (hB0 : BrX mx c0 s0 A P T h0 na0 h na i fa me lv fr it en v nt tb nm L ps th w n d c s) (hQ : ∀ h' na' c' s', Br mx c0 s0 A P T h0 na0 h' na' (bClose (i, fa, me, lv, fr, it, en, v, nt, tb, nm, L, ps)) (th, w, n, d) c' s' → Q none h' c' s') : bp_AM l G H0 (1, 21, false, false) M_BR_closeGroup h c s [.ref (A 0)] Q := by
  refine bp_of (ls := [some (.ref (A 0))]) (by decide) dt_BR_closeGroup (Nat.le_of_ble_eq_true rfl) (fun q hq => hq) false ?_
  refine bp_aload_n (q := 1) 0 rfl rfl rfl rfl ?_
  refine bp_iconst (v := 0) (q := 2) 1 rfl rfl (by decide) ?_
  refine bp_putI (q := 5) (ci := 3) (j := 6) 2 rfl rfl fl_BR_46_3 cl3 hB0.kb (fun r hr => by cases hr; rfl) (by decide) rfl rfl ?_
  refine bp_nx (X := fun h1 => BrX mx c0 s0 A P T h0 na0 h1 na i fa me 0 fr it en v nt tb nm L ps th w n d c s) (hB0.s6 rfl) (fun h1 hB1 => ?_)
  refine bp_aload_n (q := 6) 3 rfl rfl rfl rfl ?_
  refine bp_dup (q := 7) 4 rfl rfl rfl ?_
  refine bp_getI (q := 10) (ci := 3) (j := 13) 5 rfl rfl fl_BR_66_3 hB1.kb rfl ?_
  rw [hB1.i13]
  refine bp_iconst (v := 1) (q := 11) 6 rfl rfl (by decide) ?_
  refine bp_iadd (q := 12) 7 rfl rfl ?_
  refine bp_putI (q := 15) (ci := 3) (j := 13) 8 rfl rfl fl_BR_66_3 cl3 hB1.kb (fun r hr => by cases hr; rfl) (by decide) rfl rfl ?_
  refine bp_nx (X := fun h2 => BrX mx c0 s0 A P T h0 na0 h2 na (i + 1) fa me 0 fr it en v nt tb nm L ps th w n d c s) (hB1.s13 (nI_1 _)) (fun h2 hB2 => ?_)
  refine bp_aload_n (q := 16) 9 rfl rfl rfl rfl ?_
  refine bp_getI (q := 19) (ci := 3) (j := 3) 10 rfl rfl fl_BR_35_3 hB2.kb rfl ?_
  rw [hB2.i3]
  refine bp_if_le (q := 22) (tgt := 48) 11 rfl rfl (by decide) (fun z19 => ?_) (fun z19 => ?_)
  · refine bp_aload_n (q := 49) 26 rfl rfl rfl rfl ?_
    refine bp_aload_n (q := 50) 27 rfl rfl rfl rfl ?_
    refine bp_getI (q := 53) (ci := 3) (j := 3) 28 rfl rfl fl_BR_35_3 hB2.kb rfl ?_
    rw [hB2.i3]
    refine bp_if_ne (q := 56) (tgt := 60) 29 rfl rfl (by decide) (fun z53 => ?_) (fun z53 => ?_)
    · refine bp_iconst (v := 0) (q := 61) 32 rfl rfl (by decide) ?_
      refine bp_putI (q := 64) (ci := 3) (j := 4) 33 rfl rfl fl_BR_39_3 cl3 hB2.kb (fun r hr => by cases hr; rfl) (by decide) rfl rfl ?_
      refine bp_nx (X := fun h3 => BrX mx c0 s0 A P T h0 na0 h3 na (i + 1) fa me 0 fr it false v nt tb nm L ps th w n d c s) (hB2.s4 rfl) (fun h3 hB3 => ?_)
      refine bp_vret 34 rfl rfl  ⟨_, rfl, ?_⟩
      have y := (nI_le_iff (b := 0) (by have := hB0.bn.2.2.2.1; omega) (by decide)).mp z19
      exact absurd (by rw [show nt.length = 0 by omega]; rfl) z53
    · refine bp_iconst (v := 1) (q := 57) 30 rfl rfl (by decide) ?_
      refine bp_goto (tgt := 61) 31 rfl (by decide) ?_
      refine bp_putI (q := 64) (ci := 3) (j := 4) 33 rfl rfl fl_BR_39_3 cl3 hB2.kb (fun r hr => by cases hr; rfl) (by decide) rfl rfl ?_
      refine bp_nx (X := fun h3 => BrX mx c0 s0 A P T h0 na0 h3 na (i + 1) fa me 0 fr it true v nt tb nm L ps th w n d c s) (hB2.s4 rfl) (fun h3 hB3 => ?_)
      refine bp_vret 34 rfl rfl  ⟨_, rfl, ?_⟩
      have y : nt = [] := List.eq_nil_of_length_eq_zero (by have := (nI_le_iff (b := 0) (by have := hB0.bn.2.2.2.1; omega) (by decide)).mp z19; omega)
      subst y
      have e_ : bClose (i, fa, me, lv, fr, it, en, v, [], tb, nm, L, ps) = (i + 1, fa, me, 0, fr, it, true, v, [], tb, nm, L, ps) := rfl
      exact hQ _ _ _ _ (Br.cast (τ := (th, w, n, d)) e_ hB3)
  · refine bp_aload_n (q := 23) 12 rfl rfl rfl rfl ?_
    rcases nil_or_snoc nt with rfl | ⟨l, u, rfl⟩
    · exact absurd (show nI 0 ≤ 0 by decide) z19
    refine bp_dup (q := 24) 13 rfl rfl rfl ?_
    refine bp_getI (q := 27) (ci := 3) (j := 3) 14 rfl rfl fl_BR_35_3 hB2.kb rfl ?_
    rw [hB2.i3]
    refine bp_iconst (v := 1) (q := 28) 15 rfl rfl (by decide) ?_
    refine bp_isub (q := 29) 16 rfl rfl ?_
    refine bp_putI (q := 32) (ci := 3) (j := 3) 17 rfl rfl fl_BR_35_3 cl3 hB2.kb (fun r hr => by cases hr; rfl) (by decide) rfl rfl ?_
    refine bp_nx (X := fun h3 => BrX mx c0 s0 A P T h0 na0 h3 na (i + 1) fa me 0 fr it en v l tb nm L ps th w n d c s ∧ So h3 (A (8 + l.length)) u ∧ l.length < 12) (hB2.pop (by rw [List.length_append]; exact nI_pred _)) (fun h3 ⟨hB3, hSu, hl12⟩ => ?_)
    refine bp_aload_n (q := 33) 18 rfl rfl rfl rfl ?_
    refine bp_getR (x := A 1) (q := 36) (ci := 3) (j := 0) 19 rfl rfl fl_BR_14_3 hB3.kb rfl hB3.r0 ?_
    refine bp_aload_n (q := 37) 20 rfl rfl rfl rfl ?_
    refine bp_getR (x := A 2) (q := 40) (ci := 3) (j := 1) 21 rfl rfl fl_BR_20_3 hB3.kb rfl hB3.r1 ?_
    refine bp_aload_n (q := 41) 22 rfl rfl rfl rfl ?_
    refine bp_getI (q := 44) (ci := 3) (j := 3) 23 rfl rfl fl_BR_35_3 hB3.kb rfl ?_
    rw [hB3.i3]
    refine bp_aald (x := A (8 + l.length)) (q := 45) 24 rfl rfl hB3.ky (by rw [hB3.bn.2.1]; exact vp_in_nI hl12 (by decide)) (by rw [nI_clamp (by omega)]; exact (hB3.bn.2.2.1 _ hl12).1) ?_
    refine bp_callV (q := 48) (ci := 4) 25 rfl rfl cw_St_copy lk_BR_109 rfl hB3.ko wd587 wd588 rfl rfl (Nat.le_of_ble_eq_true rfl) ⟨Nat.le_of_ble_eq_true rfl, Nat.le_of_ble_eq_true rfl⟩ (s_St_copy hB3.so hSu (hB3.ap.an 1 _ hl12) (fun h4 hS4 f4 => ?_))
    have hB4 := hB3.o hS4 f4
    refine bp_aload_n (q := 49) 26 rfl rfl rfl rfl ?_
    refine bp_aload_n (q := 50) 27 rfl rfl rfl rfl ?_
    refine bp_getI (q := 53) (ci := 3) (j := 3) 28 rfl rfl fl_BR_35_3 hB4.kb rfl ?_
    rw [hB4.i3]
    refine bp_if_ne (q := 56) (tgt := 60) 29 rfl rfl (by decide) (fun z53 => ?_) (fun z53 => ?_)
    · refine bp_iconst (v := 0) (q := 61) 32 rfl rfl (by decide) ?_
      refine bp_putI (q := 64) (ci := 3) (j := 4) 33 rfl rfl fl_BR_39_3 cl3 hB4.kb (fun r hr => by cases hr; rfl) (by decide) rfl rfl ?_
      refine bp_nx (X := fun h5 => BrX mx c0 s0 A P T h0 na0 h5 na (i + 1) fa me 0 fr it false u l tb nm L ps th w n d c s) (hB4.s4 rfl) (fun h5 hB5 => ?_)
      refine bp_vret 34 rfl rfl  ⟨_, rfl, ?_⟩
      have e1 : (l ++ [u]).dropLast = l := List.dropLast_concat
      have e2 : (l ++ [u]).getLastD v = u := by simp
      have y : ¬ l = [] := fun q => z53 (by rw [q]; rfl)
      have e_ : bClose (i, fa, me, lv, fr, it, en, v, l ++ [u], tb, nm, L, ps) = (i + 1, fa, me, 0, fr, it, false, u, l, tb, nm, L, ps) := by
        show (i + 1, fa, me, 0, fr, it, decide ((l ++ [u]).dropLast = []), (l ++ [u]).getLastD v, (l ++ [u]).dropLast, tb, nm, L, ps) = _
        rw [e1, e2, decide_eq_false y]
      exact hQ _ _ _ _ (Br.cast (τ := (th, w, n, d)) e_ hB5)
    · refine bp_iconst (v := 1) (q := 57) 30 rfl rfl (by decide) ?_
      refine bp_goto (tgt := 61) 31 rfl (by decide) ?_
      refine bp_putI (q := 64) (ci := 3) (j := 4) 33 rfl rfl fl_BR_39_3 cl3 hB4.kb (fun r hr => by cases hr; rfl) (by decide) rfl rfl ?_
      refine bp_nx (X := fun h5 => BrX mx c0 s0 A P T h0 na0 h5 na (i + 1) fa me 0 fr it true u l tb nm L ps th w n d c s) (hB4.s4 rfl) (fun h5 hB5 => ?_)
      refine bp_vret 34 rfl rfl  ⟨_, rfl, ?_⟩
      have e1 : (l ++ [u]).dropLast = l := List.dropLast_concat
      have e2 : (l ++ [u]).getLastD v = u := by simp
      have y : l = [] := List.eq_nil_of_length_eq_zero ((nI_eq_iff (b := 0) (by omega) (by decide)).mp z53)
      have e_ : bClose (i, fa, me, lv, fr, it, en, v, l ++ [u], tb, nm, L, ps) = (i + 1, fa, me, 0, fr, it, true, u, l, tb, nm, L, ps) := by
        show (i + 1, fa, me, 0, fr, it, decide ((l ++ [u]).dropLast = []), (l ++ [u]).getLastD v, (l ++ [u]).dropLast, tb, nm, L, ps) = _
        rw [e1, e2, decide_eq_true y]
      exact hQ _ _ _ _ (Br.cast (τ := (th, w, n, d)) e_ hB5)
set_option maxRecDepth 100000 in
set_option maxHeartbeats 4000000 in
theorem s_BR_readLetter {x y : Int32} {k len : Nat} (hB0 : BrX mx c0 s0 A P T h0 na0 h na i fa me lv fr it en v nt tb nm L ps th w n d c s) (hx : x = nI k) (hy : y = nI len) (hk : k < 1000) (hlv : lv ≤ 9) (hv : okV v) (hL : L.length < 400) (hQ : ∀ h' na' c' s', Br mx c0 s0 A P T h0 na0 h' na' (bLetter th k len (i, fa, me, lv, fr, it, en, v, nt, tb, nm, L, ps)) (th, w, n, d) c' s' → Q none h' c' s') : bp_AM l G H0 (5, 106, false, false) M_BR_readLetter h c s [.ref (A 0), .int x, .int y] Q := by
  refine bp_of (ls := [some (.ref (A 0)), some (.int x), some (.int y)]) (by decide) dt_BR_readLetter (Nat.le_of_ble_eq_true rfl) (fun q hq => hq) false ?_
  subst hy
  refine bp_aload_n (q := 1) 0 rfl rfl rfl rfl ?_
  refine bp_dup (q := 2) 1 rfl rfl rfl ?_
  refine bp_getI (q := 5) (ci := 3) (j := 13) 2 rfl rfl fl_BR_66_3 hB0.kb rfl ?_
  rw [hB0.i13]
  refine bp_iload_n (q := 6) 3 rfl rfl rfl rfl ?_
  refine bp_iadd (q := 7) 4 rfl rfl ?_
  refine bp_putI (q := 10) (ci := 3) (j := 13) 5 rfl rfl fl_BR_66_3 cl3 hB0.kb (fun r hr => by cases hr; rfl) (by decide) rfl rfl ?_
  refine bp_nx (X := fun h1 => BrX mx c0 s0 A P T h0 na0 h1 na (i + len) fa me lv fr it en v nt tb nm L ps th w n d c s) (hB0.s13 (nI_add _ _)) (fun h1 hB1 => ?_)
  refine bp_aload_n (q := 11) 6 rfl rfl rfl rfl ?_
  refine bp_callV (q := 14) (ci := 3) 7 rfl rfl cw_BR_leavesOut lk_BR_129 rfl hB1.kb wd646 wd10 rfl rfl (Nat.le_of_ble_eq_true rfl) ⟨Nat.le_of_ble_eq_true rfl, Nat.le_of_ble_eq_true rfl⟩ (s_BR_leavesOut hB1 hlv (fun h2 hB2 => ?_))
  refine bp_if_eq (q := 17) (tgt := 18) 8 rfl rfl (by decide) (fun z14 => ?_) (fun z14 => ?_)
  · refine bp_iload_n (q := 19) 10 rfl rfl rfl rfl ?_
    refine bp_bipush (v := 32) (q := 21) 11 rfl rfl (by decide) ?_
    refine bp_icmp_ge (q := 24) (tgt := 33) 12 rfl rfl (by decide) (fun z21 => ?_) (fun z21 => ?_)
    · refine bp_aload_n (q := 34) 17 rfl rfl rfl rfl ?_
      refine bp_getR (x := P 0) (q := 37) (ci := 3) (j := 12) 18 rfl rfl fl_BR_90_3 hB2.kb rfl hB2.r12 ?_
      refine bp_iload_n (q := 38) 19 rfl rfl rfl rfl ?_
      refine bp_aload_n (q := 39) 20 rfl rfl rfl rfl ?_
      refine bp_getR (x := A 1) (q := 42) (ci := 3) (j := 0) 21 rfl rfl fl_BR_14_3 hB2.kb rfl hB2.r0 ?_
      refine bp_callV (q := 45) (ci := 4) 22 rfl rfl cw_St_look lk_BR_132 rfl hB2.ko wd688 wd689 rfl rfl (Nat.le_of_ble_eq_true rfl) ⟨Nat.le_of_ble_eq_true rfl, Nat.le_of_ble_eq_true rfl⟩ (s_St_look (ro := false) hB2.so hv.1 hv.2.2.1 hv.2.2.2.1 ?_)
      refine bp_callV (q := 48) (ci := 2) 23 rfl rfl cw_Page_put lk_BR_135 rfl hB2.kp wd695 wd696 rfl rfl (Nat.le_of_ble_eq_true rfl) ⟨Nat.le_of_ble_eq_true rfl, Nat.le_of_ble_eq_true rfl⟩ (s_Page_put (u := k) (v := lkV v) hx rfl hB2.pg hL (fun h3 hP3 f3 => ?_))
      have hB3 := hB2.p hP3 f3
      refine bp_vret 24 rfl rfl  ⟨_, rfl, ?_⟩
      have hl0 : lv = 0 := by simpa using bI0.mp z14
      have y21 : ¬ k < 32 := Nat.not_lt.mpr ((nI_le_iff (a := 32) (by decide) (by omega)).mp (hx ▸ z21))
      have e_ : bLetter th k len (i, fa, me, lv, fr, it, en, v, nt, tb, nm, L, ps) = (i + len, fa, me, (lv - 1), fr, it, en, v, nt, tb, nm, L ++ [(k, lkV v)], ps) := (if_neg (fun z => z hl0)).trans (if_neg y21)
      exact hQ _ _ _ _ (Br.cast (τ := (th, w, n, d)) e_ hB3)
    · refine bp_aload_n (q := 25) 13 rfl rfl rfl rfl ?_
      refine bp_bipush (v := -5) (q := 27) 14 rfl rfl (by decide) ?_
      refine bp_callU (q := 30) (ci := 3) (owner := "BracedPages$Reader") 15 rfl rfl cw_Rd_fail wd590 wd591 (Or.inr rfl) ⟨by decide, by decide⟩ rfl rfl hB2.kb wd594 wd593 rfl rfl (Nat.le_of_ble_eq_true rfl) ⟨Nat.le_of_ble_eq_true rfl, Nat.le_of_ble_eq_true rfl⟩ (s_BR_fail hB2 (fun h3 hB3 => ?_))
      refine bp_goto (tgt := 48) 16 rfl (by decide) ?_
      refine bp_vret 24 rfl rfl  ⟨_, rfl, ?_⟩
      have hl0 : lv = 0 := by simpa using bI0.mp z14
      have y21 : k < 32 := Nat.not_le.mp (mt (nI_le_iff (a := 32) (by decide) (by omega)).mpr (fun q => z21 (by rw [hx]; exact q)))
      have e_ : bLetter th k len (i, fa, me, lv, fr, it, en, v, nt, tb, nm, L, ps) = (i + len, -5, nI th, (lv - 1), fr, it, en, v, nt, tb, nm, L, ps) := (if_neg (fun z => z hl0)).trans (if_pos y21)
      exact hQ _ _ _ _ (Br.cast (τ := (th, w, n, d)) e_ hB3)
  · refine bp_vret 9 rfl rfl  ⟨_, rfl, ?_⟩
    have hl1 : lv ≠ 0 := by simpa using bI1 z14
    have e_ : bLetter th k len (i, fa, me, lv, fr, it, en, v, nt, tb, nm, L, ps) = (i + len, fa, me, (lv - 1), fr, it, en, v, nt, tb, nm, L, ps) := if_pos hl1
    exact hQ _ _ _ _ (Br.cast (τ := (th, w, n, d)) e_ hB2)
def oI : Option Nat → Int32
  | some k => nI k
  | none => -1
theorem oI_m1 {o : Option Nat} (h : ∀ k, o = some k → k < 1000000) : oI o = -1 ↔ o = none := by
  cases o with
  | none => exact ⟨fun _ => rfl, fun _ => rfl⟩
  | some k => exact ⟨fun z => absurd z (nI_m1 (h k rfl)), fun z => nomatch z⟩
theorem hx_1 : ∀ c, c < 128 → 48 ≤ c → nI c - 48 = nI (c - 48) := by decide +kernel
theorem hx_2 : ∀ c, c < 128 → 97 ≤ c → nI c - 97 + 10 = nI (c - 87) := by decide +kernel
theorem smL_rg {T : List Nat} (hT : okT T) {k : Nat} (hk : k < 1000000) : wi (rg T (nI k)) 97 122 = smL (tc T k) := wi_rg hT (a := 97) (b := 122) hk (by decide) (by decide) (by decide)
theorem dgL_rg {T : List Nat} (hT : okT T) {k : Nat} (hk : k < 1000000) : wi (rg T (nI k)) 48 57 = dgL (tc T k) := wi_rg hT (a := 48) (b := 57) hk (by decide) (by decide) (by decide)
theorem rg_in {T : List Nat} (hT : okT T) {k : Nat} (hk : k < T.length) : rg T (nI k) = nI (tc T k) := rg_nI hk (by have := hT.1; omega)
set_option maxRecDepth 100000 in
set_option maxHeartbeats 4000000 in
theorem s_BR_hexValue {ro : Bool} {k : Nat} (hT : okT T) (hk : k < 1000000) (hQ : Q (some (.int (oI (hxV (tc T k))))) h c s) : bp_AM l G H0 (1, 22, ro, ro) M_BR_hexValue h c s [.int (rg T (nI k))] Q := by
  refine bp_of (ls := [some (.int (rg T (nI k)))]) (by decide) dt_BR_hexValue (Nat.le_of_ble_eq_true rfl) (fun q hq => hq) ro ?_
  refine bp_iload_n (q := 1) 0 rfl rfl rfl rfl ?_
  refine bp_callS (q := 4) 1 rfl rfl cw_X_isDigit lk_BR_141 wd638 rfl rfl (Nat.le_of_ble_eq_true rfl) ⟨Nat.le_of_ble_eq_true rfl, Nat.le_of_ble_eq_true rfl⟩ (s_X_isDigit (ro := ro) ?_)
  refine bp_if_eq (q := 7) (tgt := 12) 2 rfl rfl (by decide) (fun z4 => ?_) (fun z4 => ?_)
  · refine bp_iload_n (q := 13) 7 rfl rfl rfl rfl ?_
    refine bp_bipush (v := 97) (q := 15) 8 rfl rfl (by decide) ?_
    refine bp_bipush (v := 102) (q := 17) 9 rfl rfl (by decide) ?_
    refine bp_callS (q := 20) 10 rfl rfl cw_X_isWithin lk_BR_144 wd653 rfl rfl (Nat.le_of_ble_eq_true rfl) ⟨Nat.le_of_ble_eq_true rfl, Nat.le_of_ble_eq_true rfl⟩ (s_X_isWithin (ro := ro) ?_)
    refine bp_if_eq (q := 23) (tgt := 33) 11 rfl rfl (by decide) (fun z20 => ?_) (fun z20 => ?_)
    · refine bp_iconst (v := -1) (q := 34) 18 rfl rfl (by decide) ?_
      refine bp_iret 19 rfl rfl rfl ⟨_, rfl, ?_⟩
      have y := bI0.mp z4
      rw [dgL_rg hT hk] at y
      have e := wi_rg hT (k := k) (a := 97) (b := 102) hk (by decide) (by decide) (by decide)
      have y2 := e.symm.trans (bI0.mp z20)
      rw [Bool.and_eq_false_iff, decide_eq_false_iff_not, decide_eq_false_iff_not] at y2
      rw [hxV, if_neg (by rw [y]; decide), if_neg (fun q => y2.elim (fun r => r q.1) (fun r => r q.2))] at hQ
      exact hQ
    · refine bp_iload_n (q := 24) 12 rfl rfl rfl rfl ?_
      refine bp_bipush (v := 97) (q := 26) 13 rfl rfl (by decide) ?_
      refine bp_isub (q := 27) 14 rfl rfl ?_
      refine bp_bipush (v := 10) (q := 29) 15 rfl rfl (by decide) ?_
      refine bp_iadd (q := 30) 16 rfl rfl ?_
      refine bp_goto (tgt := 34) 17 rfl (by decide) ?_
      refine bp_iret 19 rfl rfl rfl ⟨_, rfl, ?_⟩
      have y := bI0.mp z4
      rw [dgL_rg hT hk] at y
      have e := wi_rg hT (k := k) (a := 97) (b := 102) hk (by decide) (by decide) (by decide)
      have y2 := e.symm.trans (bI1 z20)
      rw [Bool.and_eq_true, decide_eq_true_eq, decide_eq_true_eq] at y2
      have hi : k < T.length := tc_in (by omega)
      rw [rg_in hT hi, hx_2 _ (tc_lt hT k) y2.1]
      rw [hxV, if_neg (by rw [y]; decide), if_pos y2] at hQ
      exact hQ
  · refine bp_iload_n (q := 8) 3 rfl rfl rfl rfl ?_
    refine bp_bipush (v := 48) (q := 10) 4 rfl rfl (by decide) ?_
    refine bp_isub (q := 11) 5 rfl rfl ?_
    refine bp_iret 6 rfl rfl rfl ⟨_, rfl, ?_⟩
    have y := bI1 z4
    rw [dgL_rg hT hk] at y
    have hi := dg_in y
    rw [rg_in hT hi]
    have y2 : 48 ≤ tc T k := by unfold dgL at y; simp at y; exact y.1
    rw [hxV, if_pos y] at hQ
    rw [hx_1 _ (tc_lt hT k) y2]
    exact hQ
set_option maxRecDepth 100000 in
set_option maxHeartbeats 4000000 in
theorem s_BR_hexCodeAt {ro : Bool} {k : Nat} (hB0 : BrX mx c0 s0 A P T h0 na0 h na i fa me lv fr it en v nt tb nm L ps th w n d c s) (hT : okT T) (hk : k < 10000) (hQ : Q (some (.int (oI (hxC T k)))) h c s) : bp_AM l G H0 (2, 42, ro, ro) M_BR_hexCodeAt h c s [.ref (A 0), .int (nI k)] Q := by
  refine bp_of (ls := [some (.ref (A 0)), some (.int (nI k)), none, none]) (by decide) dt_BR_hexCodeAt (Nat.le_of_ble_eq_true rfl) (fun q hq => hq) ro ?_
  refine bp_aload_n (q := 1) 0 rfl rfl rfl rfl ?_
  refine bp_getR (x := A 6) (q := 4) (ci := 3) (j := 11) 1 rfl rfl fl_BR_52_3 hB0.kb rfl hB0.r11 ?_
  refine bp_iload_n (q := 5) 2 rfl rfl rfl rfl ?_
  refine bp_callV (q := 8) (ci := 1) 3 rfl rfl cw_Row_get lk_BR_56 rfl hB0.kx wd438 wd439 rfl rfl (Nat.le_of_ble_eq_true rfl) ⟨Nat.le_of_ble_eq_true rfl, Nat.le_of_ble_eq_true rfl⟩ (s_Row_get (ro := ro) hB0.tx ?_)
  refine bp_callS (q := 11) 4 rfl rfl cw_BR_hexValue lk_BR_138 wd712 rfl rfl (Nat.le_of_ble_eq_true rfl) ⟨Nat.le_of_ble_eq_true rfl, Nat.le_of_ble_eq_true rfl⟩ (s_BR_hexValue (ro := ro) (k := k) hT (by omega) ?_)
  refine bp_istore_n (q := 12) 5 rfl rfl rfl (by decide) (bp_up2 rfl) ?_
  refine bp_aload_n (q := 13) 6 rfl rfl rfl rfl ?_
  refine bp_getR (x := A 6) (q := 16) (ci := 3) (j := 11) 7 rfl rfl fl_BR_52_3 hB0.kb rfl hB0.r11 ?_
  refine bp_iload_n (q := 17) 8 rfl rfl rfl rfl ?_
  refine bp_iconst (v := 1) (q := 18) 9 rfl rfl (by decide) ?_
  refine bp_iadd (q := 19) 10 rfl rfl ?_
  rw [nI_1]
  refine bp_callV (q := 22) (ci := 1) 11 rfl rfl cw_Row_get lk_BR_56 rfl hB0.kx wd438 wd439 rfl rfl (Nat.le_of_ble_eq_true rfl) ⟨Nat.le_of_ble_eq_true rfl, Nat.le_of_ble_eq_true rfl⟩ (s_Row_get (ro := ro) hB0.tx ?_)
  refine bp_callS (q := 25) 12 rfl rfl cw_BR_hexValue lk_BR_138 wd712 rfl rfl (Nat.le_of_ble_eq_true rfl) ⟨Nat.le_of_ble_eq_true rfl, Nat.le_of_ble_eq_true rfl⟩ (s_BR_hexValue (ro := ro) (k := k + 1) hT (by omega) ?_)
  refine bp_istore_n (q := 26) 13 rfl rfl rfl (by decide) (bp_up3 rfl) ?_
  refine bp_iload_n (q := 27) 14 rfl rfl rfl rfl ?_
  refine bp_iconst (v := -1) (q := 28) 15 rfl rfl (by decide) ?_
  refine bp_icmp_eq (q := 31) (tgt := 36) 16 rfl rfl (by decide) (fun z28 => ?_) (fun z28 => ?_)
  · refine bp_iconst (v := -1) (q := 37) 20 rfl rfl (by decide) ?_
    refine bp_goto (tgt := 46) 21 rfl (by decide) ?_
    refine bp_iret 27 rfl rfl rfl ⟨_, rfl, ?_⟩
    have y := (oI_m1 (fun x hx => by have := hxV_lt hx; omega)).mp z28
    unfold hxC at hQ
    rw [y] at hQ
    exact hQ
  · refine bp_iload_n (q := 32) 17 rfl rfl rfl rfl ?_
    refine bp_iconst (v := -1) (q := 33) 18 rfl rfl (by decide) ?_
    refine bp_icmp_ne (q := 36) (tgt := 40) 19 rfl rfl (by decide) (fun z33 => ?_) (fun z33 => ?_)
    · refine bp_bipush (v := 16) (q := 42) 22 rfl rfl (by decide) ?_
      refine bp_iload_n (q := 43) 23 rfl rfl rfl rfl ?_
      refine bp_imul (q := 44) 24 rfl rfl ?_
      refine bp_iload_n (q := 45) 25 rfl rfl rfl rfl ?_
      refine bp_iadd (q := 46) 26 rfl rfl ?_
      refine bp_iret 27 rfl rfl rfl ⟨_, rfl, ?_⟩
      have y := mt (oI_m1 (fun x hx => by have := hxV_lt hx; omega)).mpr z28
      have y2 := mt (oI_m1 (fun x hx => by have := hxV_lt hx; omega)).mpr z33
      unfold hxC at hQ
      cases e1 : hxV (tc T k) with
      | none => exact absurd e1 y
      | some a =>
        cases e2 : hxV (tc T (k + 1)) with
        | none => exact absurd e2 y2
        | some b =>
          rw [e1, e2] at hQ
          have e : (16 : Int32) * oI (some a) + oI (some b) = nI (16 * a + b) := by
            show nI 16 * nI a + nI b = _
            rw [nI_mul, nI_add]
          rw [e]
          exact hQ
    · refine bp_iconst (v := -1) (q := 37) 20 rfl rfl (by decide) ?_
      refine bp_goto (tgt := 46) 21 rfl (by decide) ?_
      refine bp_iret 27 rfl rfl rfl ⟨_, rfl, ?_⟩
      have y := mt (oI_m1 (fun x hx => by have := hxV_lt hx; omega)).mpr z28
      have y2 := (oI_m1 (fun x hx => by have := hxV_lt hx; omega)).mp z33
      unfold hxC at hQ
      rw [y2] at hQ
      cases e1 : hxV (tc T k) with
      | none => exact absurd e1 y
      | some a => rw [e1] at hQ; exact hQ
theorem nI_dec {q : Nat} (h : q ≠ 0) : nI q + Int32.ofInt (-1) = nI (q - 1) := by
  obtain ⟨k, rfl⟩ := Nat.exists_eq_succ_of_ne_zero h
  have e : nI (k + 1) + Int32.ofInt (-1) = nI (k + 1) - 1 := by
    rw [Int32.sub_eq_add_neg]; rfl
  exact e.trans (nI_pred k)
set_option maxRecDepth 100000 in
set_option maxHeartbeats 4000000 in
theorem lp_BR_pass {cc : Option Value} (hT : okT T) (hB0 : BrX mx c0 s0 A P T h0 na0 h na i fa me lv fr it en v nt tb nm L ps th w n d c s) : ∀ (m q k : Nat), T.length ≤ m + k → k ≤ T.length + 1 → q ≤ k → (∀ h', BrX mx c0 s0 A P T h0 na0 h' na (pgE T m q k) fa me lv fr it en v nt tb nm L ps th w n d c s → Q none h' c s) → bp_A l G H0 (1, 21, false, false) M_BR_passToGroupEnd h c s 7 [some (.ref (A 0)), some (.int (nI q)), some (.int (nI k)), cc] [] (fun o h' c' s' => ∃ v, o = .returned v ∧ Q v h' c' s') := by
  have hT1 := hT.1
  intro m
  induction m generalizing cc with
  | zero =>
    intro q k hm hk1 hqk hQ
    refine bp_iload_n (q := 8) 5 rfl rfl rfl rfl ?_
    refine bp_aload_n (q := 9) 6 rfl rfl rfl rfl ?_
    refine bp_getR (x := A 6) (q := 12) (ci := 3) (j := 11) 7 rfl rfl fl_BR_52_3 hB0.kb rfl hB0.r11 ?_
    refine bp_callV (q := 15) (ci := 1) 8 rfl rfl cw_Row_size lk_BR_86 rfl hB0.kx wd455 wd456 rfl rfl (Nat.le_of_ble_eq_true rfl) ⟨Nat.le_of_ble_eq_true rfl, Nat.le_of_ble_eq_true rfl⟩ (s_Row_size (ro := false) hB0.tx ?_)
    refine bp_icmp_ge (q := 18) (tgt := 78) 9 rfl rfl (by decide) (fun z15 => ?_) (fun z15 => ?_)
    · refine bp_aload_n (q := 79) 40 rfl rfl rfl rfl ?_
      refine bp_iload_n (q := 80) 41 rfl rfl rfl rfl ?_
      refine bp_putI (q := 83) (ci := 3) (j := 13) 42 rfl rfl fl_BR_66_3 cl3 hB0.kb (fun r hr => by cases hr; rfl) (by decide) rfl rfl ?_
      refine bp_nx (X := fun h1 => BrX mx c0 s0 A P T h0 na0 h1 na k fa me lv fr it en v nt tb nm L ps th w n d c s) (hB0.s13 rfl) (fun h1 hB1 => ?_)
      exact bp_vret 43 rfl rfl  ⟨_, rfl, hQ _ hB1⟩
    · exact absurd (nI_le (by omega) (by omega)) z15
  | succ m ih =>
    intro q k hm hk1 hqk hQ
    refine bp_iload_n (q := 8) 5 rfl rfl rfl rfl ?_
    refine bp_aload_n (q := 9) 6 rfl rfl rfl rfl ?_
    refine bp_getR (x := A 6) (q := 12) (ci := 3) (j := 11) 7 rfl rfl fl_BR_52_3 hB0.kb rfl hB0.r11 ?_
    refine bp_callV (q := 15) (ci := 1) 8 rfl rfl cw_Row_size lk_BR_86 rfl hB0.kx wd455 wd456 rfl rfl (Nat.le_of_ble_eq_true rfl) ⟨Nat.le_of_ble_eq_true rfl, Nat.le_of_ble_eq_true rfl⟩ (s_Row_size (ro := false) hB0.tx ?_)
    refine bp_icmp_ge (q := 18) (tgt := 78) 9 rfl rfl (by decide) (fun z15 => ?_) (fun z15 => ?_)
    · refine bp_aload_n (q := 79) 40 rfl rfl rfl rfl ?_
      refine bp_iload_n (q := 80) 41 rfl rfl rfl rfl ?_
      refine bp_putI (q := 83) (ci := 3) (j := 13) 42 rfl rfl fl_BR_66_3 cl3 hB0.kb (fun r hr => by cases hr; rfl) (by decide) rfl rfl ?_
      refine bp_nx (X := fun h1 => BrX mx c0 s0 A P T h0 na0 h1 na k fa me lv fr it en v nt tb nm L ps th w n d c s) (hB0.s13 rfl) (fun h1 hB1 => ?_)
      refine bp_vret 43 rfl rfl  ⟨_, rfl, hQ _ ?_⟩
      have y := (nI_le_iff (by omega) (by omega)).mp z15
      rw [pgE, if_pos y]
      exact hB1
    · refine bp_aload_n (q := 19) 10 rfl rfl rfl rfl ?_
      refine bp_getR (x := A 6) (q := 22) (ci := 3) (j := 11) 11 rfl rfl fl_BR_52_3 hB0.kb rfl hB0.r11 ?_
      refine bp_iload_n (q := 23) 12 rfl rfl rfl rfl ?_
      refine bp_callV (q := 26) (ci := 1) 13 rfl rfl cw_Row_get lk_BR_56 rfl hB0.kx wd438 wd439 rfl rfl (Nat.le_of_ble_eq_true rfl) ⟨Nat.le_of_ble_eq_true rfl, Nat.le_of_ble_eq_true rfl⟩ (s_Row_get (ro := false) hB0.tx ?_)
      rw [rg_in hT (Nat.not_le.mp (mt (nI_le_iff (by omega) (by omega)).mpr z15))]
      refine bp_istore_n (q := 27) 14 rfl rfl rfl (by decide) (bp_up3 rfl) ?_
      refine bp_iload_n (q := 28) 15 rfl rfl rfl rfl ?_
      refine bp_bipush (v := 125) (q := 30) 16 rfl rfl (by decide) ?_
      refine bp_icmp_ne (q := 33) (tgt := 40) 17 rfl rfl (by decide) (fun z30 => ?_) (fun z30 => ?_)
      · refine bp_iload_n (q := 41) 21 rfl rfl rfl rfl ?_
        refine bp_bipush (v := 123) (q := 43) 22 rfl rfl (by decide) ?_
        refine bp_icmp_ne (q := 46) (tgt := 52) 23 rfl rfl (by decide) (fun z43 => ?_) (fun z43 => ?_)
        · refine bp_iload_n (q := 53) 26 rfl rfl rfl rfl ?_
          refine bp_bipush (v := 125) (q := 55) 27 rfl rfl (by decide) ?_
          refine bp_icmp_ne (q := 58) (tgt := 61) 28 rfl rfl (by decide) (fun z55 => ?_) (fun z55 => ?_)
          · refine bp_iload_n (q := 62) 30 rfl rfl rfl rfl ?_
            refine bp_iload_n (q := 63) 31 rfl rfl rfl rfl ?_
            refine bp_bipush (v := 92) (q := 65) 32 rfl rfl (by decide) ?_
            refine bp_icmp_ne (q := 68) (tgt := 72) 33 rfl rfl (by decide) (fun z65 => ?_) (fun z65 => ?_)
            · refine bp_iconst (v := 1) (q := 73) 36 rfl rfl (by decide) ?_
              refine bp_iadd (q := 74) 37 rfl rfl ?_
              rw [show nI k + 1 = nI (k + 1) from nI_add k 1]
              refine bp_istore_n (q := 75) 38 rfl rfl rfl (by decide) (bp_up2 rfl) ?_
              refine bp_goto (tgt := 7) 39 rfl (by decide) ?_
              have hk0 : ¬ T.length ≤ k := mt (nI_le_iff (by omega) (by omega)).mpr z15
              have y30 : ¬ tc T k = 125 := fun q => z30 (by rw [q]; rfl)
              have y43 : ¬ tc T k = 123 := fun q => z43 (by rw [q]; rfl)
              have y55 : ¬ tc T k = 125 := fun q => z55 (by rw [q]; rfl)
              have y65 : ¬ tc T k = 92 := fun q => z65 (by rw [q]; rfl)
              have e_ : pgE T (m + 1) q k = pgE T m (q) (k + 1) := by
                rw [pgE, if_neg hk0]
                simp [y30, y43, y55, y65]
              rw [e_] at hQ
              exact ih (q) (k + 1) (by omega) (by omega) (by omega) hQ
            · refine bp_iconst (v := 2) (q := 69) 34 rfl rfl (by decide) ?_
              refine bp_goto (tgt := 73) 35 rfl (by decide) ?_
              refine bp_iadd (q := 74) 37 rfl rfl ?_
              rw [show nI k + 2 = nI (k + 2) from nI_add k 2]
              refine bp_istore_n (q := 75) 38 rfl rfl rfl (by decide) (bp_up2 rfl) ?_
              refine bp_goto (tgt := 7) 39 rfl (by decide) ?_
              have hk0 : ¬ T.length ≤ k := mt (nI_le_iff (by omega) (by omega)).mpr z15
              have y30 : ¬ tc T k = 125 := fun q => z30 (by rw [q]; rfl)
              have y43 : ¬ tc T k = 123 := fun q => z43 (by rw [q]; rfl)
              have y55 : ¬ tc T k = 125 := fun q => z55 (by rw [q]; rfl)
              have y65 : tc T k = 92 := (nI_eq_iff (b := 92) (by have := tc_lt hT k; omega) (by decide)).mp z65
              have e_ : pgE T (m + 1) q k = pgE T m (q) (k + 2) := by
                rw [pgE, if_neg hk0]
                simp [y30, y43, y55, y65]
              rw [e_] at hQ
              exact ih (q) (k + 2) (by omega) (by omega) (by omega) hQ
          · refine bp_iinc (v := nI (q - 1)) (q := 61) 29 rfl rfl rfl (by first | exact nI_dec (fun e => z34 (by rw [e]; rfl)) | exact absurd z55 z30) (by decide) (bp_up1 rfl) ?_
            refine bp_iload_n (q := 62) 30 rfl rfl rfl rfl ?_
            refine bp_iload_n (q := 63) 31 rfl rfl rfl rfl ?_
            refine bp_bipush (v := 92) (q := 65) 32 rfl rfl (by decide) ?_
            refine bp_icmp_ne (q := 68) (tgt := 72) 33 rfl rfl (by decide) (fun z65 => ?_) (fun z65 => ?_)
            · refine bp_iconst (v := 1) (q := 73) 36 rfl rfl (by decide) ?_
              refine bp_iadd (q := 74) 37 rfl rfl ?_
              rw [show nI k + 1 = nI (k + 1) from nI_add k 1]
              refine bp_istore_n (q := 75) 38 rfl rfl rfl (by decide) (bp_up2 rfl) ?_
              refine bp_goto (tgt := 7) 39 rfl (by decide) ?_
              have hk0 : ¬ T.length ≤ k := mt (nI_le_iff (by omega) (by omega)).mpr z15
              have y30 : ¬ tc T k = 125 := fun q => z30 (by rw [q]; rfl)
              have y43 : ¬ tc T k = 123 := fun q => z43 (by rw [q]; rfl)
              have y55 : tc T k = 125 := (nI_eq_iff (b := 125) (by have := tc_lt hT k; omega) (by decide)).mp z55
              have y65 : ¬ tc T k = 92 := fun q => z65 (by rw [q]; rfl)
              exact absurd y55 y30
            · refine bp_iconst (v := 2) (q := 69) 34 rfl rfl (by decide) ?_
              refine bp_goto (tgt := 73) 35 rfl (by decide) ?_
              refine bp_iadd (q := 74) 37 rfl rfl ?_
              rw [show nI k + 2 = nI (k + 2) from nI_add k 2]
              refine bp_istore_n (q := 75) 38 rfl rfl rfl (by decide) (bp_up2 rfl) ?_
              refine bp_goto (tgt := 7) 39 rfl (by decide) ?_
              have hk0 : ¬ T.length ≤ k := mt (nI_le_iff (by omega) (by omega)).mpr z15
              have y30 : ¬ tc T k = 125 := fun q => z30 (by rw [q]; rfl)
              have y43 : ¬ tc T k = 123 := fun q => z43 (by rw [q]; rfl)
              have y55 : tc T k = 125 := (nI_eq_iff (b := 125) (by have := tc_lt hT k; omega) (by decide)).mp z55
              have y65 : tc T k = 92 := (nI_eq_iff (b := 92) (by have := tc_lt hT k; omega) (by decide)).mp z65
              exact absurd y55 y30
        · refine bp_iinc (v := nI (q + 1)) (q := 49) 24 rfl rfl rfl (nI_1 q) (by decide) (bp_up1 rfl) ?_
          refine bp_goto (tgt := 61) 25 rfl (by decide) ?_
          refine bp_iload_n (q := 62) 30 rfl rfl rfl rfl ?_
          refine bp_iload_n (q := 63) 31 rfl rfl rfl rfl ?_
          refine bp_bipush (v := 92) (q := 65) 32 rfl rfl (by decide) ?_
          refine bp_icmp_ne (q := 68) (tgt := 72) 33 rfl rfl (by decide) (fun z65 => ?_) (fun z65 => ?_)
          · refine bp_iconst (v := 1) (q := 73) 36 rfl rfl (by decide) ?_
            refine bp_iadd (q := 74) 37 rfl rfl ?_
            rw [show nI k + 1 = nI (k + 1) from nI_add k 1]
            refine bp_istore_n (q := 75) 38 rfl rfl rfl (by decide) (bp_up2 rfl) ?_
            refine bp_goto (tgt := 7) 39 rfl (by decide) ?_
            have hk0 : ¬ T.length ≤ k := mt (nI_le_iff (by omega) (by omega)).mpr z15
            have y30 : ¬ tc T k = 125 := fun q => z30 (by rw [q]; rfl)
            have y43 : tc T k = 123 := (nI_eq_iff (b := 123) (by have := tc_lt hT k; omega) (by decide)).mp z43
            have y65 : ¬ tc T k = 92 := fun q => z65 (by rw [q]; rfl)
            have e_ : pgE T (m + 1) q k = pgE T m (q + 1) (k + 1) := by
              rw [pgE, if_neg hk0]
              simp [y30, y43, y65]
            rw [e_] at hQ
            exact ih (q + 1) (k + 1) (by omega) (by omega) (by omega) hQ
          · refine bp_iconst (v := 2) (q := 69) 34 rfl rfl (by decide) ?_
            refine bp_goto (tgt := 73) 35 rfl (by decide) ?_
            refine bp_iadd (q := 74) 37 rfl rfl ?_
            rw [show nI k + 2 = nI (k + 2) from nI_add k 2]
            refine bp_istore_n (q := 75) 38 rfl rfl rfl (by decide) (bp_up2 rfl) ?_
            refine bp_goto (tgt := 7) 39 rfl (by decide) ?_
            have hk0 : ¬ T.length ≤ k := mt (nI_le_iff (by omega) (by omega)).mpr z15
            have y30 : ¬ tc T k = 125 := fun q => z30 (by rw [q]; rfl)
            have y43 : tc T k = 123 := (nI_eq_iff (b := 123) (by have := tc_lt hT k; omega) (by decide)).mp z43
            have y65 : tc T k = 92 := (nI_eq_iff (b := 92) (by have := tc_lt hT k; omega) (by decide)).mp z65
            omega
      · refine bp_iload_n (q := 34) 18 rfl rfl rfl rfl ?_
        refine bp_if_ne (q := 37) (tgt := 40) 19 rfl rfl (by decide) (fun z34 => ?_) (fun z34 => ?_)
        · refine bp_iload_n (q := 41) 21 rfl rfl rfl rfl ?_
          refine bp_bipush (v := 123) (q := 43) 22 rfl rfl (by decide) ?_
          refine bp_icmp_ne (q := 46) (tgt := 52) 23 rfl rfl (by decide) (fun z43 => ?_) (fun z43 => ?_)
          · refine bp_iload_n (q := 53) 26 rfl rfl rfl rfl ?_
            refine bp_bipush (v := 125) (q := 55) 27 rfl rfl (by decide) ?_
            refine bp_icmp_ne (q := 58) (tgt := 61) 28 rfl rfl (by decide) (fun z55 => ?_) (fun z55 => ?_)
            · refine bp_iload_n (q := 62) 30 rfl rfl rfl rfl ?_
              refine bp_iload_n (q := 63) 31 rfl rfl rfl rfl ?_
              refine bp_bipush (v := 92) (q := 65) 32 rfl rfl (by decide) ?_
              refine bp_icmp_ne (q := 68) (tgt := 72) 33 rfl rfl (by decide) (fun z65 => ?_) (fun z65 => ?_)
              · refine bp_iconst (v := 1) (q := 73) 36 rfl rfl (by decide) ?_
                refine bp_iadd (q := 74) 37 rfl rfl ?_
                rw [show nI k + 1 = nI (k + 1) from nI_add k 1]
                refine bp_istore_n (q := 75) 38 rfl rfl rfl (by decide) (bp_up2 rfl) ?_
                refine bp_goto (tgt := 7) 39 rfl (by decide) ?_
                have hk0 : ¬ T.length ≤ k := mt (nI_le_iff (by omega) (by omega)).mpr z15
                have y30 : tc T k = 125 := (nI_eq_iff (b := 125) (by have := tc_lt hT k; omega) (by decide)).mp z30
                have y43 : ¬ tc T k = 123 := fun q => z43 (by rw [q]; rfl)
                have y55 : ¬ tc T k = 125 := fun q => z55 (by rw [q]; rfl)
                have y65 : ¬ tc T k = 92 := fun q => z65 (by rw [q]; rfl)
                have y34 : ¬ q = 0 := fun e => z34 (by rw [e]; rfl)
                exact absurd y30 y55
              · refine bp_iconst (v := 2) (q := 69) 34 rfl rfl (by decide) ?_
                refine bp_goto (tgt := 73) 35 rfl (by decide) ?_
                refine bp_iadd (q := 74) 37 rfl rfl ?_
                rw [show nI k + 2 = nI (k + 2) from nI_add k 2]
                refine bp_istore_n (q := 75) 38 rfl rfl rfl (by decide) (bp_up2 rfl) ?_
                refine bp_goto (tgt := 7) 39 rfl (by decide) ?_
                have hk0 : ¬ T.length ≤ k := mt (nI_le_iff (by omega) (by omega)).mpr z15
                have y30 : tc T k = 125 := (nI_eq_iff (b := 125) (by have := tc_lt hT k; omega) (by decide)).mp z30
                have y43 : ¬ tc T k = 123 := fun q => z43 (by rw [q]; rfl)
                have y55 : ¬ tc T k = 125 := fun q => z55 (by rw [q]; rfl)
                have y65 : tc T k = 92 := (nI_eq_iff (b := 92) (by have := tc_lt hT k; omega) (by decide)).mp z65
                have y34 : ¬ q = 0 := fun e => z34 (by rw [e]; rfl)
                exact absurd y30 y55
            · refine bp_iinc (v := nI (q - 1)) (q := 61) 29 rfl rfl rfl (by first | exact nI_dec (fun e => z34 (by rw [e]; rfl)) | exact absurd z55 z30) (by decide) (bp_up1 rfl) ?_
              refine bp_iload_n (q := 62) 30 rfl rfl rfl rfl ?_
              refine bp_iload_n (q := 63) 31 rfl rfl rfl rfl ?_
              refine bp_bipush (v := 92) (q := 65) 32 rfl rfl (by decide) ?_
              refine bp_icmp_ne (q := 68) (tgt := 72) 33 rfl rfl (by decide) (fun z65 => ?_) (fun z65 => ?_)
              · refine bp_iconst (v := 1) (q := 73) 36 rfl rfl (by decide) ?_
                refine bp_iadd (q := 74) 37 rfl rfl ?_
                rw [show nI k + 1 = nI (k + 1) from nI_add k 1]
                refine bp_istore_n (q := 75) 38 rfl rfl rfl (by decide) (bp_up2 rfl) ?_
                refine bp_goto (tgt := 7) 39 rfl (by decide) ?_
                have hk0 : ¬ T.length ≤ k := mt (nI_le_iff (by omega) (by omega)).mpr z15
                have y30 : tc T k = 125 := (nI_eq_iff (b := 125) (by have := tc_lt hT k; omega) (by decide)).mp z30
                have y43 : ¬ tc T k = 123 := fun q => z43 (by rw [q]; rfl)
                have y55 : tc T k = 125 := (nI_eq_iff (b := 125) (by have := tc_lt hT k; omega) (by decide)).mp z55
                have y65 : ¬ tc T k = 92 := fun q => z65 (by rw [q]; rfl)
                have y34 : ¬ q = 0 := fun e => z34 (by rw [e]; rfl)
                have e_ : pgE T (m + 1) q k = pgE T m (q - 1) (k + 1) := by
                  rw [pgE, if_neg hk0]
                  simp [y30, y34, y43, y55, y65]
                rw [e_] at hQ
                exact ih (q - 1) (k + 1) (by omega) (by omega) (by omega) hQ
              · refine bp_iconst (v := 2) (q := 69) 34 rfl rfl (by decide) ?_
                refine bp_goto (tgt := 73) 35 rfl (by decide) ?_
                refine bp_iadd (q := 74) 37 rfl rfl ?_
                rw [show nI k + 2 = nI (k + 2) from nI_add k 2]
                refine bp_istore_n (q := 75) 38 rfl rfl rfl (by decide) (bp_up2 rfl) ?_
                refine bp_goto (tgt := 7) 39 rfl (by decide) ?_
                have hk0 : ¬ T.length ≤ k := mt (nI_le_iff (by omega) (by omega)).mpr z15
                have y30 : tc T k = 125 := (nI_eq_iff (b := 125) (by have := tc_lt hT k; omega) (by decide)).mp z30
                have y43 : ¬ tc T k = 123 := fun q => z43 (by rw [q]; rfl)
                have y55 : tc T k = 125 := (nI_eq_iff (b := 125) (by have := tc_lt hT k; omega) (by decide)).mp z55
                have y65 : tc T k = 92 := (nI_eq_iff (b := 92) (by have := tc_lt hT k; omega) (by decide)).mp z65
                have y34 : ¬ q = 0 := fun e => z34 (by rw [e]; rfl)
                omega
          · refine bp_iinc (v := nI (q + 1)) (q := 49) 24 rfl rfl rfl (nI_1 q) (by decide) (bp_up1 rfl) ?_
            refine bp_goto (tgt := 61) 25 rfl (by decide) ?_
            refine bp_iload_n (q := 62) 30 rfl rfl rfl rfl ?_
            refine bp_iload_n (q := 63) 31 rfl rfl rfl rfl ?_
            refine bp_bipush (v := 92) (q := 65) 32 rfl rfl (by decide) ?_
            refine bp_icmp_ne (q := 68) (tgt := 72) 33 rfl rfl (by decide) (fun z65 => ?_) (fun z65 => ?_)
            · refine bp_iconst (v := 1) (q := 73) 36 rfl rfl (by decide) ?_
              refine bp_iadd (q := 74) 37 rfl rfl ?_
              rw [show nI k + 1 = nI (k + 1) from nI_add k 1]
              refine bp_istore_n (q := 75) 38 rfl rfl rfl (by decide) (bp_up2 rfl) ?_
              refine bp_goto (tgt := 7) 39 rfl (by decide) ?_
              have hk0 : ¬ T.length ≤ k := mt (nI_le_iff (by omega) (by omega)).mpr z15
              have y30 : tc T k = 125 := (nI_eq_iff (b := 125) (by have := tc_lt hT k; omega) (by decide)).mp z30
              have y43 : tc T k = 123 := (nI_eq_iff (b := 123) (by have := tc_lt hT k; omega) (by decide)).mp z43
              have y65 : ¬ tc T k = 92 := fun q => z65 (by rw [q]; rfl)
              have y34 : ¬ q = 0 := fun e => z34 (by rw [e]; rfl)
              omega
            · refine bp_iconst (v := 2) (q := 69) 34 rfl rfl (by decide) ?_
              refine bp_goto (tgt := 73) 35 rfl (by decide) ?_
              refine bp_iadd (q := 74) 37 rfl rfl ?_
              rw [show nI k + 2 = nI (k + 2) from nI_add k 2]
              refine bp_istore_n (q := 75) 38 rfl rfl rfl (by decide) (bp_up2 rfl) ?_
              refine bp_goto (tgt := 7) 39 rfl (by decide) ?_
              have hk0 : ¬ T.length ≤ k := mt (nI_le_iff (by omega) (by omega)).mpr z15
              have y30 : tc T k = 125 := (nI_eq_iff (b := 125) (by have := tc_lt hT k; omega) (by decide)).mp z30
              have y43 : tc T k = 123 := (nI_eq_iff (b := 123) (by have := tc_lt hT k; omega) (by decide)).mp z43
              have y65 : tc T k = 92 := (nI_eq_iff (b := 92) (by have := tc_lt hT k; omega) (by decide)).mp z65
              have y34 : ¬ q = 0 := fun e => z34 (by rw [e]; rfl)
              omega
        · refine bp_goto (tgt := 78) 20 rfl (by decide) ?_
          refine bp_aload_n (q := 79) 40 rfl rfl rfl rfl ?_
          refine bp_iload_n (q := 80) 41 rfl rfl rfl rfl ?_
          refine bp_putI (q := 83) (ci := 3) (j := 13) 42 rfl rfl fl_BR_66_3 cl3 hB0.kb (fun r hr => by cases hr; rfl) (by decide) rfl rfl ?_
          refine bp_nx (X := fun h1 => BrX mx c0 s0 A P T h0 na0 h1 na k fa me lv fr it en v nt tb nm L ps th w n d c s) (hB0.s13 rfl) (fun h1 hB1 => ?_)
          refine bp_vret 43 rfl rfl  ⟨_, rfl, hQ _ ?_⟩
          have hk0 : ¬ T.length ≤ k := mt (nI_le_iff (by omega) (by omega)).mpr z15
          have y30 : tc T k = 125 := (nI_eq_iff (b := 125) (by have := tc_lt hT k; omega) (by decide)).mp z30
          have y34 : q = 0 := (nI_eq_iff (b := 0) (by omega) (by decide)).mp z34
          rw [pgE, if_neg hk0, if_pos ⟨y30, y34⟩]
          exact hB1
set_option maxRecDepth 100000 in
set_option maxHeartbeats 4000000 in
theorem s_BR_pass  (hB0 : BrX mx c0 s0 A P T h0 na0 h na i fa me lv fr it en v nt tb nm L ps th w n d c s) (hT : okT T) (hi : i ≤ T.length + 1) (hQ : ∀ h', BrX mx c0 s0 A P T h0 na0 h' na ((pgE T (T.length - i) 0 i)) fa me lv fr it en v nt tb nm L ps th w n d c s → Q none h' c s) : bp_AM l G H0 (1, 21, false, false) M_BR_passToGroupEnd h c s [.ref (A 0)] Q := by
  refine bp_of (ls := [some (.ref (A 0)), none, none, none]) (by decide) dt_BR_passToGroupEnd (Nat.le_of_ble_eq_true rfl) (fun q hq => hq) false ?_
  refine bp_iconst (v := 0) (q := 1) 0 rfl rfl (by decide) ?_
  refine bp_istore_n (q := 2) 1 rfl rfl rfl (by decide) (bp_up1 rfl) ?_
  refine bp_aload_n (q := 3) 2 rfl rfl rfl rfl ?_
  refine bp_getI (q := 6) (ci := 3) (j := 13) 3 rfl rfl fl_BR_66_3 hB0.kb rfl ?_
  rw [hB0.i13]
  refine bp_istore_n (q := 7) 4 rfl rfl rfl (by decide) (bp_up2 rfl) ?_
  exact lp_BR_pass hT hB0 (T.length - i) 0 i (by omega) hi (Nat.zero_le _) hQ
set_option maxRecDepth 100000 in
set_option maxHeartbeats 4000000 in
theorem s_BR_readStar {b : Bool} (hB0 : BrX mx c0 s0 A P T h0 na0 h na i fa me lv fr it en v nt tb nm L ps th w n d c s) (hT : okT T) (hi : i + 2 ≤ T.length + 1) (hlv : lv ≤ 9) (hQ : ∀ h' na' c' s', Br mx c0 s0 A P T h0 na0 h' na' (bStar T b (i, fa, me, lv, fr, it, en, v, nt, tb, nm, L, ps)) (th, w, n, d) c' s' → Q none h' c' s') : bp_AM l G H0 (2, 44, false, false) M_BR_readStar h c s [.ref (A 0), .int (bI b)] Q := by
  refine bp_of (ls := [some (.ref (A 0)), some (.int (bI b))]) (by decide) dt_BR_readStar (Nat.le_of_ble_eq_true rfl) (fun q hq => hq) false ?_
  refine bp_aload_n (q := 1) 0 rfl rfl rfl rfl ?_
  refine bp_dup (q := 2) 1 rfl rfl rfl ?_
  refine bp_getI (q := 5) (ci := 3) (j := 13) 2 rfl rfl fl_BR_66_3 hB0.kb rfl ?_
  rw [hB0.i13]
  refine bp_iconst (v := 2) (q := 6) 3 rfl rfl (by decide) ?_
  refine bp_iadd (q := 7) 4 rfl rfl ?_
  refine bp_putI (q := 10) (ci := 3) (j := 13) 5 rfl rfl fl_BR_66_3 cl3 hB0.kb (fun r hr => by cases hr; rfl) (by decide) rfl rfl ?_
  refine bp_nx (X := fun h1 => BrX mx c0 s0 A P T h0 na0 h1 na (i + 2) fa me lv fr it en v nt tb nm L ps th w n d c s) (hB0.s13 (nI_add _ 2)) (fun h1 hB1 => ?_)
  refine bp_aload_n (q := 11) 6 rfl rfl rfl rfl ?_
  refine bp_callV (q := 14) (ci := 3) 7 rfl rfl cw_BR_leavesOut lk_BR_129 rfl hB1.kb wd646 wd10 rfl rfl (Nat.le_of_ble_eq_true rfl) ⟨Nat.le_of_ble_eq_true rfl, Nat.le_of_ble_eq_true rfl⟩ (s_BR_leavesOut hB1 hlv (fun h2 hB2 => ?_))
  refine bp_if_ne (q := 17) (tgt := 25) 8 rfl rfl (by decide) (fun z14 => ?_) (fun z14 => ?_)
  · refine bp_vret 13 rfl rfl  ⟨_, rfl, ?_⟩
    have hl1 : lv ≠ 0 := by simpa using bI1 z14
    have e_ : bStar T b (i, fa, me, lv, fr, it, en, v, nt, tb, nm, L, ps) = (i + 2, fa, me, (lv - 1), fr, it, en, v, nt, tb, nm, L, ps) := if_pos hl1
    exact hQ _ _ _ _ (Br.cast (τ := (th, w, n, d)) e_ hB2)
  · refine bp_iload_n (q := 18) 9 rfl rfl rfl rfl ?_
    refine bp_if_eq (q := 21) (tgt := 25) 10 rfl rfl (by decide) (fun z18 => ?_) (fun z18 => ?_)
    · refine bp_vret 13 rfl rfl  ⟨_, rfl, ?_⟩
      have hl0 : lv = 0 := by simpa using bI0.mp z14
      have y18 : b = false := bI0.mp z18
      have e_ : bStar T b (i, fa, me, lv, fr, it, en, v, nt, tb, nm, L, ps) = (i + 2, fa, me, (lv - 1), fr, it, en, v, nt, tb, nm, L, ps) := (if_neg (fun z => z hl0)).trans (if_neg (by rw [y18]; decide))
      exact hQ _ _ _ _ (Br.cast (τ := (th, w, n, d)) e_ hB2)
    · refine bp_aload_n (q := 22) 11 rfl rfl rfl rfl ?_
      refine bp_callV (q := 25) (ci := 3) 12 rfl rfl cw_BR_passToGroupEnd lk_BR_148 rfl hB2.kb wd724 wd19 rfl rfl (Nat.le_of_ble_eq_true rfl) ⟨Nat.le_of_ble_eq_true rfl, Nat.le_of_ble_eq_true rfl⟩ (s_BR_pass hB2 hT hi (fun h3 hB3 => ?_))
      refine bp_vret 13 rfl rfl  ⟨_, rfl, ?_⟩
      have hl0 : lv = 0 := by simpa using bI0.mp z14
      have y18 : b = true := bI1 z18
      have e_ : bStar T b (i, fa, me, lv, fr, it, en, v, nt, tb, nm, L, ps) = (pgE T (T.length - (i + 2)) 0 (i + 2), fa, me, (lv - 1), fr, it, en, v, nt, tb, nm, L, ps) := (if_neg (fun z => z hl0)).trans (if_pos y18)
      exact hQ _ _ _ _ (Br.cast (τ := (th, w, n, d)) e_ hB3)
end BR1
