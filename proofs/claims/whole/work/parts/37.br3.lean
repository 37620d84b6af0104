/-! the braced reader: what words do -/
theorem st_off : ∀ m, m < 8 → ∀ b, b < 5 → (b = 1 ∨ b = 2 ∨ b = 4) → nI m &&& (nI b ^^^ -1) = nI (stS m b true) ∧ nI m ||| nI b = nI (stS m b false) := by decide +kernel
theorem w16 {w : Nat} (h : w < 16) : w = 0 ∨ w = 1 ∨ w = 2 ∨ w = 3 ∨ w = 4 ∨ w = 5 ∨ w = 6 ∨ w = 7 ∨ w = 8 ∨ w = 9 ∨ w = 10 ∨ w = 11 ∨ w = 12 ∨ w = 13 ∨ w = 14 ∨ w = 15 := by omega
section BR3
variable {l : Launch} {G : bp_G} {H0 : Heap} {mx c0 s0 : Nat} {A P : Nat → Nat} {T : List Nat} {h0 : bp_H} {na0 : Nat} {h : bp_H} {na i : Nat} {fa me : Int32} {lv : Nat} {fr it en : Bool} {v : Nat → Nat} {nt : List (Nat → Nat)} {tb nm : List Nat} {L : List (Nat × Nat)} {ps : List (Nat × Nat × Nat)} {th w : Nat} {n : Int32} {d c s : Nat} {Q : Option Value → bp_H → Nat → Nat → Prop}
set_option maxRecDepth 100000 in
set_option maxHeartbeats 4000000 in
theorem s_BR_numberOr {ro : Bool} {x : Int32} (hB0 : BrX mx c0 s0 A P T h0 na0 h na i fa me lv fr it en v nt tb nm L ps th w n d c s) (hd : d < 1000000) (hQ : Q (some (.int (nuO d n x))) h c s) : bp_AM l G H0 (0, 0, ro, ro) M_BR_numberOr h c s [.ref (A 0), .int x] Q := by
  refine bp_of (ls := [some (.ref (A 0)), some (.int x)]) (by decide) dt_BR_numberOr (Nat.le_of_ble_eq_true rfl) (fun q hq => hq) ro ?_
  refine bp_aload_n (q := 1) 0 rfl rfl rfl rfl ?_
  refine bp_getI (q := 4) (ci := 3) (j := 10) 1 rfl rfl fl_BR_164_3 hB0.kb rfl ?_
  rw [hB0.i10]
  refine bp_if_ne (q := 7) (tgt := 11) 2 rfl rfl (by decide) (fun z4 => ?_) (fun z4 => ?_)
  · refine bp_aload_n (q := 12) 5 rfl rfl rfl rfl ?_
    refine bp_getI (q := 15) (ci := 3) (j := 9) 6 rfl rfl fl_BR_161_3 hB0.kb rfl ?_
    rw [hB0.i9]
    refine bp_iret 7 rfl rfl rfl ⟨_, rfl, ?_⟩
    have y : ¬ d = 0 := fun q => z4 (by rw [q]; rfl)
    rw [nuO, if_neg y] at hQ
    exact hQ
  · refine bp_iload_n (q := 8) 3 rfl rfl rfl rfl ?_
    refine bp_goto (tgt := 15) 4 rfl (by decide) ?_
    refine bp_iret 7 rfl rfl rfl ⟨_, rfl, ?_⟩
    have y : d = 0 := (nI_eq_iff (b := 0) (by omega) (by decide)).mp z4
    rw [nuO, if_pos y] at hQ
    exact hQ
set_option maxRecDepth 100000 in
set_option maxHeartbeats 4000000 in
theorem s_BR_numberFits {ro : Bool}  (hB0 : BrX mx c0 s0 A P T h0 na0 h na i fa me lv fr it en v nt tb nm L ps th w n d c s) (hw : w < 16) (hd : d < 1000000) (hQ : Q (some (.int (bI (nfit tb w n d)))) h c s) : bp_AM l G H0 (1, 22, ro, ro) M_BR_numberFits h c s [.ref (A 0)] Q := by
  refine bp_of (ls := [some (.ref (A 0))]) (by decide) dt_BR_numberFits (Nat.le_of_ble_eq_true rfl) (fun q hq => hq) ro ?_
  refine bp_aload_n (q := 1) 0 rfl rfl rfl rfl ?_
  refine bp_getI (q := 4) (ci := 3) (j := 8) 1 rfl rfl fl_BR_155_3 hB0.kb rfl ?_
  rw [hB0.i8]
  refine bp_if_eq (q := 7) (tgt := 16) 2 rfl rfl (by decide) (fun z4 => ?_) (fun z4 => ?_)
  · refine bp_iconst (v := 1) (q := 17) 7 rfl rfl (by decide) ?_
    refine bp_iret 8 rfl rfl (by first | rfl | assumption) ⟨_, rfl, ?_⟩
    have y : w = 0 := (nI_eq_iff (b := 0) (by omega) (by decide)).mp z4
    rw [nfit, if_pos (Or.inl y)] at hQ
    exact hQ
  · refine bp_aload_n (q := 8) 3 rfl rfl rfl rfl ?_
    refine bp_getI (q := 11) (ci := 3) (j := 8) 4 rfl rfl fl_BR_155_3 hB0.kb rfl ?_
    rw [hB0.i8]
    refine bp_bipush (v := 15) (q := 13) 5 rfl rfl (by decide) ?_
    refine bp_icmp_ne (q := 16) (tgt := 18) 6 rfl rfl (by decide) (fun z13 => ?_) (fun z13 => ?_)
    · refine bp_aload_n (q := 19) 9 rfl rfl rfl rfl ?_
      refine bp_getI (q := 22) (ci := 3) (j := 10) 10 rfl rfl fl_BR_164_3 hB0.kb rfl ?_
      rw [hB0.i10]
      refine bp_iconst (v := 5) (q := 23) 11 rfl rfl (by decide) ?_
      refine bp_icmp_le (q := 26) (tgt := 28) 12 rfl rfl (by decide) (fun z23 => ?_) (fun z23 => ?_)
      · refine bp_aload_n (q := 29) 15 rfl rfl rfl rfl ?_
        refine bp_getI (q := 32) (ci := 3) (j := 10) 16 rfl rfl fl_BR_164_3 hB0.kb rfl ?_
        rw [hB0.i10]
        refine bp_if_ne (q := 35) (tgt := 50) 17 rfl rfl (by decide) (fun z32 => ?_) (fun z32 => ?_)
        · refine bp_aload_n (q := 51) 26 rfl rfl rfl rfl ?_
          refine bp_getI (q := 54) (ci := 3) (j := 8) 27 rfl rfl fl_BR_155_3 hB0.kb rfl ?_
          rw [hB0.i8]
          rcases w16 hw with e_ | e_ | e_ | e_ | e_ | e_ | e_ | e_ | e_ | e_ | e_ | e_ | e_ | e_ | e_ | e_
          · subst e_
            exact absurd rfl z4
          · subst e_
            refine bp_tsOut (tgt := 170) 28 rfl (by decide) (by decide) ?_
            refine bp_iconst (v := 1) (q := 171) 59 rfl rfl (by decide) ?_
            refine bp_iret 60 rfl rfl (by first | rfl | assumption) ⟨_, rfl, ?_⟩
            have y0 : ¬ (1 = 0 ∨ 1 = 15) := by decide
            have y1 : ¬ 5 < d := Nat.not_lt.mpr ((nI_le_iff (b := 5) (by omega) (by decide)).mp z23)
            have y2 : ¬ d = 0 := fun q => z32 (by rw [q]; rfl)
            rw [nfit, if_neg y0, if_neg y1, if_neg y2] at hQ
            exact hQ
          · subst e_
            refine bp_tsOut (tgt := 170) 28 rfl (by decide) (by decide) ?_
            refine bp_iconst (v := 1) (q := 171) 59 rfl rfl (by decide) ?_
            refine bp_iret 60 rfl rfl (by first | rfl | assumption) ⟨_, rfl, ?_⟩
            have y0 : ¬ (2 = 0 ∨ 2 = 15) := by decide
            have y1 : ¬ 5 < d := Nat.not_lt.mpr ((nI_le_iff (b := 5) (by omega) (by decide)).mp z23)
            have y2 : ¬ d = 0 := fun q => z32 (by rw [q]; rfl)
            rw [nfit, if_neg y0, if_neg y1, if_neg y2] at hQ
            exact hQ
          · subst e_
            refine bp_tsOut (tgt := 170) 28 rfl (by decide) (by decide) ?_
            refine bp_iconst (v := 1) (q := 171) 59 rfl rfl (by decide) ?_
            refine bp_iret 60 rfl rfl (by first | rfl | assumption) ⟨_, rfl, ?_⟩
            have y0 : ¬ (3 = 0 ∨ 3 = 15) := by decide
            have y1 : ¬ 5 < d := Nat.not_lt.mpr ((nI_le_iff (b := 5) (by omega) (by decide)).mp z23)
            have y2 : ¬ d = 0 := fun q => z32 (by rw [q]; rfl)
            rw [nfit, if_neg y0, if_neg y1, if_neg y2] at hQ
            exact hQ
          · subst e_
            refine bp_tsIn (tgt := 112) 28 rfl (by decide) (by decide) rfl (by decide) ?_
            refine bp_aload_n (q := 113) 29 rfl rfl rfl rfl ?_
            refine bp_getI (q := 116) (ci := 3) (j := 9) 30 rfl rfl fl_BR_161_3 hB0.kb rfl ?_
            rw [hB0.i9]
            refine bp_iconst (v := 1) (q := 117) 31 rfl rfl (by decide) ?_
            refine bp_bipush (v := 99) (q := 119) 32 rfl rfl (by decide) ?_
            refine bp_callS (q := 122) 33 rfl rfl cw_X_isWithin lk_BR_144 wd653 rfl rfl (Nat.le_of_ble_eq_true rfl) ⟨Nat.le_of_ble_eq_true rfl, Nat.le_of_ble_eq_true rfl⟩ (s_X_isWithin (ro := ro) ?_)
            refine bp_iret 34 rfl rfl (bI_nar _) ⟨_, rfl, ?_⟩
            have y0 : ¬ (4 = 0 ∨ 4 = 15) := by decide
            have y1 : ¬ 5 < d := Nat.not_lt.mpr ((nI_le_iff (b := 5) (by omega) (by decide)).mp z23)
            have y2 : ¬ d = 0 := fun q => z32 (by rw [q]; rfl)
            rw [nfit, if_neg y0, if_neg y1, if_neg y2] at hQ
            exact hQ
          · subst e_
            refine bp_tsIn (tgt := 123) 28 rfl (by decide) (by decide) rfl (by decide) ?_
            refine bp_aload_n (q := 124) 35 rfl rfl rfl rfl ?_
            refine bp_getR (x := A 3) (q := 127) (ci := 3) (j := 2) 36 rfl rfl fl_BR_27_3 hB0.kb rfl hB0.r2 ?_
            refine bp_aload_n (q := 128) 37 rfl rfl rfl rfl ?_
            refine bp_getI (q := 131) (ci := 3) (j := 9) 38 rfl rfl fl_BR_161_3 hB0.kb rfl ?_
            rw [hB0.i9]
            refine bp_callV (q := 134) (ci := 5) 39 rfl rfl cw_CT_has lk_BR_207 rfl hB0.kt wd656 wd657 rfl rfl (Nat.le_of_ble_eq_true rfl) ⟨Nat.le_of_ble_eq_true rfl, Nat.le_of_ble_eq_true rfl⟩ (s_CT_has (ro := ro) hB0.ct ?_)
            refine bp_iret 40 rfl rfl (by split <;> rfl) ⟨_, rfl, ?_⟩
            have y0 : ¬ (5 = 0 ∨ 5 = 15) := by decide
            have y1 : ¬ 5 < d := Nat.not_lt.mpr ((nI_le_iff (b := 5) (by omega) (by decide)).mp z23)
            have y2 : ¬ d = 0 := fun q => z32 (by rw [q]; rfl)
            rw [nfit, if_neg y0, if_neg y1, if_neg y2] at hQ
            simp only [Nat.reduceEqDiff, if_true, if_false] at hQ
            refine cast (congrArg (fun q => Q (some (.int q)) h c s) ?_) hQ
            by_cases q : n < 0 ∨ nI tb.length ≤ n
            · rw [decide_eq_false (fun z => z q), if_pos q]; rfl
            · rw [decide_eq_true q, if_neg q]; rfl
          · subst e_
            refine bp_tsIn (tgt := 170) 28 rfl (by decide) (by decide) rfl (by decide) ?_
            refine bp_iconst (v := 1) (q := 171) 59 rfl rfl (by decide) ?_
            refine bp_iret 60 rfl rfl (by first | rfl | assumption) ⟨_, rfl, ?_⟩
            have y0 : ¬ (6 = 0 ∨ 6 = 15) := by decide
            have y1 : ¬ 5 < d := Nat.not_lt.mpr ((nI_le_iff (b := 5) (by omega) (by decide)).mp z23)
            have y2 : ¬ d = 0 := fun q => z32 (by rw [q]; rfl)
            rw [nfit, if_neg y0, if_neg y1, if_neg y2] at hQ
            exact hQ
          · subst e_
            refine bp_tsIn (tgt := 170) 28 rfl (by decide) (by decide) rfl (by decide) ?_
            refine bp_iconst (v := 1) (q := 171) 59 rfl rfl (by decide) ?_
            refine bp_iret 60 rfl rfl (by first | rfl | assumption) ⟨_, rfl, ?_⟩
            have y0 : ¬ (7 = 0 ∨ 7 = 15) := by decide
            have y1 : ¬ 5 < d := Nat.not_lt.mpr ((nI_le_iff (b := 5) (by omega) (by decide)).mp z23)
            have y2 : ¬ d = 0 := fun q => z32 (by rw [q]; rfl)
            rw [nfit, if_neg y0, if_neg y1, if_neg y2] at hQ
            exact hQ
          · subst e_
            refine bp_tsIn (tgt := 170) 28 rfl (by decide) (by decide) rfl (by decide) ?_
            refine bp_iconst (v := 1) (q := 171) 59 rfl rfl (by decide) ?_
            refine bp_iret 60 rfl rfl (by first | rfl | assumption) ⟨_, rfl, ?_⟩
            have y0 : ¬ (8 = 0 ∨ 8 = 15) := by decide
            have y1 : ¬ 5 < d := Nat.not_lt.mpr ((nI_le_iff (b := 5) (by omega) (by decide)).mp z23)
            have y2 : ¬ d = 0 := fun q => z32 (by rw [q]; rfl)
            rw [nfit, if_neg y0, if_neg y1, if_neg y2] at hQ
            exact hQ
          · subst e_
            refine bp_tsIn (tgt := 170) 28 rfl (by decide) (by decide) rfl (by decide) ?_
            refine bp_iconst (v := 1) (q := 171) 59 rfl rfl (by decide) ?_
            refine bp_iret 60 rfl rfl (by first | rfl | assumption) ⟨_, rfl, ?_⟩
            have y0 : ¬ (9 = 0 ∨ 9 = 15) := by decide
            have y1 : ¬ 5 < d := Nat.not_lt.mpr ((nI_le_iff (b := 5) (by omega) (by decide)).mp z23)
            have y2 : ¬ d = 0 := fun q => z32 (by rw [q]; rfl)
            rw [nfit, if_neg y0, if_neg y1, if_neg y2] at hQ
            exact hQ
          · subst e_
            refine bp_tsIn (tgt := 135) 28 rfl (by decide) (by decide) rfl (by decide) ?_
            refine bp_aload_n (q := 136) 41 rfl rfl rfl rfl ?_
            refine bp_getI (q := 139) (ci := 3) (j := 9) 42 rfl rfl fl_BR_161_3 hB0.kb rfl ?_
            rw [hB0.i9]
            refine bp_iconst (v := 0) (q := 140) 43 rfl rfl (by decide) ?_
            refine bp_bipush (v := 9) (q := 142) 44 rfl rfl (by decide) ?_
            refine bp_callS (q := 145) 45 rfl rfl cw_X_isWithin lk_BR_144 wd653 rfl rfl (Nat.le_of_ble_eq_true rfl) ⟨Nat.le_of_ble_eq_true rfl, Nat.le_of_ble_eq_true rfl⟩ (s_X_isWithin (ro := ro) ?_)
            refine bp_iret 46 rfl rfl (bI_nar _) ⟨_, rfl, ?_⟩
            have y0 : ¬ (10 = 0 ∨ 10 = 15) := by decide
            have y1 : ¬ 5 < d := Nat.not_lt.mpr ((nI_le_iff (b := 5) (by omega) (by decide)).mp z23)
            have y2 : ¬ d = 0 := fun q => z32 (by rw [q]; rfl)
            rw [nfit, if_neg y0, if_neg y1, if_neg y2] at hQ
            exact hQ
          · subst e_
            refine bp_tsIn (tgt := 170) 28 rfl (by decide) (by decide) rfl (by decide) ?_
            refine bp_iconst (v := 1) (q := 171) 59 rfl rfl (by decide) ?_
            refine bp_iret 60 rfl rfl (by first | rfl | assumption) ⟨_, rfl, ?_⟩
            have y0 : ¬ (11 = 0 ∨ 11 = 15) := by decide
            have y1 : ¬ 5 < d := Nat.not_lt.mpr ((nI_le_iff (b := 5) (by omega) (by decide)).mp z23)
            have y2 : ¬ d = 0 := fun q => z32 (by rw [q]; rfl)
            rw [nfit, if_neg y0, if_neg y1, if_neg y2] at hQ
            exact hQ
          · subst e_
            refine bp_tsIn (tgt := 170) 28 rfl (by decide) (by decide) rfl (by decide) ?_
            refine bp_iconst (v := 1) (q := 171) 59 rfl rfl (by decide) ?_
            refine bp_iret 60 rfl rfl (by first | rfl | assumption) ⟨_, rfl, ?_⟩
            have y0 : ¬ (12 = 0 ∨ 12 = 15) := by decide
            have y1 : ¬ 5 < d := Nat.not_lt.mpr ((nI_le_iff (b := 5) (by omega) (by decide)).mp z23)
            have y2 : ¬ d = 0 := fun q => z32 (by rw [q]; rfl)
            rw [nfit, if_neg y0, if_neg y1, if_neg y2] at hQ
            exact hQ
          · subst e_
            refine bp_tsIn (tgt := 146) 28 rfl (by decide) (by decide) rfl (by decide) ?_
            refine bp_aload_n (q := 147) 47 rfl rfl rfl rfl ?_
            refine bp_getI (q := 150) (ci := 3) (j := 9) 48 rfl rfl fl_BR_161_3 hB0.kb rfl ?_
            rw [hB0.i9]
            refine bp_iconst (v := 0) (q := 151) 49 rfl rfl (by decide) ?_
            refine bp_bipush (v := 9) (q := 153) 50 rfl rfl (by decide) ?_
            refine bp_callS (q := 156) 51 rfl rfl cw_X_isWithin lk_BR_144 wd653 rfl rfl (Nat.le_of_ble_eq_true rfl) ⟨Nat.le_of_ble_eq_true rfl, Nat.le_of_ble_eq_true rfl⟩ (s_X_isWithin (ro := ro) ?_)
            refine bp_iret 52 rfl rfl (bI_nar _) ⟨_, rfl, ?_⟩
            have y0 : ¬ (13 = 0 ∨ 13 = 15) := by decide
            have y1 : ¬ 5 < d := Nat.not_lt.mpr ((nI_le_iff (b := 5) (by omega) (by decide)).mp z23)
            have y2 : ¬ d = 0 := fun q => z32 (by rw [q]; rfl)
            rw [nfit, if_neg y0, if_neg y1, if_neg y2] at hQ
            exact hQ
          · subst e_
            refine bp_tsIn (tgt := 157) 28 rfl (by decide) (by decide) rfl (by decide) ?_
            refine bp_aload_n (q := 158) 53 rfl rfl rfl rfl ?_
            refine bp_getI (q := 161) (ci := 3) (j := 9) 54 rfl rfl fl_BR_161_3 hB0.kb rfl ?_
            rw [hB0.i9]
            refine bp_bipush (v := 32) (q := 163) 55 rfl rfl (by decide) ?_
            refine bp_sipush (v := 255) (q := 166) 56 rfl rfl (by decide) ?_
            refine bp_callS (q := 169) 57 rfl rfl cw_X_isWithin lk_BR_144 wd653 rfl rfl (Nat.le_of_ble_eq_true rfl) ⟨Nat.le_of_ble_eq_true rfl, Nat.le_of_ble_eq_true rfl⟩ (s_X_isWithin (ro := ro) ?_)
            refine bp_iret 58 rfl rfl (bI_nar _) ⟨_, rfl, ?_⟩
            have y0 : ¬ (14 = 0 ∨ 14 = 15) := by decide
            have y1 : ¬ 5 < d := Nat.not_lt.mpr ((nI_le_iff (b := 5) (by omega) (by decide)).mp z23)
            have y2 : ¬ d = 0 := fun q => z32 (by rw [q]; rfl)
            rw [nfit, if_neg y0, if_neg y1, if_neg y2] at hQ
            exact hQ
          · subst e_
            exact absurd rfl z13
        · refine bp_aload_n (q := 36) 18 rfl rfl rfl rfl ?_
          refine bp_getI (q := 39) (ci := 3) (j := 8) 19 rfl rfl fl_BR_155_3 hB0.kb rfl ?_
          rw [hB0.i8]
          refine bp_bipush (v := 14) (q := 41) 20 rfl rfl (by decide) ?_
          refine bp_icmp_eq (q := 44) (tgt := 48) 21 rfl rfl (by decide) (fun z41 => ?_) (fun z41 => ?_)
          · refine bp_iconst (v := 0) (q := 49) 24 rfl rfl (by decide) ?_
            refine bp_iret 25 rfl rfl (by first | rfl | assumption) ⟨_, rfl, ?_⟩
            have y0 : ¬ (w = 0 ∨ w = 15) := fun q => q.elim (fun e => z4 (by rw [e]; rfl)) (fun e => z13 (by rw [e]; rfl))
            have y1 : ¬ 5 < d := Nat.not_lt.mpr ((nI_le_iff (b := 5) (by omega) (by decide)).mp z23)
            have y2 : d = 0 := (nI_eq_iff (b := 0) (by omega) (by decide)).mp z32
            have y3 : w = 14 := (nI_eq_iff (b := 14) (by omega) (by decide)).mp z41
            rw [nfit, if_neg y0, if_neg y1, if_pos y2, decide_eq_false (fun q => q y3)] at hQ
            exact hQ
          · refine bp_iconst (v := 1) (q := 45) 22 rfl rfl (by decide) ?_
            refine bp_goto (tgt := 49) 23 rfl (by decide) ?_
            refine bp_iret 25 rfl rfl (by first | rfl | assumption) ⟨_, rfl, ?_⟩
            have y0 : ¬ (w = 0 ∨ w = 15) := fun q => q.elim (fun e => z4 (by rw [e]; rfl)) (fun e => z13 (by rw [e]; rfl))
            have y1 : ¬ 5 < d := Nat.not_lt.mpr ((nI_le_iff (b := 5) (by omega) (by decide)).mp z23)
            have y2 : d = 0 := (nI_eq_iff (b := 0) (by omega) (by decide)).mp z32
            have y3 : w ≠ 14 := fun e => z41 (by rw [e]; rfl)
            rw [nfit, if_neg y0, if_neg y1, if_pos y2, decide_eq_true y3] at hQ
            exact hQ
      · refine bp_iconst (v := 0) (q := 27) 13 rfl rfl (by decide) ?_
        refine bp_iret 14 rfl rfl (by first | rfl | assumption) ⟨_, rfl, ?_⟩
        have y0 : ¬ (w = 0 ∨ w = 15) := fun q => q.elim (fun e => z4 (by rw [e]; rfl)) (fun e => z13 (by rw [e]; rfl))
        have y1 : 5 < d := Nat.not_le.mp (fun q => z23 (nI_le (b := 5) q (by decide)))
        rw [nfit, if_neg y0, if_pos y1] at hQ
        exact hQ
    · refine bp_iconst (v := 1) (q := 17) 7 rfl rfl (by decide) ?_
      refine bp_iret 8 rfl rfl (by first | rfl | assumption) ⟨_, rfl, ?_⟩
      have y : w = 15 := (nI_eq_iff (b := 15) (by omega) (by decide)).mp z13
      rw [nfit, if_pos (Or.inr y)] at hQ
      exact hQ
set_option maxRecDepth 100000 in
set_option maxHeartbeats 4000000 in
theorem s_BR_setStyle {k : Nat} (hB0 : BrX mx c0 s0 A P T h0 na0 h na i fa me lv fr it en v nt tb nm L ps th w n d c s) (hk : k = 1 ∨ k = 2 ∨ k = 4) (h8 : v 0 < 8) (hd : d < 1000000) (hQ : ∀ h', BrX mx c0 s0 A P T h0 na0 h' na i fa me lv fr it en ((bp_u1 v 0 (stS (v 0) k (decide (nuO d n 1 = 0))))) nt tb nm L ps th w n d c s → Q none h' c s) : bp_AM l G H0 (1, 21, false, false) M_BR_setStyle h c s [.ref (A 0), .int (nI k)] Q := by
  refine bp_of (ls := [some (.ref (A 0)), some (.int (nI k))]) (by decide) dt_BR_setStyle (Nat.le_of_ble_eq_true rfl) (fun q hq => hq) false ?_
  refine bp_aload_n (q := 1) 0 rfl rfl rfl rfl ?_
  refine bp_iconst (v := 1) (q := 2) 1 rfl rfl (by decide) ?_
  refine bp_callV (q := 5) (ci := 3) 2 rfl rfl cw_BR_numberOr lk_BR_216 rfl hB0.kb wd665 wd13 rfl rfl (Nat.le_of_ble_eq_true rfl) ⟨Nat.le_of_ble_eq_true rfl, Nat.le_of_ble_eq_true rfl⟩ (s_BR_numberOr (ro := false) hB0 hd ?_)
  refine bp_if_ne (q := 8) (tgt := 26) 3 rfl rfl (by decide) (fun z5 => ?_) (fun z5 => ?_)
  · refine bp_aload_n (q := 27) 14 rfl rfl rfl rfl ?_
    refine bp_getR (x := A 1) (q := 30) (ci := 3) (j := 0) 15 rfl rfl fl_BR_14_3 hB0.kb rfl hB0.r0 ?_
    refine bp_dup (q := 31) 16 rfl rfl rfl ?_
    refine bp_getI (q := 34) (ci := 4) (j := 0) 17 rfl rfl fl_BR_242_4 hB0.ko rfl ?_
    rw [hB0.so.2 0 (by decide)]
    refine bp_iload_n (q := 35) 18 rfl rfl rfl rfl ?_
    refine bp_ior (q := 36) 19 rfl rfl ?_
    refine bp_putI (q := 39) (ci := 4) (j := 0) 20 rfl rfl fl_BR_242_4 cl4 hB0.ko (fun r hr => by cases hr; rfl) (by decide) rfl rfl ?_
    refine bp_nx (X := fun h1 => BrX mx c0 s0 A P T h0 na0 h1 na i fa me lv fr it en (bp_u1 v 0 (stS (v 0) k false)) nt tb nm L ps th w n d c s) (hB0.o (hB0.so.set (j := 0) (by decide) (st_off _ h8 k (by omega) hk).2) (bp_Fi.sI rfl)) (fun h1 hB1 => ?_)
    refine bp_vret 21 rfl rfl  ⟨_, rfl, ?_⟩
    refine hQ _ ?_
    rw [decide_eq_false z5]
    exact hB1
  · refine bp_aload_n (q := 9) 4 rfl rfl rfl rfl ?_
    refine bp_getR (x := A 1) (q := 12) (ci := 3) (j := 0) 5 rfl rfl fl_BR_14_3 hB0.kb rfl hB0.r0 ?_
    refine bp_dup (q := 13) 6 rfl rfl rfl ?_
    refine bp_getI (q := 16) (ci := 4) (j := 0) 7 rfl rfl fl_BR_242_4 hB0.ko rfl ?_
    rw [hB0.so.2 0 (by decide)]
    refine bp_iload_n (q := 17) 8 rfl rfl rfl rfl ?_
    refine bp_iconst (v := -1) (q := 18) 9 rfl rfl (by decide) ?_
    refine bp_ixor (q := 19) 10 rfl rfl ?_
    refine bp_iand (q := 20) 11 rfl rfl ?_
    refine bp_putI (q := 23) (ci := 4) (j := 0) 12 rfl rfl fl_BR_242_4 cl4 hB0.ko (fun r hr => by cases hr; rfl) (by decide) rfl rfl ?_
    refine bp_nx (X := fun h1 => BrX mx c0 s0 A P T h0 na0 h1 na i fa me lv fr it en (bp_u1 v 0 (stS (v 0) k true)) nt tb nm L ps th w n d c s) (hB0.o (hB0.so.set (j := 0) (by decide) (st_off _ h8 k (by omega) hk).1) (bp_Fi.sI rfl)) (fun h1 hB1 => ?_)
    refine bp_goto (tgt := 39) 13 rfl (by decide) ?_
    refine bp_vret 21 rfl rfl  ⟨_, rfl, ?_⟩
    refine hQ _ ?_
    rw [decide_eq_true z5]
    exact hB1
set_option maxRecDepth 100000 in
set_option maxHeartbeats 4000000 in
theorem s_BR_endParagraph {x y : Nat} (hB0 : BrX mx c0 s0 A P T h0 na0 h na i fa me lv fr it en v nt tb nm L ps th w n d c s) (hQ : ∀ h', Br mx c0 s0 A P T h0 na0 h' na (bPar th x y (i, fa, me, lv, fr, it, en, v, nt, tb, nm, L, ps)) (th, w, n, d) c s → Q none h' c s) : bp_AM l G H0 (2, 42, false, false) M_BR_endParagraph h c s [.ref (A 0), .int (nI x), .int (nI y)] Q := by
  refine bp_of (ls := [some (.ref (A 0)), some (.int (nI x)), some (.int (nI y))]) (by decide) dt_BR_endParagraph (Nat.le_of_ble_eq_true rfl) (fun q hq => hq) false ?_
  refine bp_aload_n (q := 1) 0 rfl rfl rfl rfl ?_
  refine bp_getR (x := P 0) (q := 4) (ci := 3) (j := 12) 1 rfl rfl fl_BR_90_3 hB0.kb rfl hB0.r12 ?_
  refine bp_callV (q := 7) (ci := 2) 2 rfl rfl cw_Page_isFull lk_BR_245 rfl hB0.kp wd678 wd679 rfl rfl (Nat.le_of_ble_eq_true rfl) ⟨Nat.le_of_ble_eq_true rfl, Nat.le_of_ble_eq_true rfl⟩ (s_Page_isFull (ro := false) hB0.pg ?_)
  refine bp_if_eq (q := 10) (tgt := 19) 3 rfl rfl (by decide) (fun z7 => ?_) (fun z7 => ?_)
  · refine bp_aload_n (q := 20) 8 rfl rfl rfl rfl ?_
    have hl16 : ps.length < 16 := by
      by_cases q : 16 ≤ ps.length
      · rw [if_pos q] at z7; exact absurd z7 (by decide)
      · omega
    refine bp_getR (x := P 0) (q := 23) (ci := 3) (j := 12) 9 rfl rfl fl_BR_90_3 hB0.kb rfl hB0.r12 ?_
    refine bp_iload_n (q := 24) 10 rfl rfl rfl rfl ?_
    refine bp_iload_n (q := 25) 11 rfl rfl rfl rfl ?_
    refine bp_callV (q := 28) (ci := 2) 12 rfl rfl cw_Page_gather lk_BR_248 rfl hB0.kp wd682 wd683 rfl rfl (Nat.le_of_ble_eq_true rfl) ⟨Nat.le_of_ble_eq_true rfl, Nat.le_of_ble_eq_true rfl⟩ (s_Page_gather (u := x) (v := y) rfl rfl hB0.pg hl16 (fun h1 hP1 f1 => ?_))
    have hB1 := hB0.p hP1 f1
    refine bp_vret 13 rfl rfl  ⟨_, rfl, ?_⟩
    have e_ : bPar th x y (i, fa, me, lv, fr, it, en, v, nt, tb, nm, L, ps) = (i, fa, me, lv, fr, it, en, v, nt, tb, nm, L, ps ++ [(x, y, L.length)]) := if_neg (by omega)
    exact hQ _ (Br.cast (τ := (th, w, n, d)) e_ hB1)
  · refine bp_aload_n (q := 11) 4 rfl rfl rfl rfl ?_
    refine bp_bipush (v := -8) (q := 13) 5 rfl rfl (by decide) ?_
    refine bp_callU (q := 16) (ci := 3) (owner := "BracedPages$Reader") 6 rfl rfl cw_Rd_fail wd590 wd591 (Or.inr rfl) ⟨by decide, by decide⟩ rfl rfl hB0.kb wd594 wd593 rfl rfl (Nat.le_of_ble_eq_true rfl) ⟨Nat.le_of_ble_eq_true rfl, Nat.le_of_ble_eq_true rfl⟩ (s_BR_fail hB0 (fun h1 hB1 => ?_))
    refine bp_goto (tgt := 28) 7 rfl (by decide) ?_
    refine bp_vret 13 rfl rfl  ⟨_, rfl, ?_⟩
    have y7 : 16 ≤ ps.length := by
      by_cases q : 16 ≤ ps.length
      · exact q
      · rw [if_neg q] at z7; exact absurd rfl z7
    have e_ : bPar th x y (i, fa, me, lv, fr, it, en, v, nt, tb, nm, L, ps) = (i, -8, nI th, lv, fr, it, en, v, nt, tb, nm, L, ps) := if_pos y7
    exact hQ _ (Br.cast (τ := (th, w, n, d)) e_ hB1)
set_option maxRecDepth 100000 in
set_option maxHeartbeats 4000000 in
theorem s_BR_startTable {b : Bool} (hB0 : BrX mx c0 s0 A P T h0 na0 h na i fa me lv fr it en v nt tb nm L ps th w n d c s) (hQ : ∀ h', Br mx c0 s0 A P T h0 na0 h' na (if b then (i, fa, me, lv, fr, true, en, v, nt, [], [], L, ps) else (i, fa, me, lv, fr, it, en, v, nt, tb, nm, L, ps)) (th, w, n, d) c s → Q none h' c s) : bp_AM l G H0 (2, 40, false, false) M_BR_startTable h c s [.ref (A 0), .int (bI b)] Q := by
  refine bp_of (ls := [some (.ref (A 0)), some (.int (bI b))]) (by decide) dt_BR_startTable (Nat.le_of_ble_eq_true rfl) (fun q hq => hq) false ?_
  refine bp_iload_n (q := 1) 0 rfl rfl rfl rfl ?_
  refine bp_if_eq (q := 4) (tgt := 16) 1 rfl rfl (by decide) (fun z1 => ?_) (fun z1 => ?_)
  · refine bp_vret 8 rfl rfl  ⟨_, rfl, ?_⟩
    have y := bI0.mp z1
    subst y
    exact hQ _ hB0
  · refine bp_aload_n (q := 5) 2 rfl rfl rfl rfl ?_
    refine bp_iconst (v := 1) (q := 6) 3 rfl rfl (by decide) ?_
    refine bp_putI (q := 9) (ci := 3) (j := 7) 4 rfl rfl fl_BR_49_3 cl3 hB0.kb (fun r hr => by cases hr; rfl) (by decide) rfl rfl ?_
    refine bp_nx (X := fun h1 => BrX mx c0 s0 A P T h0 na0 h1 na i fa me lv fr true en v nt tb nm L ps th w n d c s) (hB0.s7 rfl) (fun h1 hB1 => ?_)
    refine bp_aload_n (q := 10) 5 rfl rfl rfl rfl ?_
    refine bp_getR (x := A 3) (q := 13) (ci := 3) (j := 2) 6 rfl rfl fl_BR_27_3 hB1.kb rfl hB1.r2 ?_
    refine bp_callV (q := 16) (ci := 5) 7 rfl rfl cw_CT_start lk_BR_251 rfl hB1.kt wd704 wd705 rfl rfl (Nat.le_of_ble_eq_true rfl) ⟨Nat.le_of_ble_eq_true rfl, Nat.le_of_ble_eq_true rfl⟩ (s_CT_start hB1.ct (fun h2 hC2 f2 => ?_))
    have hB2 := hB1.t hC2 (f2.wk (fun x z => z.elim Or.inl (fun y => Or.inr (Or.inr y))))
    refine bp_vret 8 rfl rfl  ⟨_, rfl, ?_⟩
    have y := bI1 z1
    subst y
    exact hQ _ hB2
theorem nuO_fs {tb : List Nat} {n : Int32} {d : Nat} (h : nfit tb 4 n d = true) : nuO d n 12 = nI (nuO d n 12).toNatClampNeg := by
  unfold nuO
  split
  · rfl
  · rename_i hd
    have := nfit_n h ⟨by decide, by decide⟩ hd
    obtain ⟨k, -, -, h3, h4⟩ := wi_cl (x := 1) (y := 99) (by decide) (by decide) this
    rw [h4]; exact h3
theorem nuO_9 {tb : List Nat} {n x : Int32} {d w : Nat} (hw : w = 10 ∨ w = 13) (hx : x = nI x.toNatClampNeg) (h : nfit tb w n d = true) : nuO d n x = nI (nuO d n x).toNatClampNeg := by
  unfold nuO
  split
  · exact hx
  · rename_i hd
    have hh : wi n (nI 0) (nI 9) = true := by
      rcases hw with e | e <;> subst e
      · exact nfit_n h ⟨by decide, by decide⟩ hd
      · exact nfit_n h ⟨by decide, by decide⟩ hd
    obtain ⟨k, -, -, h3, h4⟩ := wi_cl (x := 0) (y := 9) (by decide) (by decide) hh
    rw [h4]; exact h3
theorem nuO_cf {tb : List Nat} {n : Int32} {d : Nat} (htb : tb ≠ []) (hl : tb.length ≤ 8) (h : nfit tb 5 n d = true) : ∃ k, k < tb.length ∧ nuO d n 0 = nI k ∧ (nuO d n 0).toNatClampNeg = k := by
  unfold nuO
  split
  · exact ⟨0, List.length_pos_iff.mpr htb, rfl, rfl⟩
  · rename_i hd
    have q : decide (¬ (n < 0 ∨ nI tb.length ≤ n)) = true := nfit_n h ⟨by decide, by decide⟩ hd
    have q := of_decide_eq_true q
    obtain ⟨k, hk, rfl⟩ := nI_of (fun z => q (Or.inl z))
    exact ⟨k, Nat.not_le.mp (fun z => q (Or.inr (nI_le z hk))), rfl, nI_clamp hk⟩
theorem nuO_u {tb : List Nat} {n : Int32} {d : Nat} (h : nfit tb 14 n d = true) : n = nI n.toNatClampNeg := by
  have : wi n (nI 32) (nI 255) = true := nfit_n h ⟨by decide, by decide⟩ (nfit_0 h rfl)
  obtain ⟨k, -, -, h3, h4⟩ := wi_cl (x := 32) (y := 255) (by decide) (by decide) this
  rw [h4]; exact h3
set_option maxRecDepth 100000 in
set_option maxHeartbeats 4000000 in
theorem s_BR_obeyWord {b : Bool} (hB0 : BrX mx c0 s0 A P T h0 na0 h na i fa me lv fr it en v nt tb nm L ps th w n d c s) (ok : okX T i lv it v nt tb nm L ps) (htb : tb ≠ []) (hw : w < 16) (hd : d < 1000000) (hL : L.length < 400) (hQ : ∀ h' na' c' s', Br mx c0 s0 A P T h0 na0 h' na' (bObey th b w n d (i, fa, me, lv, fr, it, en, v, nt, tb, nm, L, ps)) (th, w, n, d) c' s' → Q none h' c' s') : bp_AM l G H0 (5, 106, false, false) M_BR_obeyWord h c s [.ref (A 0), .int (bI b)] Q := by
  refine bp_of (ls := [some (.ref (A 0)), some (.int (bI b))]) (by decide) dt_BR_obeyWord (Nat.le_of_ble_eq_true rfl) (fun q hq => hq) false ?_
  refine bp_aload_n (q := 1) 0 rfl rfl rfl rfl ?_
  refine bp_callV (q := 4) (ci := 3) 1 rfl rfl cw_BR_leavesOut lk_BR_129 rfl hB0.kb wd646 wd10 rfl rfl (Nat.le_of_ble_eq_true rfl) ⟨Nat.le_of_ble_eq_true rfl, Nat.le_of_ble_eq_true rfl⟩ (s_BR_leavesOut hB0 ok.2.1 (fun h1 hB1 => ?_))
  refine bp_if_eq (q := 7) (tgt := 8) 2 rfl rfl (by decide) (fun z4 => ?_) (fun z4 => ?_)
  · refine bp_aload_n (q := 9) 4 rfl rfl rfl rfl ?_
    refine bp_callV (q := 12) (ci := 3) 5 rfl rfl cw_BR_numberFits lk_BR_210 rfl hB1.kb wd650 wd11 rfl rfl (Nat.le_of_ble_eq_true rfl) ⟨Nat.le_of_ble_eq_true rfl, Nat.le_of_ble_eq_true rfl⟩ (s_BR_numberFits (ro := false) hB1 hw hd ?_)
    refine bp_if_ne (q := 15) (tgt := 22) 6 rfl rfl (by decide) (fun z12 => ?_) (fun z12 => ?_)
    · refine bp_aload_n (q := 23) 11 rfl rfl rfl rfl ?_
      have hf : nfit tb w n d = true := bI1 z12
      refine bp_getI (q := 26) (ci := 3) (j := 8) 12 rfl rfl fl_BR_155_3 hB1.kb rfl ?_
      rw [hB1.i8]
      rcases w16 hw with e_ | e_ | e_ | e_ | e_ | e_ | e_ | e_ | e_ | e_ | e_ | e_ | e_ | e_ | e_ | e_
      · subst e_
        refine bp_tsOut (tgt := 315) 13 rfl (by decide) (by decide) ?_
        refine bp_vret 112 rfl rfl  ⟨_, rfl, ?_⟩
        have hl0 : lv = 0 := by simpa using bI0.mp z4
        have e_ : bObey th b 0 n d (i, fa, me, lv, fr, it, en, v, nt, tb, nm, L, ps) = (i, fa, me, (lv - 1), fr, it, en, vW tb v 0 n d, nt, tb, nm, L, ps) := (if_neg (fun z => z hl0)).trans ((if_neg (by rw [hf]; decide)).trans ((if_neg (by decide)).trans ((if_neg (by decide)).trans (if_neg (by decide)))))
        exact hQ _ _ _ _ (Br.cast (τ := (th, 0, n, d)) e_ hB1)
      · subst e_
        refine bp_tsIn (tgt := 100) 13 rfl (by decide) (by decide) rfl (by decide) ?_
        refine bp_aload_n (q := 101) 14 rfl rfl rfl rfl ?_
        refine bp_iconst (v := 1) (q := 102) 15 rfl rfl (by decide) ?_
        refine bp_callV (q := 105) (ci := 3) 16 rfl rfl cw_BR_setStyle lk_BR_213 rfl hB1.kb wd661 wd12 rfl rfl (Nat.le_of_ble_eq_true rfl) ⟨Nat.le_of_ble_eq_true rfl, Nat.le_of_ble_eq_true rfl⟩ (s_BR_setStyle (k := 1) hB1 (by decide) ok.2.2.1.1 hd (fun h2 hB2 => ?_))
        refine bp_goto (tgt := 315) 17 rfl (by decide) ?_
        refine bp_vret 112 rfl rfl  ⟨_, rfl, ?_⟩
        have hl0 : lv = 0 := by simpa using bI0.mp z4
        have e_ : bObey th b 1 n d (i, fa, me, lv, fr, it, en, v, nt, tb, nm, L, ps) = (i, fa, me, (lv - 1), fr, it, en, vW tb v 1 n d, nt, tb, nm, L, ps) := (if_neg (fun z => z hl0)).trans ((if_neg (by rw [hf]; decide)).trans ((if_neg (by decide)).trans ((if_neg (by decide)).trans (if_neg (by decide)))))
        exact hQ _ _ _ _ (Br.cast (τ := (th, 1, n, d)) e_ hB2)
      · subst e_
        refine bp_tsIn (tgt := 108) 13 rfl (by decide) (by decide) rfl (by decide) ?_
        refine bp_aload_n (q := 109) 18 rfl rfl rfl rfl ?_
        refine bp_iconst (v := 2) (q := 110) 19 rfl rfl (by decide) ?_
        refine bp_callV (q := 113) (ci := 3) 20 rfl rfl cw_BR_setStyle lk_BR_213 rfl hB1.kb wd661 wd12 rfl rfl (Nat.le_of_ble_eq_true rfl) ⟨Nat.le_of_ble_eq_true rfl, Nat.le_of_ble_eq_true rfl⟩ (s_BR_setStyle (k := 2) hB1 (by decide) ok.2.2.1.1 hd (fun h2 hB2 => ?_))
        refine bp_goto (tgt := 315) 21 rfl (by decide) ?_
        refine bp_vret 112 rfl rfl  ⟨_, rfl, ?_⟩
        have hl0 : lv = 0 := by simpa using bI0.mp z4
        have e_ : bObey th b 2 n d (i, fa, me, lv, fr, it, en, v, nt, tb, nm, L, ps) = (i, fa, me, (lv - 1), fr, it, en, vW tb v 2 n d, nt, tb, nm, L, ps) := (if_neg (fun z => z hl0)).trans ((if_neg (by rw [hf]; decide)).trans ((if_neg (by decide)).trans ((if_neg (by decide)).trans (if_neg (by decide)))))
        exact hQ _ _ _ _ (Br.cast (τ := (th, 2, n, d)) e_ hB2)
      · subst e_
        refine bp_tsIn (tgt := 116) 13 rfl (by decide) (by decide) rfl (by decide) ?_
        refine bp_aload_n (q := 117) 22 rfl rfl rfl rfl ?_
        refine bp_iconst (v := 4) (q := 118) 23 rfl rfl (by decide) ?_
        refine bp_callV (q := 121) (ci := 3) 24 rfl rfl cw_BR_setStyle lk_BR_213 rfl hB1.kb wd661 wd12 rfl rfl (Nat.le_of_ble_eq_true rfl) ⟨Nat.le_of_ble_eq_true rfl, Nat.le_of_ble_eq_true rfl⟩ (s_BR_setStyle (k := 4) hB1 (by decide) ok.2.2.1.1 hd (fun h2 hB2 => ?_))
        refine bp_goto (tgt := 315) 25 rfl (by decide) ?_
        refine bp_vret 112 rfl rfl  ⟨_, rfl, ?_⟩
        have hl0 : lv = 0 := by simpa using bI0.mp z4
        have e_ : bObey th b 3 n d (i, fa, me, lv, fr, it, en, v, nt, tb, nm, L, ps) = (i, fa, me, (lv - 1), fr, it, en, vW tb v 3 n d, nt, tb, nm, L, ps) := (if_neg (fun z => z hl0)).trans ((if_neg (by rw [hf]; decide)).trans ((if_neg (by decide)).trans ((if_neg (by decide)).trans (if_neg (by decide)))))
        exact hQ _ _ _ _ (Br.cast (τ := (th, 3, n, d)) e_ hB2)
      · subst e_
        refine bp_tsIn (tgt := 124) 13 rfl (by decide) (by decide) rfl (by decide) ?_
        refine bp_aload_n (q := 125) 26 rfl rfl rfl rfl ?_
        refine bp_getR (x := A 1) (q := 128) (ci := 3) (j := 0) 27 rfl rfl fl_BR_14_3 hB1.kb rfl hB1.r0 ?_
        refine bp_aload_n (q := 129) 28 rfl rfl rfl rfl ?_
        refine bp_bipush (v := 12) (q := 131) 29 rfl rfl (by decide) ?_
        refine bp_callV (q := 134) (ci := 3) 30 rfl rfl cw_BR_numberOr lk_BR_216 rfl hB1.kb wd665 wd13 rfl rfl (Nat.le_of_ble_eq_true rfl) ⟨Nat.le_of_ble_eq_true rfl, Nat.le_of_ble_eq_true rfl⟩ (s_BR_numberOr (ro := false) hB1 hd ?_)
        refine bp_putI (q := 137) (ci := 4) (j := 1) 31 rfl rfl fl_BR_219_4 cl4 hB1.ko (fun r hr => by cases hr; rfl) (by decide) rfl rfl ?_
        refine bp_nx (X := fun h2 => BrX mx c0 s0 A P T h0 na0 h2 na i fa me (lv - 1) fr it en (bp_u1 v 1 ((nuO d n 12).toNatClampNeg)) nt tb nm L ps th 4 n d c s) (hB1.o (hB1.so.set (j := 1) (by decide) (nuO_fs hf)) (bp_Fi.sI rfl)) (fun h2 hB2 => ?_)
        refine bp_goto (tgt := 315) 32 rfl (by decide) ?_
        refine bp_vret 112 rfl rfl  ⟨_, rfl, ?_⟩
        have hl0 : lv = 0 := by simpa using bI0.mp z4
        have e_ : bObey th b 4 n d (i, fa, me, lv, fr, it, en, v, nt, tb, nm, L, ps) = (i, fa, me, (lv - 1), fr, it, en, vW tb v 4 n d, nt, tb, nm, L, ps) := (if_neg (fun z => z hl0)).trans ((if_neg (by rw [hf]; decide)).trans ((if_neg (by decide)).trans ((if_neg (by decide)).trans (if_neg (by decide)))))
        exact hQ _ _ _ _ (Br.cast (τ := (th, 4, n, d)) e_ hB2)
      · subst e_
        refine bp_tsIn (tgt := 140) 13 rfl (by decide) (by decide) rfl (by decide) ?_
        refine bp_aload_n (q := 141) 33 rfl rfl rfl rfl ?_
        refine bp_getR (x := A 1) (q := 144) (ci := 3) (j := 0) 34 rfl rfl fl_BR_14_3 hB1.kb rfl hB1.r0 ?_
        refine bp_aload_n (q := 145) 35 rfl rfl rfl rfl ?_
        refine bp_getR (x := A 3) (q := 148) (ci := 3) (j := 2) 36 rfl rfl fl_BR_27_3 hB1.kb rfl hB1.r2 ?_
        refine bp_aload_n (q := 149) 37 rfl rfl rfl rfl ?_
        refine bp_iconst (v := 0) (q := 150) 38 rfl rfl (by decide) ?_
        refine bp_callV (q := 153) (ci := 3) 39 rfl rfl cw_BR_numberOr lk_BR_216 rfl hB1.kb wd665 wd13 rfl rfl (Nat.le_of_ble_eq_true rfl) ⟨Nat.le_of_ble_eq_true rfl, Nat.le_of_ble_eq_true rfl⟩ (s_BR_numberOr (ro := false) hB1 hd ?_)
        obtain ⟨k5, hk5, e5, c5⟩ := nuO_cf htb ok.2.2.2.2.2.1.1 hf
        rw [e5]
        refine bp_callV (q := 156) (ci := 5) 40 rfl rfl cw_CT_colourOfEntry lk_BR_221 rfl hB1.kt wd668 wd669 rfl rfl (Nat.le_of_ble_eq_true rfl) ⟨Nat.le_of_ble_eq_true rfl, Nat.le_of_ble_eq_true rfl⟩ (s_CT_colourOfEntry (ro := false) hB1.ct hk5 ?_)
        refine bp_putI (q := 159) (ci := 4) (j := 2) 41 rfl rfl fl_BR_224_4 cl4 hB1.ko (fun r hr => by cases hr; rfl) (by decide) rfl rfl ?_
        refine bp_nx (X := fun h2 => BrX mx c0 s0 A P T h0 na0 h2 na i fa me (lv - 1) fr it en (bp_u1 v 2 (tb.getD k5 0)) nt tb nm L ps th 5 n d c s) (hB1.o (hB1.so.set (j := 2) (by decide) rfl) (bp_Fi.sI rfl)) (fun h2 hB2 => ?_)
        refine bp_goto (tgt := 315) 42 rfl (by decide) ?_
        refine bp_vret 112 rfl rfl  ⟨_, rfl, ?_⟩
        have hl0 : lv = 0 := by simpa using bI0.mp z4
        have ev : vW tb v 5 n d = bp_u1 v 2 (tb.getD k5 0) := by rw [← c5]; rfl
        have e_ : bObey th b 5 n d (i, fa, me, lv, fr, it, en, v, nt, tb, nm, L, ps) = (i, fa, me, (lv - 1), fr, it, en, vW tb v 5 n d, nt, tb, nm, L, ps) := (if_neg (fun z => z hl0)).trans ((if_neg (by rw [hf]; decide)).trans ((if_neg (by decide)).trans ((if_neg (by decide)).trans (if_neg (by decide)))))
        rw [ev] at e_
        exact hQ _ _ _ _ (Br.cast (τ := (th, 5, n, d)) e_ hB2)
      · subst e_
        refine bp_tsIn (tgt := 162) 13 rfl (by decide) (by decide) rfl (by decide) ?_
        refine bp_aload_n (q := 163) 43 rfl rfl rfl rfl ?_
        refine bp_getR (x := A 1) (q := 166) (ci := 3) (j := 0) 44 rfl rfl fl_BR_14_3 hB1.kb rfl hB1.r0 ?_
        refine bp_callV (q := 169) (ci := 4) 45 rfl rfl cw_St_makePlain lk_BR_227 rfl hB1.ko wd430 wd431 rfl rfl (Nat.le_of_ble_eq_true rfl) ⟨Nat.le_of_ble_eq_true rfl, Nat.le_of_ble_eq_true rfl⟩ (s_St_makePlain hB1.so (fun h2 hS2 f2 => ?_))
        have hB2 := hB1.o hS2 f2
        refine bp_goto (tgt := 315) 46 rfl (by decide) ?_
        refine bp_vret 112 rfl rfl  ⟨_, rfl, ?_⟩
        have hl0 : lv = 0 := by simpa using bI0.mp z4
        have e_ : bObey th b 6 n d (i, fa, me, lv, fr, it, en, v, nt, tb, nm, L, ps) = (i, fa, me, (lv - 1), fr, it, en, vW tb v 6 n d, nt, tb, nm, L, ps) := (if_neg (fun z => z hl0)).trans ((if_neg (by rw [hf]; decide)).trans ((if_neg (by decide)).trans ((if_neg (by decide)).trans (if_neg (by decide)))))
        exact hQ _ _ _ _ (Br.cast (τ := (th, 6, n, d)) e_ hB2)
      · subst e_
        refine bp_tsIn (tgt := 172) 13 rfl (by decide) (by decide) rfl (by decide) ?_
        refine bp_aload_n (q := 173) 47 rfl rfl rfl rfl ?_
        refine bp_getR (x := A 1) (q := 176) (ci := 3) (j := 0) 48 rfl rfl fl_BR_14_3 hB1.kb rfl hB1.r0 ?_
        refine bp_iconst (v := 0) (q := 177) 49 rfl rfl (by decide) ?_
        refine bp_putI (q := 180) (ci := 4) (j := 3) 50 rfl rfl fl_BR_230_4 cl4 hB1.ko (fun r hr => by cases hr; rfl) (by decide) rfl rfl ?_
        refine bp_nx (X := fun h2 => BrX mx c0 s0 A P T h0 na0 h2 na i fa me (lv - 1) fr it en (bp_u1 v 3 0) nt tb nm L ps th 7 n d c s) (hB1.o (hB1.so.set (j := 3) (by decide) rfl) (bp_Fi.sI rfl)) (fun h2 hB2 => ?_)
        refine bp_goto (tgt := 315) 51 rfl (by decide) ?_
        refine bp_vret 112 rfl rfl  ⟨_, rfl, ?_⟩
        have hl0 : lv = 0 := by simpa using bI0.mp z4
        have e_ : bObey th b 7 n d (i, fa, me, lv, fr, it, en, v, nt, tb, nm, L, ps) = (i, fa, me, (lv - 1), fr, it, en, vW tb v 7 n d, nt, tb, nm, L, ps) := (if_neg (fun z => z hl0)).trans ((if_neg (by rw [hf]; decide)).trans ((if_neg (by decide)).trans ((if_neg (by decide)).trans (if_neg (by decide)))))
        exact hQ _ _ _ _ (Br.cast (τ := (th, 7, n, d)) e_ hB2)
      · subst e_
        refine bp_tsIn (tgt := 183) 13 rfl (by decide) (by decide) rfl (by decide) ?_
        refine bp_aload_n (q := 184) 52 rfl rfl rfl rfl ?_
        refine bp_getR (x := A 1) (q := 187) (ci := 3) (j := 0) 53 rfl rfl fl_BR_14_3 hB1.kb rfl hB1.r0 ?_
        refine bp_iconst (v := 1) (q := 188) 54 rfl rfl (by decide) ?_
        refine bp_putI (q := 191) (ci := 4) (j := 3) 55 rfl rfl fl_BR_230_4 cl4 hB1.ko (fun r hr => by cases hr; rfl) (by decide) rfl rfl ?_
        refine bp_nx (X := fun h2 => BrX mx c0 s0 A P T h0 na0 h2 na i fa me (lv - 1) fr it en (bp_u1 v 3 1) nt tb nm L ps th 8 n d c s) (hB1.o (hB1.so.set (j := 3) (by decide) rfl) (bp_Fi.sI rfl)) (fun h2 hB2 => ?_)
        refine bp_goto (tgt := 315) 56 rfl (by decide) ?_
        refine bp_vret 112 rfl rfl  ⟨_, rfl, ?_⟩
        have hl0 : lv = 0 := by simpa using bI0.mp z4
        have e_ : bObey th b 8 n d (i, fa, me, lv, fr, it, en, v, nt, tb, nm, L, ps) = (i, fa, me, (lv - 1), fr, it, en, vW tb v 8 n d, nt, tb, nm, L, ps) := (if_neg (fun z => z hl0)).trans ((if_neg (by rw [hf]; decide)).trans ((if_neg (by decide)).trans ((if_neg (by decide)).trans (if_neg (by decide)))))
        exact hQ _ _ _ _ (Br.cast (τ := (th, 8, n, d)) e_ hB2)
      · subst e_
        refine bp_tsIn (tgt := 194) 13 rfl (by decide) (by decide) rfl (by decide) ?_
        refine bp_aload_n (q := 195) 57 rfl rfl rfl rfl ?_
        refine bp_getR (x := A 1) (q := 198) (ci := 3) (j := 0) 58 rfl rfl fl_BR_14_3 hB1.kb rfl hB1.r0 ?_
        refine bp_iconst (v := 2) (q := 199) 59 rfl rfl (by decide) ?_
        refine bp_putI (q := 202) (ci := 4) (j := 3) 60 rfl rfl fl_BR_230_4 cl4 hB1.ko (fun r hr => by cases hr; rfl) (by decide) rfl rfl ?_
        refine bp_nx (X := fun h2 => BrX mx c0 s0 A P T h0 na0 h2 na i fa me (lv - 1) fr it en (bp_u1 v 3 2) nt tb nm L ps th 9 n d c s) (hB1.o (hB1.so.set (j := 3) (by decide) rfl) (bp_Fi.sI rfl)) (fun h2 hB2 => ?_)
        refine bp_goto (tgt := 315) 61 rfl (by decide) ?_
        refine bp_vret 112 rfl rfl  ⟨_, rfl, ?_⟩
        have hl0 : lv = 0 := by simpa using bI0.mp z4
        have e_ : bObey th b 9 n d (i, fa, me, lv, fr, it, en, v, nt, tb, nm, L, ps) = (i, fa, me, (lv - 1), fr, it, en, vW tb v 9 n d, nt, tb, nm, L, ps) := (if_neg (fun z => z hl0)).trans ((if_neg (by rw [hf]; decide)).trans ((if_neg (by decide)).trans ((if_neg (by decide)).trans (if_neg (by decide)))))
        exact hQ _ _ _ _ (Br.cast (τ := (th, 9, n, d)) e_ hB2)
      · subst e_
        refine bp_tsIn (tgt := 205) 13 rfl (by decide) (by decide) rfl (by decide) ?_
        refine bp_aload_n (q := 206) 62 rfl rfl rfl rfl ?_
        refine bp_getR (x := A 1) (q := 209) (ci := 3) (j := 0) 63 rfl rfl fl_BR_14_3 hB1.kb rfl hB1.r0 ?_
        refine bp_aload_n (q := 210) 64 rfl rfl rfl rfl ?_
        refine bp_iconst (v := 0) (q := 211) 65 rfl rfl (by decide) ?_
        refine bp_callV (q := 214) (ci := 3) 66 rfl rfl cw_BR_numberOr lk_BR_216 rfl hB1.kb wd665 wd13 rfl rfl (Nat.le_of_ble_eq_true rfl) ⟨Nat.le_of_ble_eq_true rfl, Nat.le_of_ble_eq_true rfl⟩ (s_BR_numberOr (ro := false) hB1 hd ?_)
        refine bp_putI (q := 217) (ci := 4) (j := 4) 67 rfl rfl fl_BR_233_4 cl4 hB1.ko (fun r hr => by cases hr; rfl) (by decide) rfl rfl ?_
        refine bp_nx (X := fun h2 => BrX mx c0 s0 A P T h0 na0 h2 na i fa me (lv - 1) fr it en (bp_u1 v 4 ((nuO d n 0).toNatClampNeg)) nt tb nm L ps th 10 n d c s) (hB1.o (hB1.so.set (j := 4) (by decide) (nuO_9 (Or.inl rfl) rfl hf)) (bp_Fi.sI rfl)) (fun h2 hB2 => ?_)
        refine bp_goto (tgt := 315) 68 rfl (by decide) ?_
        refine bp_vret 112 rfl rfl  ⟨_, rfl, ?_⟩
        have hl0 : lv = 0 := by simpa using bI0.mp z4
        have e_ : bObey th b 10 n d (i, fa, me, lv, fr, it, en, v, nt, tb, nm, L, ps) = (i, fa, me, (lv - 1), fr, it, en, vW tb v 10 n d, nt, tb, nm, L, ps) := (if_neg (fun z => z hl0)).trans ((if_neg (by rw [hf]; decide)).trans ((if_neg (by decide)).trans ((if_neg (by decide)).trans (if_neg (by decide)))))
        exact hQ _ _ _ _ (Br.cast (τ := (th, 10, n, d)) e_ hB2)
      · subst e_
        refine bp_tsIn (tgt := 220) 13 rfl (by decide) (by decide) rfl (by decide) ?_
        refine bp_aload_n (q := 221) 69 rfl rfl rfl rfl ?_
        refine bp_getR (x := A 1) (q := 224) (ci := 3) (j := 0) 70 rfl rfl fl_BR_14_3 hB1.kb rfl hB1.r0 ?_
        refine bp_iconst (v := 0) (q := 225) 71 rfl rfl (by decide) ?_
        refine bp_putI (q := 228) (ci := 4) (j := 3) 72 rfl rfl fl_BR_230_4 cl4 hB1.ko (fun r hr => by cases hr; rfl) (by decide) rfl rfl ?_
        refine bp_nx (X := fun h2 => BrX mx c0 s0 A P T h0 na0 h2 na i fa me (lv - 1) fr it en (bp_u1 v 3 0) nt tb nm L ps th 11 n d c s) (hB1.o (hB1.so.set (j := 3) (by decide) rfl) (bp_Fi.sI rfl)) (fun h2 hB2 => ?_)
        refine bp_aload_n (q := 229) 73 rfl rfl rfl rfl ?_
        refine bp_getR (x := A 1) (q := 232) (ci := 3) (j := 0) 74 rfl rfl fl_BR_14_3 hB2.kb rfl hB2.r0 ?_
        refine bp_iconst (v := 0) (q := 233) 75 rfl rfl (by decide) ?_
        refine bp_putI (q := 236) (ci := 4) (j := 4) 76 rfl rfl fl_BR_233_4 cl4 hB2.ko (fun r hr => by cases hr; rfl) (by decide) rfl rfl ?_
        refine bp_nx (X := fun h3 => BrX mx c0 s0 A P T h0 na0 h3 na i fa me (lv - 1) fr it en (bp_u1 (bp_u1 v 3 0) 4 0) nt tb nm L ps th 11 n d c s) (hB2.o (hB2.so.set (j := 4) (by decide) rfl) (bp_Fi.sI rfl)) (fun h3 hB3 => ?_)
        refine bp_goto (tgt := 315) 77 rfl (by decide) ?_
        refine bp_vret 112 rfl rfl  ⟨_, rfl, ?_⟩
        have hl0 : lv = 0 := by simpa using bI0.mp z4
        have e_ : bObey th b 11 n d (i, fa, me, lv, fr, it, en, v, nt, tb, nm, L, ps) = (i, fa, me, (lv - 1), fr, it, en, vW tb v 11 n d, nt, tb, nm, L, ps) := (if_neg (fun z => z hl0)).trans ((if_neg (by rw [hf]; decide)).trans ((if_neg (by decide)).trans ((if_neg (by decide)).trans (if_neg (by decide)))))
        exact hQ _ _ _ _ (Br.cast (τ := (th, 11, n, d)) e_ hB3)
      · subst e_
        refine bp_tsIn (tgt := 239) 13 rfl (by decide) (by decide) rfl (by decide) ?_
        refine bp_aload_n (q := 240) 78 rfl rfl rfl rfl ?_
        refine bp_aload_n (q := 241) 79 rfl rfl rfl rfl ?_
        refine bp_getR (x := A 1) (q := 244) (ci := 3) (j := 0) 80 rfl rfl fl_BR_14_3 hB1.kb rfl hB1.r0 ?_
        refine bp_getI (q := 247) (ci := 4) (j := 3) 81 rfl rfl fl_BR_230_4 hB1.ko rfl ?_
        rw [hB1.so.2 3 (by decide)]
        refine bp_aload_n (q := 248) 82 rfl rfl rfl rfl ?_
        refine bp_getR (x := A 1) (q := 251) (ci := 3) (j := 0) 83 rfl rfl fl_BR_14_3 hB1.kb rfl hB1.r0 ?_
        refine bp_getI (q := 254) (ci := 4) (j := 4) 84 rfl rfl fl_BR_233_4 hB1.ko rfl ?_
        rw [hB1.so.2 4 (by decide)]
        refine bp_callV (q := 257) (ci := 3) 85 rfl rfl cw_BR_endParagraph lk_BR_103 rfl hB1.kb wd675 wd14 rfl rfl (Nat.le_of_ble_eq_true rfl) ⟨Nat.le_of_ble_eq_true rfl, Nat.le_of_ble_eq_true rfl⟩ (s_BR_endParagraph hB1 (fun h2 hX => ?_))
        refine bp_goto (tgt := 315) 86 rfl (by decide) ?_
        refine bp_vret 112 rfl rfl  ⟨_, rfl, ?_⟩
        have hl0 : lv = 0 := by simpa using bI0.mp z4
        have e_ : bObey th b 12 n d (i, fa, me, lv, fr, it, en, v, nt, tb, nm, L, ps) = bPar th (v 3) (v 4) (i, fa, me, lv - 1, fr, it, en, v, nt, tb, nm, L, ps) := (if_neg (fun z => z hl0)).trans ((if_neg (by rw [hf]; decide)).trans (if_pos rfl))
        exact hQ _ _ _ _ (Br.cast e_ hX)
      · subst e_
        refine bp_tsIn (tgt := 260) 13 rfl (by decide) (by decide) rfl (by decide) ?_
        refine bp_aload_n (q := 261) 87 rfl rfl rfl rfl ?_
        refine bp_getR (x := A 1) (q := 264) (ci := 3) (j := 0) 88 rfl rfl fl_BR_14_3 hB1.kb rfl hB1.r0 ?_
        refine bp_aload_n (q := 265) 89 rfl rfl rfl rfl ?_
        refine bp_iconst (v := 1) (q := 266) 90 rfl rfl (by decide) ?_
        refine bp_callV (q := 269) (ci := 3) 91 rfl rfl cw_BR_numberOr lk_BR_216 rfl hB1.kb wd665 wd13 rfl rfl (Nat.le_of_ble_eq_true rfl) ⟨Nat.le_of_ble_eq_true rfl, Nat.le_of_ble_eq_true rfl⟩ (s_BR_numberOr (ro := false) hB1 hd ?_)
        refine bp_putI (q := 272) (ci := 4) (j := 5) 92 rfl rfl fl_BR_236_4 cl4 hB1.ko (fun r hr => by cases hr; rfl) (by decide) rfl rfl ?_
        refine bp_nx (X := fun h2 => BrX mx c0 s0 A P T h0 na0 h2 na i fa me (lv - 1) fr it en (bp_u1 v 5 ((nuO d n 1).toNatClampNeg)) nt tb nm L ps th 13 n d c s) (hB1.o (hB1.so.set (j := 5) (by decide) (nuO_9 (Or.inr rfl) rfl hf)) (bp_Fi.sI rfl)) (fun h2 hB2 => ?_)
        refine bp_goto (tgt := 315) 93 rfl (by decide) ?_
        refine bp_vret 112 rfl rfl  ⟨_, rfl, ?_⟩
        have hl0 : lv = 0 := by simpa using bI0.mp z4
        have e_ : bObey th b 13 n d (i, fa, me, lv, fr, it, en, v, nt, tb, nm, L, ps) = (i, fa, me, (lv - 1), fr, it, en, vW tb v 13 n d, nt, tb, nm, L, ps) := (if_neg (fun z => z hl0)).trans ((if_neg (by rw [hf]; decide)).trans ((if_neg (by decide)).trans ((if_neg (by decide)).trans (if_neg (by decide)))))
        exact hQ _ _ _ _ (Br.cast (τ := (th, 13, n, d)) e_ hB2)
      · subst e_
        refine bp_tsIn (tgt := 275) 13 rfl (by decide) (by decide) rfl (by decide) ?_
        refine bp_aload_n (q := 276) 94 rfl rfl rfl rfl ?_
        refine bp_getR (x := P 0) (q := 279) (ci := 3) (j := 12) 95 rfl rfl fl_BR_90_3 hB1.kb rfl hB1.r12 ?_
        refine bp_aload_n (q := 280) 96 rfl rfl rfl rfl ?_
        refine bp_getI (q := 283) (ci := 3) (j := 9) 97 rfl rfl fl_BR_161_3 hB1.kb rfl ?_
        rw [hB1.i9]
        refine bp_aload_n (q := 284) 98 rfl rfl rfl rfl ?_
        refine bp_getR (x := A 1) (q := 287) (ci := 3) (j := 0) 99 rfl rfl fl_BR_14_3 hB1.kb rfl hB1.r0 ?_
        refine bp_callV (q := 290) (ci := 4) 100 rfl rfl cw_St_look lk_BR_132 rfl hB1.ko wd688 wd689 rfl rfl (Nat.le_of_ble_eq_true rfl) ⟨Nat.le_of_ble_eq_true rfl, Nat.le_of_ble_eq_true rfl⟩ (s_St_look (ro := false) hB1.so ok.2.2.1.1 ok.2.2.1.2.2.1 ok.2.2.1.2.2.2.1 ?_)
        refine bp_callV (q := 293) (ci := 2) 101 rfl rfl cw_Page_put lk_BR_135 rfl hB1.kp wd695 wd696 rfl rfl (Nat.le_of_ble_eq_true rfl) ⟨Nat.le_of_ble_eq_true rfl, Nat.le_of_ble_eq_true rfl⟩ (s_Page_put (u := n.toNatClampNeg) (v := lkV v) (nuO_u hf) rfl hB1.pg hL (fun h2 hP2 f2 => ?_))
        have hB2 := hB1.p hP2 f2
        refine bp_aload_n (q := 294) 102 rfl rfl rfl rfl ?_
        refine bp_aload_n (q := 295) 103 rfl rfl rfl rfl ?_
        refine bp_getR (x := A 1) (q := 298) (ci := 3) (j := 0) 104 rfl rfl fl_BR_14_3 hB2.kb rfl hB2.r0 ?_
        refine bp_getI (q := 301) (ci := 4) (j := 5) 105 rfl rfl fl_BR_236_4 hB2.ko rfl ?_
        rw [hB2.so.2 5 (by decide)]
        refine bp_putI (q := 304) (ci := 3) (j := 6) 106 rfl rfl fl_BR_46_3 cl3 hB2.kb (fun r hr => by cases hr; rfl) (by decide) rfl rfl ?_
        refine bp_nx (X := fun h3 => BrX mx c0 s0 A P T h0 na0 h3 na i fa me (v 5) fr it en v nt tb nm (L ++ [(n.toNatClampNeg, lkV v)]) ps th 14 n d c s) (hB2.s6 rfl) (fun h3 hB3 => ?_)
        refine bp_goto (tgt := 315) 107 rfl (by decide) ?_
        refine bp_vret 112 rfl rfl  ⟨_, rfl, ?_⟩
        have hl0 : lv = 0 := by simpa using bI0.mp z4
        have e_ : bObey th b 14 n d (i, fa, me, lv, fr, it, en, v, nt, tb, nm, L, ps) = (i, fa, me, v 5, fr, it, en, v, nt, tb, nm, L ++ [(n.toNatClampNeg, lkV v)], ps) := (if_neg (fun z => z hl0)).trans ((if_neg (by rw [hf]; decide)).trans ((if_neg (by decide)).trans (if_pos rfl)))
        exact hQ _ _ _ _ (Br.cast (τ := (th, 14, n, d)) e_ hB3)
      · subst e_
        refine bp_tsIn (tgt := 307) 13 rfl (by decide) (by decide) rfl (by decide) ?_
        refine bp_aload_n (q := 308) 108 rfl rfl rfl rfl ?_
        refine bp_iload_n (q := 309) 109 rfl rfl rfl rfl ?_
        refine bp_callV (q := 312) (ci := 3) 110 rfl rfl cw_BR_startTable lk_BR_239 rfl hB1.kb wd701 wd15 rfl rfl (Nat.le_of_ble_eq_true rfl) ⟨Nat.le_of_ble_eq_true rfl, Nat.le_of_ble_eq_true rfl⟩ (s_BR_startTable (b := b) hB1 (fun h2 hX => ?_))
        refine bp_goto (tgt := 315) 111 rfl (by decide) ?_
        refine bp_vret 112 rfl rfl  ⟨_, rfl, ?_⟩
        have hl0 : lv = 0 := by simpa using bI0.mp z4
        have e_ : bObey th b 15 n d (i, fa, me, lv, fr, it, en, v, nt, tb, nm, L, ps) = (if b then (i, fa, me, lv - 1, fr, true, en, v, nt, [], [], L, ps) else (i, fa, me, lv - 1, fr, it, en, v, nt, tb, nm, L, ps)) := (if_neg (fun z => z hl0)).trans ((if_neg (by rw [hf]; decide)).trans ((if_neg (by decide)).trans ((if_neg (by decide)).trans (if_pos rfl))))
        exact hQ _ _ _ _ (Br.cast e_ hX)
    · refine bp_aload_n (q := 16) 7 rfl rfl rfl rfl ?_
      refine bp_bipush (v := -5) (q := 18) 8 rfl rfl (by decide) ?_
      refine bp_callU (q := 21) (ci := 3) (owner := "BracedPages$Reader") 9 rfl rfl cw_Rd_fail wd590 wd591 (Or.inr rfl) ⟨by decide, by decide⟩ rfl rfl hB1.kb wd594 wd593 rfl rfl (Nat.le_of_ble_eq_true rfl) ⟨Nat.le_of_ble_eq_true rfl, Nat.le_of_ble_eq_true rfl⟩ (s_BR_fail hB1 (fun h2 hB2 => ?_))
      refine bp_vret 10 rfl rfl  ⟨_, rfl, ?_⟩
      have hl0 : lv = 0 := by simpa using bI0.mp z4
      have hf := bI0.mp z12
      have e_ : bObey th b w n d (i, fa, me, lv, fr, it, en, v, nt, tb, nm, L, ps) = (i, -5, nI th, (lv - 1), fr, it, en, v, nt, tb, nm, L, ps) := (if_neg (fun z => z hl0)).trans (if_pos hf)
      exact hQ _ _ _ _ (Br.cast (τ := (th, w, n, d)) e_ hB2)
  · refine bp_vret 3 rfl rfl  ⟨_, rfl, ?_⟩
    have hl1 : lv ≠ 0 := by simpa using bI1 z4
    have e_ : bObey th b w n d (i, fa, me, lv, fr, it, en, v, nt, tb, nm, L, ps) = (i, fa, me, (lv - 1), fr, it, en, v, nt, tb, nm, L, ps) := if_pos hl1
    exact hQ _ _ _ _ (Br.cast (τ := (th, w, n, d)) e_ hB1)
end BR3
