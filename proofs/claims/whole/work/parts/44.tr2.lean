/-! the tagged reader: tags -/
theorem nI_big {x v : Nat} (hx : x < 1000000 ∨ x = 4294967295) (hv : v < 1000000) : nI x = nI v ↔ x = v := by
  rcases hx with z | z
  · exact nI_eq_iff z hv
  · subst z
    rw [m1_nI]
    exact ⟨fun q => absurd q.symm (nI_m1 hv), fun q => by omega⟩
theorem st_on {m g : Nat} (hm : m < 8) (hg : g = 0 ∨ g = 1 ∨ g = 2) : nI m ||| nI (2 ^ g) = nI (stS m (2 ^ g) false) := by
  rcases hg with e | e | e <;> subst e
  · exact (st_off m hm 1 (by decide) (Or.inl rfl)).2
  · exact (st_off m hm 2 (by decide) (Or.inr (Or.inl rfl))).2
  · exact (st_off m hm 4 (by decide) (Or.inr (Or.inr rfl))).2
section TR2
variable {l : Launch} {G : bp_G} {H0 : Heap} {A P : Nat → Nat} {T : List Nat} {h0 h : bp_H} {i : Nat} {fa me : Int32} {ip : Bool} {ot rs : Nat} {hl ed : Bool} {sy sz co : Nat} {L : List (Nat × Nat)} {ps : List (Nat × Nat × Nat)} {th nu ne c s : Nat} {Q : Option Value → bp_H → Nat → Nat → Prop}
set_option maxRecDepth 100000 in
set_option maxHeartbeats 4000000 in
theorem s_TR_setLook {g : Nat} (hB0 : TrX A P T h0 h i fa me ip ot rs hl ed sy sz co L ps th nu ne) (hg : g < 5) (h8 : sy < 8) (hnu : g = 3 → nu < 1000000 ∨ nu = 4294967295) (hQ : ∀ h', TrX A P T h0 h' i fa me ip ot rs hl ed ((if g = 3 ∨ g = 4 then sy else stS sy (2 ^ g) false)) (if g = 3 then nu else sz) (if g = 4 then nu else co) L ps th nu ne → Q (some (.int (bI (lokO g nu)))) h' c s) : bp_AM l G H0 (1, 22, false, false) M_TR_setLook h c s [.ref (A 0), .int (nI g)] Q := by
  refine bp_of (ls := [some (.ref (A 0)), some (.int (nI g))]) (by decide) dt_TR_setLook (Nat.le_of_ble_eq_true rfl) (fun q hq => hq) false ?_
  refine bp_iload_n (q := 1) 0 rfl rfl rfl rfl ?_
  refine bp_iconst (v := 3) (q := 2) 1 rfl rfl (by decide) ?_
  refine bp_icmp_ne (q := 5) (tgt := 41) 2 rfl rfl (by decide) (fun z2 => ?_) (fun z2 => ?_)
  · refine bp_iload_n (q := 42) 21 rfl rfl rfl rfl ?_
    refine bp_iconst (v := 4) (q := 43) 22 rfl rfl (by decide) ?_
    refine bp_icmp_ne (q := 46) (tgt := 65) 23 rfl rfl (by decide) (fun z43 => ?_) (fun z43 => ?_)
    · refine bp_aload_n (q := 66) 34 rfl rfl rfl rfl ?_
      have y2 : ¬ g = 3 := fun q => z2 (by rw [q]; rfl)
      have y43 : ¬ g = 4 := fun q => z43 (by rw [q]; rfl)
      refine bp_dup (q := 67) 35 rfl rfl rfl ?_
      refine bp_getI (q := 70) (ci := 6) (j := 5) 36 rfl rfl fl_TR_63_6 hB0.kb rfl ?_
      rw [hB0.i5]
      refine bp_iconst (v := 1) (q := 71) 37 rfl rfl (by decide) ?_
      refine bp_iload_n (q := 72) 38 rfl rfl rfl rfl ?_
      refine bp_ishl (q := 73) 39 rfl rfl ?_
      rw [sh_l g hg]
      refine bp_ior (q := 74) 40 rfl rfl ?_
      refine bp_putI (q := 77) (ci := 6) (j := 5) 41 rfl rfl fl_TR_63_6 cl6 hB0.kb (fun r hr => by cases hr; rfl) (by decide) rfl rfl ?_
      refine bp_nx (X := fun h1 => TrX A P T h0 h1 i fa me ip ot rs hl ed (stS sy (2 ^ g) false) sz co L ps th nu ne) (hB0.s5 (st_on h8 (by omega))) (fun h1 hB1 => ?_)
      refine bp_iconst (v := 1) (q := 78) 42 rfl rfl (by decide) ?_
      refine bp_iret 43 rfl rfl (by first | rfl | assumption) ⟨_, rfl, ?_⟩
      have q := hQ h1
      rw [if_neg (fun q => q.elim y2 y43), if_neg y2, if_neg y43] at q
      rw [show lokO g nu = true from (if_neg y2).trans (if_neg y43)] at q
      exact q hB1
    · refine bp_aload_n (q := 47) 24 rfl rfl rfl rfl ?_
      refine bp_aload_n (q := 48) 25 rfl rfl rfl rfl ?_
      refine bp_getI (q := 51) (ci := 6) (j := 8) 26 rfl rfl fl_TR_131_6 hB0.kb rfl ?_
      rw [hB0.i8]
      refine bp_putI (q := 54) (ci := 6) (j := 7) 27 rfl rfl fl_TR_68_6 cl6 hB0.kb (fun r hr => by cases hr; rfl) (by decide) rfl rfl ?_
      refine bp_nx (X := fun h1 => TrX A P T h0 h1 i fa me ip ot rs hl ed sy sz nu L ps th nu ne) (hB0.s7 rfl) (fun h1 hB1 => ?_)
      refine bp_aload_n (q := 55) 28 rfl rfl rfl rfl ?_
      refine bp_getI (q := 58) (ci := 6) (j := 8) 29 rfl rfl fl_TR_131_6 hB1.kb rfl ?_
      rw [hB1.i8]
      refine bp_iconst (v := 1) (q := 59) 30 rfl rfl (by decide) ?_
      refine bp_bipush (v := 7) (q := 61) 31 rfl rfl (by decide) ?_
      refine bp_callS (q := 64) 32 rfl rfl cw_X_isWithin lk_TR_102 wd653 rfl rfl (Nat.le_of_ble_eq_true rfl) ⟨Nat.le_of_ble_eq_true rfl, Nat.le_of_ble_eq_true rfl⟩ (s_X_isWithin (ro := false) ?_)
      refine bp_iret 33 rfl rfl (bI_nar _) ⟨_, rfl, ?_⟩
      have y43 : g = 4 := (nI_eq_iff (b := 4) (by omega) (by decide)).mp z43
      subst y43
      exact hQ _ hB1
  · refine bp_aload_n (q := 6) 3 rfl rfl rfl rfl ?_
    refine bp_aload_n (q := 7) 4 rfl rfl rfl rfl ?_
    refine bp_getI (q := 10) (ci := 6) (j := 8) 5 rfl rfl fl_TR_131_6 hB0.kb rfl ?_
    rw [hB0.i8]
    refine bp_putI (q := 13) (ci := 6) (j := 6) 6 rfl rfl fl_TR_66_6 cl6 hB0.kb (fun r hr => by cases hr; rfl) (by decide) rfl rfl ?_
    refine bp_nx (X := fun h1 => TrX A P T h0 h1 i fa me ip ot rs hl ed sy nu co L ps th nu ne) (hB0.s6 rfl) (fun h1 hB1 => ?_)
    refine bp_aload_n (q := 14) 7 rfl rfl rfl rfl ?_
    refine bp_getI (q := 17) (ci := 6) (j := 8) 8 rfl rfl fl_TR_131_6 hB1.kb rfl ?_
    rw [hB1.i8]
    refine bp_iconst (v := 1) (q := 18) 9 rfl rfl (by decide) ?_
    refine bp_bipush (v := 99) (q := 20) 10 rfl rfl (by decide) ?_
    refine bp_callS (q := 23) 11 rfl rfl cw_X_isWithin lk_TR_102 wd653 rfl rfl (Nat.le_of_ble_eq_true rfl) ⟨Nat.le_of_ble_eq_true rfl, Nat.le_of_ble_eq_true rfl⟩ (s_X_isWithin (ro := false) ?_)
    refine bp_if_eq (q := 26) (tgt := 39) 12 rfl rfl (by decide) (fun z23 => ?_) (fun z23 => ?_)
    · refine bp_iconst (v := 0) (q := 40) 19 rfl rfl (by decide) ?_
      refine bp_iret 20 rfl rfl (by first | rfl | assumption) ⟨_, rfl, ?_⟩
      have y2 : g = 3 := (nI_eq_iff (b := 3) (by omega) (by decide)).mp z2
      subst y2
      have q := hQ _ hB1
      rw [show lokO 3 nu = false from by show (wi (nI nu) 1 99 && decide (nu ≠ 12)) = false; rw [bI0.mp z23]; rfl] at q
      exact q
    · refine bp_aload_n (q := 27) 13 rfl rfl rfl rfl ?_
      refine bp_getI (q := 30) (ci := 6) (j := 8) 14 rfl rfl fl_TR_131_6 hB1.kb rfl ?_
      rw [hB1.i8]
      refine bp_bipush (v := 12) (q := 32) 15 rfl rfl (by decide) ?_
      refine bp_icmp_eq (q := 35) (tgt := 39) 16 rfl rfl (by decide) (fun z32 => ?_) (fun z32 => ?_)
      · refine bp_iconst (v := 0) (q := 40) 19 rfl rfl (by decide) ?_
        refine bp_iret 20 rfl rfl (by first | rfl | assumption) ⟨_, rfl, ?_⟩
        have y2 : g = 3 := (nI_eq_iff (b := 3) (by omega) (by decide)).mp z2
        subst y2
        have q := hQ _ hB1
        have y32 : nu = 12 := (nI_big (v := 12) (hnu rfl) (by decide)).mp z32
        rw [show lokO 3 nu = false from by show (wi (nI nu) 1 99 && decide (nu ≠ 12)) = false; rw [y32]; decide] at q
        exact q
      · refine bp_iconst (v := 1) (q := 36) 17 rfl rfl (by decide) ?_
        refine bp_goto (tgt := 40) 18 rfl (by decide) ?_
        refine bp_iret 20 rfl rfl (by first | rfl | assumption) ⟨_, rfl, ?_⟩
        have y2 : g = 3 := (nI_eq_iff (b := 3) (by omega) (by decide)).mp z2
        subst y2
        have q := hQ _ hB1
        have y32 : nu ≠ 12 := fun e => z32 (by rw [e]; rfl)
        rw [show lokO 3 nu = true from by show (wi (nI nu) 1 99 && decide (nu ≠ 12)) = true; rw [bI1 z23, decide_eq_true y32]; rfl] at q
        exact q
set_option maxRecDepth 100000 in
set_option maxHeartbeats 4000000 in
theorem s_TR_runTagEnd {g : Option Nat} (hB0 : TrX A P T h0 h i fa me ip ot rs hl ed sy sz co L ps th nu ne) (hT : okT T) (hi : i ≤ 400) (hg : ∀ k, g = some k → k < 5) (hQ : ∀ h' nu' ne', TrX A P T h0 h' i fa me ip ot rs hl ed sy sz co L ps th nu' ne' → ((g = some 3 ∨ g = some 4) → rtE T i g ≠ none → nu' = tnV T (i + 3)) → Q (some (.int (oI (rtE T i g)))) h' c s) : bp_AM l G H0 (2, 45, false, false) M_TR_runTagEnd h c s [.ref (A 0), .int (oI g)] Q := by
  refine bp_of (ls := [some (.ref (A 0)), some (.int (oI g))]) (by decide) dt_TR_runTagEnd (Nat.le_of_ble_eq_true rfl) (fun q hq => hq) false ?_
  refine bp_iload_n (q := 1) 0 rfl rfl rfl rfl ?_
  refine bp_iconst (v := 3) (q := 2) 1 rfl rfl (by decide) ?_
  refine bp_icmp_eq (q := 5) (tgt := 17) 2 rfl rfl (by decide) (fun z2 => ?_) (fun z2 => ?_)
  · refine bp_aload_n (q := 18) 11 rfl rfl rfl rfl ?_
    refine bp_getR (x := A 1) (q := 21) (ci := 6) (j := 10) 12 rfl rfl fl_TR_19_6 hB0.kb rfl hB0.r10 ?_
    refine bp_aload_n (q := 22) 13 rfl rfl rfl rfl ?_
    refine bp_getI (q := 25) (ci := 6) (j := 12) 14 rfl rfl fl_TR_23_6 hB0.kb rfl ?_
    rw [hB0.i12]
    refine bp_iconst (v := 2) (q := 26) 15 rfl rfl (by decide) ?_
    refine bp_iadd (q := 27) 16 rfl rfl ?_
    rw [show nI i + 2 = nI (i + 2) from nI_add i 2]
    refine bp_callV (q := 30) (ci := 1) 17 rfl rfl cw_Row_get lk_TR_27 rfl hB0.kx wd438 wd439 rfl rfl (Nat.le_of_ble_eq_true rfl) ⟨Nat.le_of_ble_eq_true rfl, Nat.le_of_ble_eq_true rfl⟩ (s_Row_get (ro := false) hB0.tx ?_)
    refine bp_bipush (v := 32) (q := 32) 18 rfl rfl (by decide) ?_
    refine bp_icmp_ne (q := 35) (tgt := 55) 19 rfl rfl (by decide) (fun z32 => ?_) (fun z32 => ?_)
    · refine bp_iconst (v := -1) (q := 56) 30 rfl rfl (by decide) ?_
      refine bp_iret 31 rfl rfl rfl ⟨_, rfl, ?_⟩
      have yg : g = some 3 ∨ g = some 4 := Or.inl ((oI_is (v := 3) (fun k hk => by have := hg k hk; omega) (by decide)).mp z2)
      have y32 : ¬ tc T (i + 2) = 32 := mt (rg_is hT (k := i + 2) (v := 32) (by omega) (by decide) (by decide)).mpr z32
      have e_ : rtE T i g = none := (if_pos yg).trans (if_neg (fun q => y32 q.1))
      have q := hQ h nu ne hB0 (fun _ z => by rw [e_] at z; exact absurd rfl z)
      rw [e_] at q
      exact q
    · refine bp_aload_n (q := 36) 20 rfl rfl rfl rfl ?_
      refine bp_aload_n (q := 37) 21 rfl rfl rfl rfl ?_
      refine bp_getI (q := 40) (ci := 6) (j := 12) 22 rfl rfl fl_TR_23_6 hB0.kb rfl ?_
      rw [hB0.i12]
      refine bp_iconst (v := 3) (q := 41) 23 rfl rfl (by decide) ?_
      refine bp_iadd (q := 42) 24 rfl rfl ?_
      rw [show nI i + 3 = nI (i + 3) from nI_add i 3]
      refine bp_callV (q := 45) (ci := 6) 25 rfl rfl cw_TR_readNumber lk_TR_125 rfl hB0.kb wd777 wd29 rfl rfl (Nat.le_of_ble_eq_true rfl) ⟨Nat.le_of_ble_eq_true rfl, Nat.le_of_ble_eq_true rfl⟩ (s_TR_readNumber hB0 hT (by omega) (fun h1 hB1 => ?_))
      refine bp_if_eq (q := 48) (tgt := 55) 26 rfl rfl (by decide) (fun z45 => ?_) (fun z45 => ?_)
      · refine bp_iconst (v := -1) (q := 56) 30 rfl rfl (by decide) ?_
        refine bp_iret 31 rfl rfl rfl ⟨_, rfl, ?_⟩
        have yg : g = some 3 ∨ g = some 4 := Or.inl ((oI_is (v := 3) (fun k hk => by have := hg k hk; omega) (by decide)).mp z2)
        have y32 : tc T (i + 2) = 32 := (rg_is hT (k := i + 2) (v := 32) (by omega) (by decide) (by decide)).mp z32
        have y45 := bI0.mp z45
        have e_ : rtE T i g = none := (if_pos yg).trans (if_neg (fun q => by rw [y45] at q; exact absurd q.2 (by decide)))
        have q := hQ _ _ _ hB1 (fun _ _ => rfl)
        rw [e_] at q
        exact q
      · refine bp_aload_n (q := 49) 27 rfl rfl rfl rfl ?_
        refine bp_getI (q := 52) (ci := 6) (j := 9) 28 rfl rfl fl_TR_128_6 hB1.kb rfl ?_
        rw [hB1.i9]
        refine bp_goto (tgt := 56) 29 rfl (by decide) ?_
        refine bp_iret 31 rfl rfl rfl ⟨_, rfl, ?_⟩
        have yg : g = some 3 ∨ g = some 4 := Or.inl ((oI_is (v := 3) (fun k hk => by have := hg k hk; omega) (by decide)).mp z2)
        have y32 : tc T (i + 2) = 32 := (rg_is hT (k := i + 2) (v := 32) (by omega) (by decide) (by decide)).mp z32
        have y45 := bI1 z45
        have e_ : rtE T i g = some (tnE T (i + 3)) := (if_pos yg).trans (if_pos ⟨y32, y45⟩)
        have q := hQ _ _ _ hB1 (fun _ _ => rfl)
        rw [e_] at q
        exact q
  · refine bp_iload_n (q := 6) 3 rfl rfl rfl rfl ?_
    refine bp_iconst (v := 4) (q := 7) 4 rfl rfl (by decide) ?_
    refine bp_icmp_eq (q := 10) (tgt := 17) 5 rfl rfl (by decide) (fun z7 => ?_) (fun z7 => ?_)
    · refine bp_aload_n (q := 18) 11 rfl rfl rfl rfl ?_
      refine bp_getR (x := A 1) (q := 21) (ci := 6) (j := 10) 12 rfl rfl fl_TR_19_6 hB0.kb rfl hB0.r10 ?_
      refine bp_aload_n (q := 22) 13 rfl rfl rfl rfl ?_
      refine bp_getI (q := 25) (ci := 6) (j := 12) 14 rfl rfl fl_TR_23_6 hB0.kb rfl ?_
      rw [hB0.i12]
      refine bp_iconst (v := 2) (q := 26) 15 rfl rfl (by decide) ?_
      refine bp_iadd (q := 27) 16 rfl rfl ?_
      rw [show nI i + 2 = nI (i + 2) from nI_add i 2]
      refine bp_callV (q := 30) (ci := 1) 17 rfl rfl cw_Row_get lk_TR_27 rfl hB0.kx wd438 wd439 rfl rfl (Nat.le_of_ble_eq_true rfl) ⟨Nat.le_of_ble_eq_true rfl, Nat.le_of_ble_eq_true rfl⟩ (s_Row_get (ro := false) hB0.tx ?_)
      refine bp_bipush (v := 32) (q := 32) 18 rfl rfl (by decide) ?_
      refine bp_icmp_ne (q := 35) (tgt := 55) 19 rfl rfl (by decide) (fun z32 => ?_) (fun z32 => ?_)
      · refine bp_iconst (v := -1) (q := 56) 30 rfl rfl (by decide) ?_
        refine bp_iret 31 rfl rfl rfl ⟨_, rfl, ?_⟩
        have yg : g = some 3 ∨ g = some 4 := Or.inr ((oI_is (v := 4) (fun k hk => by have := hg k hk; omega) (by decide)).mp z7)
        have y32 : ¬ tc T (i + 2) = 32 := mt (rg_is hT (k := i + 2) (v := 32) (by omega) (by decide) (by decide)).mpr z32
        have e_ : rtE T i g = none := (if_pos yg).trans (if_neg (fun q => y32 q.1))
        have q := hQ h nu ne hB0 (fun _ z => by rw [e_] at z; exact absurd rfl z)
        rw [e_] at q
        exact q
      · refine bp_aload_n (q := 36) 20 rfl rfl rfl rfl ?_
        refine bp_aload_n (q := 37) 21 rfl rfl rfl rfl ?_
        refine bp_getI (q := 40) (ci := 6) (j := 12) 22 rfl rfl fl_TR_23_6 hB0.kb rfl ?_
        rw [hB0.i12]
        refine bp_iconst (v := 3) (q := 41) 23 rfl rfl (by decide) ?_
        refine bp_iadd (q := 42) 24 rfl rfl ?_
        rw [show nI i + 3 = nI (i + 3) from nI_add i 3]
        refine bp_callV (q := 45) (ci := 6) 25 rfl rfl cw_TR_readNumber lk_TR_125 rfl hB0.kb wd777 wd29 rfl rfl (Nat.le_of_ble_eq_true rfl) ⟨Nat.le_of_ble_eq_true rfl, Nat.le_of_ble_eq_true rfl⟩ (s_TR_readNumber hB0 hT (by omega) (fun h1 hB1 => ?_))
        refine bp_if_eq (q := 48) (tgt := 55) 26 rfl rfl (by decide) (fun z45 => ?_) (fun z45 => ?_)
        · refine bp_iconst (v := -1) (q := 56) 30 rfl rfl (by decide) ?_
          refine bp_iret 31 rfl rfl rfl ⟨_, rfl, ?_⟩
          have yg : g = some 3 ∨ g = some 4 := Or.inr ((oI_is (v := 4) (fun k hk => by have := hg k hk; omega) (by decide)).mp z7)
          have y32 : tc T (i + 2) = 32 := (rg_is hT (k := i + 2) (v := 32) (by omega) (by decide) (by decide)).mp z32
          have y45 := bI0.mp z45
          have e_ : rtE T i g = none := (if_pos yg).trans (if_neg (fun q => by rw [y45] at q; exact absurd q.2 (by decide)))
          have q := hQ _ _ _ hB1 (fun _ _ => rfl)
          rw [e_] at q
          exact q
        · refine bp_aload_n (q := 49) 27 rfl rfl rfl rfl ?_
          refine bp_getI (q := 52) (ci := 6) (j := 9) 28 rfl rfl fl_TR_128_6 hB1.kb rfl ?_
          rw [hB1.i9]
          refine bp_goto (tgt := 56) 29 rfl (by decide) ?_
          refine bp_iret 31 rfl rfl rfl ⟨_, rfl, ?_⟩
          have yg : g = some 3 ∨ g = some 4 := Or.inr ((oI_is (v := 4) (fun k hk => by have := hg k hk; omega) (by decide)).mp z7)
          have y32 : tc T (i + 2) = 32 := (rg_is hT (k := i + 2) (v := 32) (by omega) (by decide) (by decide)).mp z32
          have y45 := bI1 z45
          have e_ : rtE T i g = some (tnE T (i + 3)) := (if_pos yg).trans (if_pos ⟨y32, y45⟩)
          have q := hQ _ _ _ hB1 (fun _ _ => rfl)
          rw [e_] at q
          exact q
    · refine bp_aload_n (q := 11) 6 rfl rfl rfl rfl ?_
      refine bp_getI (q := 14) (ci := 6) (j := 12) 7 rfl rfl fl_TR_23_6 hB0.kb rfl ?_
      rw [hB0.i12]
      refine bp_iconst (v := 2) (q := 15) 8 rfl rfl (by decide) ?_
      refine bp_iadd (q := 16) 9 rfl rfl ?_
      rw [show nI i + 2 = nI (i + 2) from nI_add i 2]
      refine bp_iret 10 rfl rfl rfl ⟨_, rfl, ?_⟩
      have yg : ¬ (g = some 3 ∨ g = some 4) := fun q => q.elim (mt (oI_is (v := 3) (fun k hk => by have := hg k hk; omega) (by decide)).mpr z2) (mt (oI_is (v := 4) (fun k hk => by have := hg k hk; omega) (by decide)).mpr z7)
      have q := hQ h nu ne hB0 (fun q => absurd q yg)
      rw [rtE, if_neg yg] at q
      exact q
theorem rtE_lt {T : List Nat} {i k : Nat} {g : Option Nat} (hT : okT T) (hi : i ≤ 400) (h : rtE T i g = some k) : k < 1000 := by
  have hT1 := hT.1
  unfold rtE at h
  split at h
  · split at h
    · rename_i w
      cases h
      have := tnE_in (T := T) (k := i + 3) (by have := tc_in' w.1 (by decide); omega)
      omega
    · cases h
  · cases h; omega
theorem rtOk_iff {T : List Nat} {i g : Nat} : rtOk T i g = true ↔ ∃ k, rtE T i (some g) = some k ∧ tc T k = 62 := by
  unfold rtOk
  cases e : rtE T i (some g) with
  | none => exact ⟨(fun z => nomatch z), fun ⟨k, z, _⟩ => nomatch z⟩
  | some k => exact ⟨fun z => ⟨k, rfl, of_decide_eq_true z⟩, fun ⟨q, z, y⟩ => by cases z; exact decide_eq_true y⟩
theorem tRun_bad {T : List Nat} {th : Nat} {g : Option Nat} {i : Nat} {fa me : Int32} {ip : Bool} {ot rs : Nat} {hl ed : Bool} {sy sz co : Nat} {L : List (Nat × Nat)} {ps : List (Nat × Nat × Nat)} (h : ¬ (ip = true ∧ hl = false ∧ ∃ k, g = some k ∧ ot / 2 ^ k = 0 ∧ rtOk T i k = true)) : tRun T th g (i, fa, me, ip, ot, rs, hl, ed, sy, sz, co, L, ps) = (i, -9, nI th, ip, ot, rs, hl, ed, sy, sz, co, L, ps) := by
  cases g with
  | none => rfl
  | some k =>
    show (if ip = false ∨ hl = true ∨ ot / 2 ^ k ≠ 0 ∨ rtOk T i k = false then _ else _) = _
    refine if_pos ?_
    by_cases a : ip = false
    · exact Or.inl a
    by_cases b : hl = true
    · exact Or.inr (Or.inl b)
    by_cases c : ot / 2 ^ k = 0
    · refine Or.inr (Or.inr (Or.inr ?_))
      cases e : rtOk T i k with
      | false => rfl
      | true => exact absurd ⟨by simpa using a, by simpa using b, k, rfl, c, e⟩ h
    · exact Or.inr (Or.inr (Or.inl c))
set_option maxRecDepth 100000 in
set_option maxHeartbeats 4000000 in
theorem s_TR_readRunTag {g_ : Option Nat} (hB0 : TrX A P T h0 h i fa me ip ot rs hl ed sy sz co L ps th nu ne) (hT : okT T) (hi4 : i ≤ 400) (hg : ∀ k, g_ = some k → k < 5) (ok : okY T i fa ip ot rs sy sz co L ps) (hQ : ∀ h' τ', Tr A P T h0 h' (tRun T th g_ (i, fa, me, ip, ot, rs, hl, ed, sy, sz, co, L, ps)) τ' → Q none h' c s) : bp_AM l G H0 (3, 66, false, false) M_TR_readRunTag h c s [.ref (A 0), .int (oI g_)] Q := by
  refine bp_of (ls := [some (.ref (A 0)), some (.int (oI g_)), none, none]) (by decide) dt_TR_readRunTag (Nat.le_of_ble_eq_true rfl) (fun q hq => hq) false ?_
  refine bp_aload_n (q := 1) 0 rfl rfl rfl rfl ?_
  refine bp_iload_n (q := 2) 1 rfl rfl rfl rfl ?_
  refine bp_callV (q := 5) (ci := 6) 2 rfl rfl cw_TR_runTagEnd lk_TR_112 rfl hB0.kb wd773 wd28 rfl rfl (Nat.le_of_ble_eq_true rfl) ⟨Nat.le_of_ble_eq_true rfl, Nat.le_of_ble_eq_true rfl⟩ (s_TR_runTagEnd hB0 hT hi4 hg (fun h1 nu1 ne1 hB1 hnu1 => ?_))
  refine bp_istore_n (q := 6) 3 rfl rfl rfl (by decide) (bp_up2 rfl) ?_
  refine bp_aload_n (q := 7) 4 rfl rfl rfl rfl ?_
  refine bp_getI (q := 10) (ci := 6) (j := 0) 5 rfl rfl fl_TR_9_6 hB1.kb rfl ?_
  rw [hB1.i0]
  refine bp_if_eq (q := 13) (tgt := 38) 6 rfl rfl (by decide) (fun z10 => ?_) (fun z10 => ?_)
  · refine bp_iconst (v := 0) (q := 39) 20 rfl rfl (by decide) ?_
    refine bp_istore_n (q := 40) 21 rfl rfl rfl (by decide) (bp_up3 rfl) ?_
    refine bp_iload_n (q := 41) 22 rfl rfl rfl rfl ?_
    refine bp_if_eq (q := 44) (tgt := 57) 23 rfl rfl (by decide) (fun z41 => ?_) (fun z => absurd z (by decide))
    refine bp_aload_n (q := 58) 30 rfl rfl rfl rfl ?_
    refine bp_bipush (v := -9) (q := 60) 31 rfl rfl (by decide) ?_
    refine bp_callU (q := 63) (ci := 6) (owner := "BracedPages$Reader") 32 rfl rfl cw_Rd_fail wd747 wd748 (Or.inr rfl) ⟨by decide, by decide⟩ rfl rfl hB1.kb wd594 wd749 rfl rfl (Nat.le_of_ble_eq_true rfl) ⟨Nat.le_of_ble_eq_true rfl, Nat.le_of_ble_eq_true rfl⟩ (s_TR_fail hB1 (fun h2 hB2 => ?_))
    refine bp_vret 33 rfl rfl  ⟨_, rfl, ?_⟩
    have e_ : tRun T th g_ (i, fa, me, ip, ot, rs, hl, ed, sy, sz, co, L, ps) = (i, -9, nI th, ip, ot, rs, hl, ed, sy, sz, co, L, ps) := tRun_bad (fun q => by rw [bI0.mp z10] at q; exact absurd q.1 (by decide))
    exact hQ _ _ (Tr.cast (τ := (th, nu1, ne1)) e_ hB2)
  · refine bp_aload_n (q := 14) 7 rfl rfl rfl rfl ?_
    refine bp_getI (q := 17) (ci := 6) (j := 3) 8 rfl rfl fl_TR_57_6 hB1.kb rfl ?_
    rw [hB1.i3]
    refine bp_if_ne (q := 20) (tgt := 38) 9 rfl rfl (by decide) (fun z17 => ?_) (fun z17 => ?_)
    · refine bp_iconst (v := 0) (q := 39) 20 rfl rfl (by decide) ?_
      refine bp_istore_n (q := 40) 21 rfl rfl rfl (by decide) (bp_up3 rfl) ?_
      refine bp_iload_n (q := 41) 22 rfl rfl rfl rfl ?_
      refine bp_if_eq (q := 44) (tgt := 57) 23 rfl rfl (by decide) (fun z41 => ?_) (fun z => absurd z (by decide))
      refine bp_aload_n (q := 58) 30 rfl rfl rfl rfl ?_
      refine bp_bipush (v := -9) (q := 60) 31 rfl rfl (by decide) ?_
      refine bp_callU (q := 63) (ci := 6) (owner := "BracedPages$Reader") 32 rfl rfl cw_Rd_fail wd747 wd748 (Or.inr rfl) ⟨by decide, by decide⟩ rfl rfl hB1.kb wd594 wd749 rfl rfl (Nat.le_of_ble_eq_true rfl) ⟨Nat.le_of_ble_eq_true rfl, Nat.le_of_ble_eq_true rfl⟩ (s_TR_fail hB1 (fun h2 hB2 => ?_))
      refine bp_vret 33 rfl rfl  ⟨_, rfl, ?_⟩
      have e_ : tRun T th g_ (i, fa, me, ip, ot, rs, hl, ed, sy, sz, co, L, ps) = (i, -9, nI th, ip, ot, rs, hl, ed, sy, sz, co, L, ps) := tRun_bad (fun q => by rw [bI1 z17] at q; exact absurd q.2.1 (by decide))
      exact hQ _ _ (Tr.cast (τ := (th, nu1, ne1)) e_ hB2)
    · refine bp_iload_n (q := 21) 10 rfl rfl rfl rfl ?_
      refine bp_iconst (v := -1) (q := 22) 11 rfl rfl (by decide) ?_
      refine bp_icmp_eq (q := 25) (tgt := 38) 12 rfl rfl (by decide) (fun z22 => ?_) (fun z22 => ?_)
      · refine bp_iconst (v := 0) (q := 39) 20 rfl rfl (by decide) ?_
        refine bp_istore_n (q := 40) 21 rfl rfl rfl (by decide) (bp_up3 rfl) ?_
        refine bp_iload_n (q := 41) 22 rfl rfl rfl rfl ?_
        refine bp_if_eq (q := 44) (tgt := 57) 23 rfl rfl (by decide) (fun z41 => ?_) (fun z => absurd z (by decide))
        refine bp_aload_n (q := 58) 30 rfl rfl rfl rfl ?_
        refine bp_bipush (v := -9) (q := 60) 31 rfl rfl (by decide) ?_
        refine bp_callU (q := 63) (ci := 6) (owner := "BracedPages$Reader") 32 rfl rfl cw_Rd_fail wd747 wd748 (Or.inr rfl) ⟨by decide, by decide⟩ rfl rfl hB1.kb wd594 wd749 rfl rfl (Nat.le_of_ble_eq_true rfl) ⟨Nat.le_of_ble_eq_true rfl, Nat.le_of_ble_eq_true rfl⟩ (s_TR_fail hB1 (fun h2 hB2 => ?_))
        refine bp_vret 33 rfl rfl  ⟨_, rfl, ?_⟩
        have e_ : tRun T th g_ (i, fa, me, ip, ot, rs, hl, ed, sy, sz, co, L, ps) = (i, -9, nI th, ip, ot, rs, hl, ed, sy, sz, co, L, ps) := tRun_bad (fun ⟨_, _, k, q, _⟩ => by rw [q] at z22; exact absurd z22 (nI_m1 (by have := hg k q; omega)))
        exact hQ _ _ (Tr.cast (τ := (th, nu1, ne1)) e_ hB2)
      · refine bp_aload_n (q := 26) 13 rfl rfl rfl rfl ?_
        obtain ⟨g, rfl⟩ : ∃ k, g_ = some k := by
          cases g_ with
          | none => exact absurd rfl z22
          | some k => exact ⟨k, rfl⟩
        have hg5 := hg g rfl
        refine bp_getI (q := 29) (ci := 6) (j := 1) 14 rfl rfl fl_TR_54_6 hB1.kb rfl ?_
        rw [hB1.i1]
        refine bp_iload_n (q := 30) 15 rfl rfl rfl rfl ?_
        refine bp_ishr (q := 31) 16 rfl rfl ?_
        rw [show oI (some g) = nI g from rfl, sh_r ot ok.2.1 g hg5]
        refine bp_if_ne (q := 34) (tgt := 38) 17 rfl rfl (by decide) (fun z31 => ?_) (fun z31 => ?_)
        · refine bp_iconst (v := 0) (q := 39) 20 rfl rfl (by decide) ?_
          refine bp_istore_n (q := 40) 21 rfl rfl rfl (by decide) (bp_up3 rfl) ?_
          refine bp_iload_n (q := 41) 22 rfl rfl rfl rfl ?_
          refine bp_if_eq (q := 44) (tgt := 57) 23 rfl rfl (by decide) (fun z41 => ?_) (fun z => absurd z (by decide))
          refine bp_aload_n (q := 58) 30 rfl rfl rfl rfl ?_
          refine bp_bipush (v := -9) (q := 60) 31 rfl rfl (by decide) ?_
          refine bp_callU (q := 63) (ci := 6) (owner := "BracedPages$Reader") 32 rfl rfl cw_Rd_fail wd747 wd748 (Or.inr rfl) ⟨by decide, by decide⟩ rfl rfl hB1.kb wd594 wd749 rfl rfl (Nat.le_of_ble_eq_true rfl) ⟨Nat.le_of_ble_eq_true rfl, Nat.le_of_ble_eq_true rfl⟩ (s_TR_fail hB1 (fun h2 hB2 => ?_))
          refine bp_vret 33 rfl rfl  ⟨_, rfl, ?_⟩
          have e_ : tRun T th (some g) (i, fa, me, ip, ot, rs, hl, ed, sy, sz, co, L, ps) = (i, -9, nI th, ip, ot, rs, hl, ed, sy, sz, co, L, ps) := tRun_bad (fun ⟨_, _, k, q, q2, _⟩ => by cases q; exact z31 (by rw [q2]; rfl))
          exact hQ _ _ (Tr.cast (τ := (th, nu1, ne1)) e_ hB2)
        · refine bp_iconst (v := 1) (q := 35) 18 rfl rfl (by decide) ?_
          refine bp_goto (tgt := 39) 19 rfl (by decide) ?_
          refine bp_istore_n (q := 40) 21 rfl rfl rfl (by decide) (bp_up3 rfl) ?_
          refine bp_iload_n (q := 41) 22 rfl rfl rfl rfl ?_
          refine bp_if_eq (q := 44) (tgt := 57) 23 rfl rfl (by decide) (fun z => absurd z (by decide)) (fun z41 => ?_)
          refine bp_aload_n (q := 45) 24 rfl rfl rfl rfl ?_
          refine bp_getR (x := A 1) (q := 48) (ci := 6) (j := 10) 25 rfl rfl fl_TR_19_6 hB1.kb rfl hB1.r10 ?_
          refine bp_iload_n (q := 49) 26 rfl rfl rfl rfl ?_
          refine bp_callV (q := 52) (ci := 1) 27 rfl rfl cw_Row_get lk_TR_27 rfl hB1.kx wd438 wd439 rfl rfl (Nat.le_of_ble_eq_true rfl) ⟨Nat.le_of_ble_eq_true rfl, Nat.le_of_ble_eq_true rfl⟩ (s_Row_get (ro := false) hB1.tx ?_)
          refine bp_bipush (v := 62) (q := 54) 28 rfl rfl (by decide) ?_
          refine bp_icmp_eq (q := 57) (tgt := 64) 29 rfl rfl (by decide) (fun z54 => ?_) (fun z54 => ?_)
          · refine bp_aload_n (q := 65) 34 rfl rfl rfl rfl ?_
            obtain ⟨e, he, hc⟩ := (rg_oI hT (fun k hk => by have := rtE_lt hT hi4 hk; omega)).mp z54
            have hok : rtOk T i g = true := rtOk_iff.mpr ⟨e, he, hc⟩
            have y31 : ot / 2 ^ g = 0 := (nI_eq_iff (b := 0) (by have := ok.2.1; have := Nat.div_le_self ot (2 ^ g); omega) (by decide)).mp z31
            have hv : g = 3 ∨ g = 4 → nu1 = tnV T (i + 3) := fun q => hnu1 (q.elim (fun q => Or.inl (by rw [q])) (fun q => Or.inr (by rw [q]))) (by rw [he]; simp)
            have hnub : g = 3 → nu1 < 1000000 ∨ nu1 = 4294967295 := fun q => by rw [hv (Or.inl q)]; exact tnV_lt _ _
            have e5 : lokO g nu1 = lokO g (tnV T (i + 3)) := by
              by_cases q : g = 3 ∨ g = 4
              · rw [hv q]
              · unfold lokO; rw [if_neg (fun z => q (Or.inl z)), if_neg (fun z => q (Or.inr z)), if_neg (fun z => q (Or.inl z)), if_neg (fun z => q (Or.inr z))]
            have e3 : (if g = 3 then nu1 else sz) = (if g = 3 then tnV T (i + 3) else sz) := by
              split
              · rename_i q; exact hv (Or.inl q)
              · rfl
            have e4 : (if g = 4 then nu1 else co) = (if g = 4 then tnV T (i + 3) else co) := by
              split
              · rename_i q; exact hv (Or.inr q)
              · rfl
            refine bp_iload_n (q := 66) 35 rfl rfl rfl rfl ?_
            refine bp_callV (q := 69) (ci := 6) 36 rfl rfl cw_TR_setLook lk_TR_115 rfl hB1.kb wd782 wd30 rfl rfl (Nat.le_of_ble_eq_true rfl) ⟨Nat.le_of_ble_eq_true rfl, Nat.le_of_ble_eq_true rfl⟩ (s_TR_setLook (g := g) hB1 hg5 ok.2.2.2.1 hnub (fun h2 hB2 => ?_))
            refine bp_if_ne (q := 72) (tgt := 79) 37 rfl rfl (by decide) (fun z69 => ?_) (fun z69 => ?_)
            · refine bp_aload_n (q := 80) 42 rfl rfl rfl rfl ?_
              refine bp_getI (q := 83) (ci := 6) (j := 1) 43 rfl rfl fl_TR_54_6 hB2.kb rfl ?_
              rw [hB2.i1]
              refine bp_if_ne (q := 86) (tgt := 94) 44 rfl rfl (by decide) (fun z83 => ?_) (fun z83 => ?_)
              · refine bp_aload_n (q := 95) 49 rfl rfl rfl rfl ?_
                refine bp_dup (q := 96) 50 rfl rfl rfl ?_
                refine bp_getI (q := 99) (ci := 6) (j := 1) 51 rfl rfl fl_TR_54_6 hB2.kb rfl ?_
                rw [hB2.i1]
                refine bp_iconst (v := 1) (q := 100) 52 rfl rfl (by decide) ?_
                refine bp_iload_n (q := 101) 53 rfl rfl rfl rfl ?_
                refine bp_ishl (q := 102) 54 rfl rfl ?_
                refine bp_iadd (q := 103) 55 rfl rfl ?_
                refine bp_putI (q := 106) (ci := 6) (j := 1) 56 rfl rfl fl_TR_54_6 cl6 hB2.kb (fun r hr => by cases hr; rfl) (by decide) rfl rfl ?_
                refine bp_nx (X := fun h3 => TrX A P T h0 h3 i fa me ip (ot + 2 ^ g) rs hl ed (if g = 3 ∨ g = 4 then sy else stS sy (2 ^ g) false) (if g = 3 then nu1 else sz) (if g = 4 then nu1 else co) L ps th nu1 ne1) (hB2.s1 (by rw [sh_l g hg5]; exact nI_add _ _)) (fun h3 hB3 => ?_)
                refine bp_aload_n (q := 107) 57 rfl rfl rfl rfl ?_
                refine bp_iload_n (q := 108) 58 rfl rfl rfl rfl ?_
                refine bp_iconst (v := 1) (q := 109) 59 rfl rfl (by decide) ?_
                refine bp_iadd (q := 110) 60 rfl rfl ?_
                refine bp_putI (q := 113) (ci := 6) (j := 12) 61 rfl rfl fl_TR_23_6 cl6 hB3.kb (fun r hr => by cases hr; rfl) (by decide) rfl rfl ?_
                refine bp_nx (X := fun h4 => TrX A P T h0 h4 (e + 1) fa me ip (ot + 2 ^ g) rs hl ed (if g = 3 ∨ g = 4 then sy else stS sy (2 ^ g) false) (if g = 3 then nu1 else sz) (if g = 4 then nu1 else co) L ps th nu1 ne1) (hB3.s12 (by rw [he]; exact nI_1 _)) (fun h4 hB4 => ?_)
                refine bp_vret 62 rfl rfl  ⟨_, rfl, ?_⟩
                have yn : ¬ (ip = false ∨ hl = true ∨ ot / 2 ^ g ≠ 0 ∨ rtOk T i g = false) := fun q => by
                  rw [bI1 z10, bI0.mp z17, y31, hok] at q
                  simp at q
                have yl : ¬ lokO g (tnV T (i + 3)) = false := by rw [← e5, bI1 z69]; decide
                have e_ : tRun T th (some g) (i, fa, me, ip, ot, rs, hl, ed, sy, sz, co, L, ps) = ((rtE T i (some g)).getD 0 + 1, fa, me, ip, ot + 2 ^ g, if ot = 0 then th else rs, hl, ed, if g = 3 ∨ g = 4 then sy else stS sy (2 ^ g) false, if g = 3 then tnV T (i + 3) else sz, if g = 4 then tnV T (i + 3) else co, L, ps) := (if_neg yn).trans (if_neg yl)
                have er : (if ot = 0 then th else rs) = rs := if_neg (show ¬ ot = 0 from fun q => z83 (by rw [q]; rfl))
                have ei : (rtE T i (some g)).getD 0 + 1 = e + 1 := by rw [he]; rfl
                rw [← e3, ← e4, er, ei] at e_
                exact hQ _ _ (Tr.cast (τ := (th, nu1, ne1)) e_ hB4)
              · refine bp_aload_n (q := 87) 45 rfl rfl rfl rfl ?_
                refine bp_aload_n (q := 88) 46 rfl rfl rfl rfl ?_
                refine bp_getI (q := 91) (ci := 6) (j := 13) 47 rfl rfl fl_TR_119_6 hB2.kb rfl ?_
                rw [hB2.i13]
                refine bp_putI (q := 94) (ci := 6) (j := 2) 48 rfl rfl fl_TR_122_6 cl6 hB2.kb (fun r hr => by cases hr; rfl) (by decide) rfl rfl ?_
                refine bp_nx (X := fun h3 => TrX A P T h0 h3 i fa me ip ot th hl ed (if g = 3 ∨ g = 4 then sy else stS sy (2 ^ g) false) (if g = 3 then nu1 else sz) (if g = 4 then nu1 else co) L ps th nu1 ne1) (hB2.s2 rfl) (fun h3 hB3 => ?_)
                refine bp_aload_n (q := 95) 49 rfl rfl rfl rfl ?_
                refine bp_dup (q := 96) 50 rfl rfl rfl ?_
                refine bp_getI (q := 99) (ci := 6) (j := 1) 51 rfl rfl fl_TR_54_6 hB3.kb rfl ?_
                rw [hB3.i1]
                refine bp_iconst (v := 1) (q := 100) 52 rfl rfl (by decide) ?_
                refine bp_iload_n (q := 101) 53 rfl rfl rfl rfl ?_
                refine bp_ishl (q := 102) 54 rfl rfl ?_
                refine bp_iadd (q := 103) 55 rfl rfl ?_
                refine bp_putI (q := 106) (ci := 6) (j := 1) 56 rfl rfl fl_TR_54_6 cl6 hB3.kb (fun r hr => by cases hr; rfl) (by decide) rfl rfl ?_
                refine bp_nx (X := fun h4 => TrX A P T h0 h4 i fa me ip (ot + 2 ^ g) th hl ed (if g = 3 ∨ g = 4 then sy else stS sy (2 ^ g) false) (if g = 3 then nu1 else sz) (if g = 4 then nu1 else co) L ps th nu1 ne1) (hB3.s1 (by rw [sh_l g hg5]; exact nI_add _ _)) (fun h4 hB4 => ?_)
                refine bp_aload_n (q := 107) 57 rfl rfl rfl rfl ?_
                refine bp_iload_n (q := 108) 58 rfl rfl rfl rfl ?_
                refine bp_iconst (v := 1) (q := 109) 59 rfl rfl (by decide) ?_
                refine bp_iadd (q := 110) 60 rfl rfl ?_
                refine bp_putI (q := 113) (ci := 6) (j := 12) 61 rfl rfl fl_TR_23_6 cl6 hB4.kb (fun r hr => by cases hr; rfl) (by decide) rfl rfl ?_
                refine bp_nx (X := fun h5 => TrX A P T h0 h5 (e + 1) fa me ip (ot + 2 ^ g) th hl ed (if g = 3 ∨ g = 4 then sy else stS sy (2 ^ g) false) (if g = 3 then nu1 else sz) (if g = 4 then nu1 else co) L ps th nu1 ne1) (hB4.s12 (by rw [he]; exact nI_1 _)) (fun h5 hB5 => ?_)
                refine bp_vret 62 rfl rfl  ⟨_, rfl, ?_⟩
                have yn : ¬ (ip = false ∨ hl = true ∨ ot / 2 ^ g ≠ 0 ∨ rtOk T i g = false) := fun q => by
                  rw [bI1 z10, bI0.mp z17, y31, hok] at q
                  simp at q
                have yl : ¬ lokO g (tnV T (i + 3)) = false := by rw [← e5, bI1 z69]; decide
                have e_ : tRun T th (some g) (i, fa, me, ip, ot, rs, hl, ed, sy, sz, co, L, ps) = ((rtE T i (some g)).getD 0 + 1, fa, me, ip, ot + 2 ^ g, if ot = 0 then th else rs, hl, ed, if g = 3 ∨ g = 4 then sy else stS sy (2 ^ g) false, if g = 3 then tnV T (i + 3) else sz, if g = 4 then tnV T (i + 3) else co, L, ps) := (if_neg yn).trans (if_neg yl)
                have er : (if ot = 0 then th else rs) = th := if_pos ((nI_eq_iff (b := 0) (by have := ok.2.1; omega) (by decide)).mp z83)
                have ei : (rtE T i (some g)).getD 0 + 1 = e + 1 := by rw [he]; rfl
                rw [← e3, ← e4, er, ei] at e_
                exact hQ _ _ (Tr.cast (τ := (th, nu1, ne1)) e_ hB5)
            · refine bp_aload_n (q := 73) 38 rfl rfl rfl rfl ?_
              refine bp_bipush (v := -5) (q := 75) 39 rfl rfl (by decide) ?_
              refine bp_callU (q := 78) (ci := 6) (owner := "BracedPages$Reader") 40 rfl rfl cw_Rd_fail wd747 wd748 (Or.inr rfl) ⟨by decide, by decide⟩ rfl rfl hB2.kb wd594 wd749 rfl rfl (Nat.le_of_ble_eq_true rfl) ⟨Nat.le_of_ble_eq_true rfl, Nat.le_of_ble_eq_true rfl⟩ (s_TR_fail hB2 (fun h3 hB3 => ?_))
              refine bp_vret 41 rfl rfl  ⟨_, rfl, ?_⟩
              have yn : ¬ (ip = false ∨ hl = true ∨ ot / 2 ^ g ≠ 0 ∨ rtOk T i g = false) := fun q => by
                rw [bI1 z10, bI0.mp z17, y31, hok] at q
                simp at q
              have yl : lokO g (tnV T (i + 3)) = false := by rw [← e5]; exact bI0.mp z69
              have yg : g = 3 ∨ g = 4 := by
                by_cases q : g = 3 ∨ g = 4
                · exact q
                · unfold lokO at yl; rw [if_neg (fun z => q (Or.inl z)), if_neg (fun z => q (Or.inr z))] at yl; cases yl
              have e_ : tRun T th (some g) (i, fa, me, ip, ot, rs, hl, ed, sy, sz, co, L, ps) = (i, -5, nI th, ip, ot, rs, hl, ed, sy, if g = 3 then tnV T (i + 3) else sz, if g = 4 then tnV T (i + 3) else co, L, ps) := (if_neg yn).trans (if_pos yl)
              rw [← e3, ← e4] at e_
              rw [if_pos yg] at hB3
              exact hQ _ _ (Tr.cast (τ := (th, nu1, ne1)) e_ hB3)
          · refine bp_aload_n (q := 58) 30 rfl rfl rfl rfl ?_
            refine bp_bipush (v := -9) (q := 60) 31 rfl rfl (by decide) ?_
            refine bp_callU (q := 63) (ci := 6) (owner := "BracedPages$Reader") 32 rfl rfl cw_Rd_fail wd747 wd748 (Or.inr rfl) ⟨by decide, by decide⟩ rfl rfl hB1.kb wd594 wd749 rfl rfl (Nat.le_of_ble_eq_true rfl) ⟨Nat.le_of_ble_eq_true rfl, Nat.le_of_ble_eq_true rfl⟩ (s_TR_fail hB1 (fun h2 hB2 => ?_))
            refine bp_vret 33 rfl rfl  ⟨_, rfl, ?_⟩
            have e_ : tRun T th (some g) (i, fa, me, ip, ot, rs, hl, ed, sy, sz, co, L, ps) = (i, -9, nI th, ip, ot, rs, hl, ed, sy, sz, co, L, ps) := tRun_bad (fun ⟨_, _, k, q, _, q3⟩ => by cases q; exact z54 ((rg_oI hT (fun k hk => by have := rtE_lt hT hi4 hk; omega)).mpr (rtOk_iff.mp q3)))
            exact hQ _ _ (Tr.cast (τ := (th, nu1, ne1)) e_ hB2)
set_option maxRecDepth 100000 in
set_option maxHeartbeats 4000000 in
theorem s_TR_endRunTag {g : Nat} (hB0 : TrX A P T h0 h i fa me ip ot rs hl ed sy sz co L ps th nu ne) (hg : g < 5) (h32 : ot < 32) (hQ : ∀ h' τ', Tr A P T h0 h' (tTagE th g (i, fa, me, ip, ot, rs, hl, ed, sy, sz, co, L, ps)) τ' → Q none h' c s) : bp_AM l G H0 (1, 21, false, false) M_TR_endRunTag h c s [.ref (A 0), .int (nI g)] Q := by
  refine bp_of (ls := [some (.ref (A 0)), some (.int (nI g)), none]) (by decide) dt_TR_endRunTag (Nat.le_of_ble_eq_true rfl) (fun q hq => hq) false ?_
  refine bp_aload_n (q := 1) 0 rfl rfl rfl rfl ?_
  refine bp_getI (q := 4) (ci := 6) (j := 1) 1 rfl rfl fl_TR_54_6 hB0.kb rfl ?_
  rw [hB0.i1]
  refine bp_iload_n (q := 5) 2 rfl rfl rfl rfl ?_
  refine bp_ishr (q := 6) 3 rfl rfl ?_
  rw [sh_r ot h32 g hg]
  refine bp_iconst (v := 1) (q := 7) 4 rfl rfl (by decide) ?_
  refine bp_icmp_ne (q := 10) (tgt := 14) 5 rfl rfl (by decide) (fun z7 => ?_) (fun z7 => ?_)
  · refine bp_iconst (v := 0) (q := 15) 8 rfl rfl (by decide) ?_
    refine bp_istore_n (q := 16) 9 rfl rfl rfl (by decide) (bp_up2 rfl) ?_
    refine bp_iload_n (q := 17) 10 rfl rfl rfl rfl ?_
    refine bp_if_ne (q := 20) (tgt := 27) 11 rfl rfl (by decide) (fun z => absurd z (by decide)) (fun z17 => ?_)
    refine bp_aload_n (q := 21) 12 rfl rfl rfl rfl ?_
    refine bp_bipush (v := -9) (q := 23) 13 rfl rfl (by decide) ?_
    refine bp_callU (q := 26) (ci := 6) (owner := "BracedPages$Reader") 14 rfl rfl cw_Rd_fail wd747 wd748 (Or.inr rfl) ⟨by decide, by decide⟩ rfl rfl hB0.kb wd594 wd749 rfl rfl (Nat.le_of_ble_eq_true rfl) ⟨Nat.le_of_ble_eq_true rfl, Nat.le_of_ble_eq_true rfl⟩ (s_TR_fail hB0 (fun h1 hB1 => ?_))
    refine bp_vret 15 rfl rfl  ⟨_, rfl, ?_⟩
    have y7 : ¬ ot / 2 ^ g = 1 := fun q => z7 (by rw [q]; rfl)
    have e_ : tTagE th g (i, fa, me, ip, ot, rs, hl, ed, sy, sz, co, L, ps) = (i, -9, nI th, ip, ot, rs, hl, ed, sy, sz, co, L, ps) := if_neg y7
    exact hQ _ _ (Tr.cast (τ := (th, nu, ne)) e_ hB1)
  · refine bp_iconst (v := 1) (q := 11) 6 rfl rfl (by decide) ?_
    refine bp_goto (tgt := 15) 7 rfl (by decide) ?_
    refine bp_istore_n (q := 16) 9 rfl rfl rfl (by decide) (bp_up2 rfl) ?_
    refine bp_iload_n (q := 17) 10 rfl rfl rfl rfl ?_
    refine bp_if_ne (q := 20) (tgt := 27) 11 rfl rfl (by decide) (fun z17 => ?_) (fun z => absurd z (by decide))
    refine bp_aload_n (q := 28) 16 rfl rfl rfl rfl ?_
    have y7 : ot / 2 ^ g = 1 := (nI_eq_iff (b := 1) (by have := Nat.div_le_self ot (2 ^ g); omega) (by decide)).mp z7
    have hle : 2 ^ g ≤ ot := by
      by_cases q : 2 ^ g ≤ ot
      · exact q
      · rw [Nat.div_eq_of_lt (by omega)] at y7; cases y7
    refine bp_dup (q := 29) 17 rfl rfl rfl ?_
    refine bp_getI (q := 32) (ci := 6) (j := 1) 18 rfl rfl fl_TR_54_6 hB0.kb rfl ?_
    rw [hB0.i1]
    refine bp_iconst (v := 1) (q := 33) 19 rfl rfl (by decide) ?_
    refine bp_iload_n (q := 34) 20 rfl rfl rfl rfl ?_
    refine bp_ishl (q := 35) 21 rfl rfl ?_
    refine bp_isub (q := 36) 22 rfl rfl ?_
    refine bp_putI (q := 39) (ci := 6) (j := 1) 23 rfl rfl fl_TR_54_6 cl6 hB0.kb (fun r hr => by cases hr; rfl) (by decide) rfl rfl ?_
    refine bp_nx (X := fun h1 => TrX A P T h0 h1 i fa me ip (ot - 2 ^ g) rs hl ed sy sz co L ps th nu ne) (hB0.s1 (by rw [sh_l g hg]; exact nI_sub hle)) (fun h1 hB1 => ?_)
    refine bp_aload_n (q := 40) 24 rfl rfl rfl rfl ?_
    refine bp_iconst (v := 1) (q := 41) 25 rfl rfl (by decide) ?_
    refine bp_putI (q := 44) (ci := 6) (j := 4) 26 rfl rfl fl_TR_60_6 cl6 hB1.kb (fun r hr => by cases hr; rfl) (by decide) rfl rfl ?_
    refine bp_nx (X := fun h2 => TrX A P T h0 h2 i fa me ip (ot - 2 ^ g) rs hl true sy sz co L ps th nu ne) (hB1.s4 rfl) (fun h2 hB2 => ?_)
    refine bp_aload_n (q := 45) 27 rfl rfl rfl rfl ?_
    refine bp_getI (q := 48) (ci := 6) (j := 1) 28 rfl rfl fl_TR_54_6 hB2.kb rfl ?_
    rw [hB2.i1]
    refine bp_if_ne (q := 51) (tgt := 55) 29 rfl rfl (by decide) (fun z48 => ?_) (fun z48 => ?_)
    · refine bp_aload_n (q := 56) 32 rfl rfl rfl rfl ?_
      refine bp_dup (q := 57) 33 rfl rfl rfl ?_
      refine bp_getI (q := 60) (ci := 6) (j := 12) 34 rfl rfl fl_TR_23_6 hB2.kb rfl ?_
      rw [hB2.i12]
      refine bp_iconst (v := 4) (q := 61) 35 rfl rfl (by decide) ?_
      refine bp_iadd (q := 62) 36 rfl rfl ?_
      refine bp_putI (q := 65) (ci := 6) (j := 12) 37 rfl rfl fl_TR_23_6 cl6 hB2.kb (fun r hr => by cases hr; rfl) (by decide) rfl rfl ?_
      refine bp_nx (X := fun h3 => TrX A P T h0 h3 (i + 4) fa me ip (ot - 2 ^ g) rs hl true sy sz co L ps th nu ne) (hB2.s12 (nI_add _ 4)) (fun h3 hB3 => ?_)
      refine bp_vret 38 rfl rfl  ⟨_, rfl, ?_⟩
      have y48 : ¬ ot - 2 ^ g = 0 := fun q => z48 (by rw [q]; rfl)
      have e_ : tTagE th g (i, fa, me, ip, ot, rs, hl, ed, sy, sz, co, L, ps) = (i + 4, fa, me, ip, ot - 2 ^ g, rs, hl, true, sy, sz, co, L, ps) := (if_pos y7).trans (if_neg y48)
      exact hQ _ _ (Tr.cast (τ := (th, nu, ne)) e_ hB3)
    · refine bp_aload_n (q := 52) 30 rfl rfl rfl rfl ?_
      refine bp_callV (q := 55) (ci := 6) 31 rfl rfl cw_TR_endRun lk_TR_15 rfl hB2.kb wd452 wd0 rfl rfl (Nat.le_of_ble_eq_true rfl) ⟨Nat.le_of_ble_eq_true rfl, Nat.le_of_ble_eq_true rfl⟩ (s_TR_endRun hB2 (fun h3 hB3 => ?_))
      refine bp_aload_n (q := 56) 32 rfl rfl rfl rfl ?_
      refine bp_dup (q := 57) 33 rfl rfl rfl ?_
      refine bp_getI (q := 60) (ci := 6) (j := 12) 34 rfl rfl fl_TR_23_6 hB3.kb rfl ?_
      rw [hB3.i12]
      refine bp_iconst (v := 4) (q := 61) 35 rfl rfl (by decide) ?_
      refine bp_iadd (q := 62) 36 rfl rfl ?_
      refine bp_putI (q := 65) (ci := 6) (j := 12) 37 rfl rfl fl_TR_23_6 cl6 hB3.kb (fun r hr => by cases hr; rfl) (by decide) rfl rfl ?_
      refine bp_nx (X := fun h4 => TrX A P T h0 h4 (i + 4) fa me ip 0 rs false false 0 12 0 L ps th nu ne) (hB3.s12 (nI_add _ 4)) (fun h4 hB4 => ?_)
      refine bp_vret 38 rfl rfl  ⟨_, rfl, ?_⟩
      have y48 : ot - 2 ^ g = 0 := (nI_eq_iff (b := 0) (by have := Nat.sub_le ot (2 ^ g); omega) (by decide)).mp z48
      have e_ : tTagE th g (i, fa, me, ip, ot, rs, hl, ed, sy, sz, co, L, ps) = (i + 4, fa, me, ip, 0, rs, false, false, 0, 12, 0, L, ps) := (if_pos y7).trans (if_pos y48)
      exact hQ _ _ (Tr.cast (τ := (th, nu, ne)) e_ hB4)
set_option maxRecDepth 100000 in
set_option maxHeartbeats 4000000 in
theorem s_TR_endParagraph  (hB0 : TrX A P T h0 h i fa me ip ot rs hl ed sy sz co L ps th nu ne) (h32 : ot < 32) (hQ : ∀ h' τ', Tr A P T h0 h' (tParE th (i, fa, me, ip, ot, rs, hl, ed, sy, sz, co, L, ps)) τ' → Q none h' c s) : bp_AM l G H0 (1, 21, false, false) M_TR_endParagraph h c s [.ref (A 0)] Q := by
  refine bp_of (ls := [some (.ref (A 0))]) (by decide) dt_TR_endParagraph (Nat.le_of_ble_eq_true rfl) (fun q hq => hq) false ?_
  refine bp_aload_n (q := 1) 0 rfl rfl rfl rfl ?_
  refine bp_getI (q := 4) (ci := 6) (j := 0) 1 rfl rfl fl_TR_9_6 hB0.kb rfl ?_
  rw [hB0.i0]
  refine bp_if_eq (q := 7) (tgt := 14) 2 rfl rfl (by decide) (fun z4 => ?_) (fun z4 => ?_)
  · refine bp_aload_n (q := 15) 6 rfl rfl rfl rfl ?_
    refine bp_bipush (v := -9) (q := 17) 7 rfl rfl (by decide) ?_
    refine bp_callU (q := 20) (ci := 6) (owner := "BracedPages$Reader") 8 rfl rfl cw_Rd_fail wd747 wd748 (Or.inr rfl) ⟨by decide, by decide⟩ rfl rfl hB0.kb wd594 wd749 rfl rfl (Nat.le_of_ble_eq_true rfl) ⟨Nat.le_of_ble_eq_true rfl, Nat.le_of_ble_eq_true rfl⟩ (s_TR_fail hB0 (fun h1 hB1 => ?_))
    refine bp_vret 9 rfl rfl  ⟨_, rfl, ?_⟩
    have e_ : tParE th (i, fa, me, ip, ot, rs, hl, ed, sy, sz, co, L, ps) = (i, -9, nI th, ip, ot, rs, hl, ed, sy, sz, co, L, ps) := if_pos (Or.inl (bI0.mp z4))
    exact hQ _ _ (Tr.cast (τ := (th, nu, ne)) e_ hB1)
  · refine bp_aload_n (q := 8) 3 rfl rfl rfl rfl ?_
    refine bp_getI (q := 11) (ci := 6) (j := 1) 4 rfl rfl fl_TR_54_6 hB0.kb rfl ?_
    rw [hB0.i1]
    refine bp_if_eq (q := 14) (tgt := 21) 5 rfl rfl (by decide) (fun z11 => ?_) (fun z11 => ?_)
    · refine bp_aload_n (q := 22) 10 rfl rfl rfl rfl ?_
      refine bp_iconst (v := 0) (q := 23) 11 rfl rfl (by decide) ?_
      refine bp_putI (q := 26) (ci := 6) (j := 0) 12 rfl rfl fl_TR_9_6 cl6 hB0.kb (fun r hr => by cases hr; rfl) (by decide) rfl rfl ?_
      refine bp_nx (X := fun h1 => TrX A P T h0 h1 i fa me false ot rs hl ed sy sz co L ps th nu ne) (hB0.s0 rfl) (fun h1 hB1 => ?_)
      refine bp_aload_n (q := 27) 13 rfl rfl rfl rfl ?_
      refine bp_dup (q := 28) 14 rfl rfl rfl ?_
      refine bp_getI (q := 31) (ci := 6) (j := 12) 15 rfl rfl fl_TR_23_6 hB1.kb rfl ?_
      rw [hB1.i12]
      refine bp_iconst (v := 4) (q := 32) 16 rfl rfl (by decide) ?_
      refine bp_iadd (q := 33) 17 rfl rfl ?_
      refine bp_putI (q := 36) (ci := 6) (j := 12) 18 rfl rfl fl_TR_23_6 cl6 hB1.kb (fun r hr => by cases hr; rfl) (by decide) rfl rfl ?_
      refine bp_nx (X := fun h2 => TrX A P T h0 h2 (i + 4) fa me false ot rs hl ed sy sz co L ps th nu ne) (hB1.s12 (nI_add _ 4)) (fun h2 hB2 => ?_)
      refine bp_vret 19 rfl rfl  ⟨_, rfl, ?_⟩
      have e_ : tParE th (i, fa, me, ip, ot, rs, hl, ed, sy, sz, co, L, ps) = (i + 4, fa, me, false, ot, rs, hl, ed, sy, sz, co, L, ps) := if_neg (fun q => q.elim (fun q => by rw [bI1 z4] at q; cases q) (fun q => q ((nI_eq_iff (b := 0) (by omega) (by decide)).mp z11)))
      exact hQ _ _ (Tr.cast (τ := (th, nu, ne)) e_ hB2)
    · refine bp_aload_n (q := 15) 6 rfl rfl rfl rfl ?_
      refine bp_bipush (v := -9) (q := 17) 7 rfl rfl (by decide) ?_
      refine bp_callU (q := 20) (ci := 6) (owner := "BracedPages$Reader") 8 rfl rfl cw_Rd_fail wd747 wd748 (Or.inr rfl) ⟨by decide, by decide⟩ rfl rfl hB0.kb wd594 wd749 rfl rfl (Nat.le_of_ble_eq_true rfl) ⟨Nat.le_of_ble_eq_true rfl, Nat.le_of_ble_eq_true rfl⟩ (s_TR_fail hB0 (fun h1 hB1 => ?_))
      refine bp_vret 9 rfl rfl  ⟨_, rfl, ?_⟩
      have e_ : tParE th (i, fa, me, ip, ot, rs, hl, ed, sy, sz, co, L, ps) = (i, -9, nI th, ip, ot, rs, hl, ed, sy, sz, co, L, ps) := if_pos (Or.inr (fun q => z11 (by rw [q]; rfl)))
      exact hQ _ _ (Tr.cast (τ := (th, nu, ne)) e_ hB1)
set_option maxRecDepth 100000 in
set_option maxHeartbeats 4000000 in
theorem s_TR_readEndTag  (hB0 : TrX A P T h0 h i fa me ip ot rs hl ed sy sz co L ps th nu ne) (hT : okT T) (hi4 : i ≤ 400) (ok : okY T i fa ip ot rs sy sz co L ps) (hQ : ∀ h' τ', Tr A P T h0 h' (tEndTag T th (i, fa, me, ip, ot, rs, hl, ed, sy, sz, co, L, ps)) τ' → Q none h' c s) : bp_AM l G H0 (2, 43, false, false) M_TR_readEndTag h c s [.ref (A 0)] Q := by
  refine bp_of (ls := [some (.ref (A 0)), none, none]) (by decide) dt_TR_readEndTag (Nat.le_of_ble_eq_true rfl) (fun q hq => hq) false ?_
  refine bp_aload_n (q := 1) 0 rfl rfl rfl rfl ?_
  refine bp_getR (x := A 1) (q := 4) (ci := 6) (j := 10) 1 rfl rfl fl_TR_19_6 hB0.kb rfl hB0.r10 ?_
  refine bp_aload_n (q := 5) 2 rfl rfl rfl rfl ?_
  refine bp_getI (q := 8) (ci := 6) (j := 12) 3 rfl rfl fl_TR_23_6 hB0.kb rfl ?_
  rw [hB0.i12]
  refine bp_iconst (v := 2) (q := 9) 4 rfl rfl (by decide) ?_
  refine bp_iadd (q := 10) 5 rfl rfl ?_
  rw [show nI i + 2 = nI (i + 2) from nI_add i 2]
  refine bp_callV (q := 13) (ci := 1) 6 rfl rfl cw_Row_get lk_TR_27 rfl hB0.kx wd438 wd439 rfl rfl (Nat.le_of_ble_eq_true rfl) ⟨Nat.le_of_ble_eq_true rfl, Nat.le_of_ble_eq_true rfl⟩ (s_Row_get (ro := false) hB0.tx ?_)
  refine bp_istore_n (q := 14) 7 rfl rfl rfl (by decide) (bp_up1 rfl) ?_
  refine bp_iload_n (q := 15) 8 rfl rfl rfl rfl ?_
  refine bp_callS (q := 18) 9 rfl rfl cw_TR_tagOf lk_TR_77 wd757 rfl rfl (Nat.le_of_ble_eq_true rfl) ⟨Nat.le_of_ble_eq_true rfl, Nat.le_of_ble_eq_true rfl⟩ (s_TR_tagOf (ro := false) (k := i + 2) hT (by omega) ?_)
  refine bp_istore_n (q := 19) 10 rfl rfl rfl (by decide) (bp_up2 rfl) ?_
  refine bp_aload_n (q := 20) 11 rfl rfl rfl rfl ?_
  refine bp_getR (x := A 1) (q := 23) (ci := 6) (j := 10) 12 rfl rfl fl_TR_19_6 hB0.kb rfl hB0.r10 ?_
  refine bp_aload_n (q := 24) 13 rfl rfl rfl rfl ?_
  refine bp_getI (q := 27) (ci := 6) (j := 12) 14 rfl rfl fl_TR_23_6 hB0.kb rfl ?_
  rw [hB0.i12]
  refine bp_iconst (v := 3) (q := 28) 15 rfl rfl (by decide) ?_
  refine bp_iadd (q := 29) 16 rfl rfl ?_
  rw [show nI i + 3 = nI (i + 3) from nI_add i 3]
  refine bp_callV (q := 32) (ci := 1) 17 rfl rfl cw_Row_get lk_TR_27 rfl hB0.kx wd438 wd439 rfl rfl (Nat.le_of_ble_eq_true rfl) ⟨Nat.le_of_ble_eq_true rfl, Nat.le_of_ble_eq_true rfl⟩ (s_Row_get (ro := false) hB0.tx ?_)
  refine bp_bipush (v := 62) (q := 34) 18 rfl rfl (by decide) ?_
  refine bp_icmp_ne (q := 37) (tgt := 48) 19 rfl rfl (by decide) (fun z34 => ?_) (fun z34 => ?_)
  · refine bp_aload_n (q := 49) 26 rfl rfl rfl rfl ?_
    refine bp_bipush (v := -9) (q := 51) 27 rfl rfl (by decide) ?_
    refine bp_callU (q := 54) (ci := 6) (owner := "BracedPages$Reader") 28 rfl rfl cw_Rd_fail wd747 wd748 (Or.inr rfl) ⟨by decide, by decide⟩ rfl rfl hB0.kb wd594 wd749 rfl rfl (Nat.le_of_ble_eq_true rfl) ⟨Nat.le_of_ble_eq_true rfl, Nat.le_of_ble_eq_true rfl⟩ (s_TR_fail hB0 (fun h1 hB1 => ?_))
    refine bp_goto (tgt := 98) 29 rfl (by decide) ?_
    refine bp_vret 49 rfl rfl  ⟨_, rfl, ?_⟩
    have e_ : tEndTag T th (i, fa, me, ip, ot, rs, hl, ed, sy, sz, co, L, ps) = (i, -9, nI th, ip, ot, rs, hl, ed, sy, sz, co, L, ps) := if_pos (Or.inl (mt (rg_is hT (k := i + 3) (v := 62) (by omega) (by decide) (by decide)).mpr z34))
    exact hQ _ _ (Tr.cast (τ := (th, nu, ne)) e_ hB1)
  · refine bp_iload_n (q := 38) 20 rfl rfl rfl rfl ?_
    refine bp_bipush (v := 112) (q := 40) 21 rfl rfl (by decide) ?_
    refine bp_icmp_eq (q := 43) (tgt := 57) 22 rfl rfl (by decide) (fun z40 => ?_) (fun z40 => ?_)
    · refine bp_aload_n (q := 58) 30 rfl rfl rfl rfl ?_
      refine bp_getI (q := 61) (ci := 6) (j := 1) 31 rfl rfl fl_TR_54_6 hB0.kb rfl ?_
      rw [hB0.i1]
      refine bp_if_eq (q := 64) (tgt := 80) 32 rfl rfl (by decide) (fun z61 => ?_) (fun z61 => ?_)
      · refine bp_iload_n (q := 81) 40 rfl rfl rfl rfl ?_
        refine bp_bipush (v := 112) (q := 83) 41 rfl rfl (by decide) ?_
        refine bp_icmp_ne (q := 86) (tgt := 93) 42 rfl rfl (by decide) (fun z83 => ?_) (fun z83 => ?_)
        · refine bp_aload_n (q := 94) 46 rfl rfl rfl rfl ?_
          refine bp_iload_n (q := 95) 47 rfl rfl rfl rfl ?_
          obtain ⟨g, hg⟩ : ∃ g, tgO (tc T (i + 2)) = some g := by
            cases e9 : tgO (tc T (i + 2)) with
            | none => exact absurd ((rg_is hT (k := i + 2) (v := 112) (by omega) (by decide) (by decide)).mp z40) (mt (rg_is hT (k := i + 2) (v := 112) (by omega) (by decide) (by decide)).mpr z83)
            | some g => exact ⟨g, rfl⟩
          rw [hg]
          refine bp_callV (q := 98) (ci := 6) 48 rfl rfl cw_TR_endRunTag lk_TR_109 rfl hB0.kb wd765 wd26 rfl rfl (Nat.le_of_ble_eq_true rfl) ⟨Nat.le_of_ble_eq_true rfl, Nat.le_of_ble_eq_true rfl⟩ (s_TR_endRunTag hB0 (tgO_lt hg) ok.2.1 (fun h1 τ1 hX => ?_))
          refine bp_vret 49 rfl rfl  ⟨_, rfl, ?_⟩
          have y34 : tc T (i + 3) = 62 := (rg_is hT (k := i + 3) (v := 62) (by omega) (by decide) (by decide)).mp z34
          have y0 : ¬ (tc T (i + 3) ≠ 62 ∨ (tc T (i + 2) ≠ 112 ∧ tgO (tc T (i + 2)) = none)) := fun q => q.elim (fun q => q y34) (fun q => q.1 ((rg_is hT (k := i + 2) (v := 112) (by omega) (by decide) (by decide)).mp z40))
          have e_ : tEndTag T th (i, fa, me, ip, ot, rs, hl, ed, sy, sz, co, L, ps) = tTagE th ((tgO (tc T (i + 2))).getD 0) (i, fa, me, ip, ot, rs, hl, ed, sy, sz, co, L, ps) := (if_neg y0).trans ((if_neg (fun q => q.1 ((nI_eq_iff (b := 0) (by have := ok.2.1; omega) (by decide)).mp z61))).trans (if_neg (mt (rg_is hT (k := i + 2) (v := 112) (by omega) (by decide) (by decide)).mpr z83)))
          rw [hg] at e_
          exact hQ _ _ (Tr.cast e_ hX)
        · refine bp_aload_n (q := 87) 43 rfl rfl rfl rfl ?_
          refine bp_callV (q := 90) (ci := 6) 44 rfl rfl cw_TR_endParagraph lk_TR_106 rfl hB0.kb wd761 wd25 rfl rfl (Nat.le_of_ble_eq_true rfl) ⟨Nat.le_of_ble_eq_true rfl, Nat.le_of_ble_eq_true rfl⟩ (s_TR_endParagraph hB0 ok.2.1 (fun h1 τ1 hX => ?_))
          refine bp_goto (tgt := 98) 45 rfl (by decide) ?_
          refine bp_vret 49 rfl rfl  ⟨_, rfl, ?_⟩
          have y34 : tc T (i + 3) = 62 := (rg_is hT (k := i + 3) (v := 62) (by omega) (by decide) (by decide)).mp z34
          have y0 : ¬ (tc T (i + 3) ≠ 62 ∨ (tc T (i + 2) ≠ 112 ∧ tgO (tc T (i + 2)) = none)) := fun q => q.elim (fun q => q y34) (fun q => q.1 ((rg_is hT (k := i + 2) (v := 112) (by omega) (by decide) (by decide)).mp z40))
          have e_ : tEndTag T th (i, fa, me, ip, ot, rs, hl, ed, sy, sz, co, L, ps) = tParE th (i, fa, me, ip, ot, rs, hl, ed, sy, sz, co, L, ps) := (if_neg y0).trans ((if_neg (fun q => q.1 ((nI_eq_iff (b := 0) (by have := ok.2.1; omega) (by decide)).mp z61))).trans (if_pos ((rg_is hT (k := i + 2) (v := 112) (by omega) (by decide) (by decide)).mp z83)))
          exact hQ _ _ (Tr.cast e_ hX)
      · refine bp_aload_n (q := 65) 33 rfl rfl rfl rfl ?_
        refine bp_getI (q := 68) (ci := 6) (j := 3) 34 rfl rfl fl_TR_57_6 hB0.kb rfl ?_
        rw [hB0.i3]
        refine bp_if_ne (q := 71) (tgt := 80) 35 rfl rfl (by decide) (fun z68 => ?_) (fun z68 => ?_)
        · refine bp_iload_n (q := 81) 40 rfl rfl rfl rfl ?_
          refine bp_bipush (v := 112) (q := 83) 41 rfl rfl (by decide) ?_
          refine bp_icmp_ne (q := 86) (tgt := 93) 42 rfl rfl (by decide) (fun z83 => ?_) (fun z83 => ?_)
          · refine bp_aload_n (q := 94) 46 rfl rfl rfl rfl ?_
            refine bp_iload_n (q := 95) 47 rfl rfl rfl rfl ?_
            obtain ⟨g, hg⟩ : ∃ g, tgO (tc T (i + 2)) = some g := by
              cases e9 : tgO (tc T (i + 2)) with
              | none => exact absurd ((rg_is hT (k := i + 2) (v := 112) (by omega) (by decide) (by decide)).mp z40) (mt (rg_is hT (k := i + 2) (v := 112) (by omega) (by decide) (by decide)).mpr z83)
              | some g => exact ⟨g, rfl⟩
            rw [hg]
            refine bp_callV (q := 98) (ci := 6) 48 rfl rfl cw_TR_endRunTag lk_TR_109 rfl hB0.kb wd765 wd26 rfl rfl (Nat.le_of_ble_eq_true rfl) ⟨Nat.le_of_ble_eq_true rfl, Nat.le_of_ble_eq_true rfl⟩ (s_TR_endRunTag hB0 (tgO_lt hg) ok.2.1 (fun h1 τ1 hX => ?_))
            refine bp_vret 49 rfl rfl  ⟨_, rfl, ?_⟩
            have y34 : tc T (i + 3) = 62 := (rg_is hT (k := i + 3) (v := 62) (by omega) (by decide) (by decide)).mp z34
            have y0 : ¬ (tc T (i + 3) ≠ 62 ∨ (tc T (i + 2) ≠ 112 ∧ tgO (tc T (i + 2)) = none)) := fun q => q.elim (fun q => q y34) (fun q => q.1 ((rg_is hT (k := i + 2) (v := 112) (by omega) (by decide) (by decide)).mp z40))
            have e_ : tEndTag T th (i, fa, me, ip, ot, rs, hl, ed, sy, sz, co, L, ps) = tTagE th ((tgO (tc T (i + 2))).getD 0) (i, fa, me, ip, ot, rs, hl, ed, sy, sz, co, L, ps) := (if_neg y0).trans ((if_neg (fun q => by rw [bI1 z68] at q; exact absurd q.2 (by decide))).trans (if_neg (mt (rg_is hT (k := i + 2) (v := 112) (by omega) (by decide) (by decide)).mpr z83)))
            rw [hg] at e_
            exact hQ _ _ (Tr.cast e_ hX)
          · refine bp_aload_n (q := 87) 43 rfl rfl rfl rfl ?_
            refine bp_callV (q := 90) (ci := 6) 44 rfl rfl cw_TR_endParagraph lk_TR_106 rfl hB0.kb wd761 wd25 rfl rfl (Nat.le_of_ble_eq_true rfl) ⟨Nat.le_of_ble_eq_true rfl, Nat.le_of_ble_eq_true rfl⟩ (s_TR_endParagraph hB0 ok.2.1 (fun h1 τ1 hX => ?_))
            refine bp_goto (tgt := 98) 45 rfl (by decide) ?_
            refine bp_vret 49 rfl rfl  ⟨_, rfl, ?_⟩
            have y34 : tc T (i + 3) = 62 := (rg_is hT (k := i + 3) (v := 62) (by omega) (by decide) (by decide)).mp z34
            have y0 : ¬ (tc T (i + 3) ≠ 62 ∨ (tc T (i + 2) ≠ 112 ∧ tgO (tc T (i + 2)) = none)) := fun q => q.elim (fun q => q y34) (fun q => q.1 ((rg_is hT (k := i + 2) (v := 112) (by omega) (by decide) (by decide)).mp z40))
            have e_ : tEndTag T th (i, fa, me, ip, ot, rs, hl, ed, sy, sz, co, L, ps) = tParE th (i, fa, me, ip, ot, rs, hl, ed, sy, sz, co, L, ps) := (if_neg y0).trans ((if_neg (fun q => by rw [bI1 z68] at q; exact absurd q.2 (by decide))).trans (if_pos ((rg_is hT (k := i + 2) (v := 112) (by omega) (by decide) (by decide)).mp z83)))
            exact hQ _ _ (Tr.cast e_ hX)
        · refine bp_aload_n (q := 72) 36 rfl rfl rfl rfl ?_
          refine bp_bipush (v := -10) (q := 74) 37 rfl rfl (by decide) ?_
          refine bp_callU (q := 77) (ci := 6) (owner := "BracedPages$Reader") 38 rfl rfl cw_Rd_fail wd747 wd748 (Or.inr rfl) ⟨by decide, by decide⟩ rfl rfl hB0.kb wd594 wd749 rfl rfl (Nat.le_of_ble_eq_true rfl) ⟨Nat.le_of_ble_eq_true rfl, Nat.le_of_ble_eq_true rfl⟩ (s_TR_fail hB0 (fun h1 hB1 => ?_))
          refine bp_goto (tgt := 98) 39 rfl (by decide) ?_
          refine bp_vret 49 rfl rfl  ⟨_, rfl, ?_⟩
          have y34 : tc T (i + 3) = 62 := (rg_is hT (k := i + 3) (v := 62) (by omega) (by decide) (by decide)).mp z34
          have y0 : ¬ (tc T (i + 3) ≠ 62 ∨ (tc T (i + 2) ≠ 112 ∧ tgO (tc T (i + 2)) = none)) := fun q => q.elim (fun q => q y34) (fun q => q.1 ((rg_is hT (k := i + 2) (v := 112) (by omega) (by decide) (by decide)).mp z40))
          have e_ : tEndTag T th (i, fa, me, ip, ot, rs, hl, ed, sy, sz, co, L, ps) = (i, -10, nI th, ip, ot, rs, hl, ed, sy, sz, co, L, ps) := (if_neg y0).trans (if_pos ⟨fun q => z61 (by rw [q]; rfl), bI0.mp z68⟩)
          exact hQ _ _ (Tr.cast (τ := (th, nu, ne)) e_ hB1)
    · refine bp_iload_n (q := 44) 23 rfl rfl rfl rfl ?_
      refine bp_iconst (v := -1) (q := 45) 24 rfl rfl (by decide) ?_
      refine bp_icmp_ne (q := 48) (tgt := 57) 25 rfl rfl (by decide) (fun z45 => ?_) (fun z45 => ?_)
      · refine bp_aload_n (q := 58) 30 rfl rfl rfl rfl ?_
        refine bp_getI (q := 61) (ci := 6) (j := 1) 31 rfl rfl fl_TR_54_6 hB0.kb rfl ?_
        rw [hB0.i1]
        refine bp_if_eq (q := 64) (tgt := 80) 32 rfl rfl (by decide) (fun z61 => ?_) (fun z61 => ?_)
        · refine bp_iload_n (q := 81) 40 rfl rfl rfl rfl ?_
          refine bp_bipush (v := 112) (q := 83) 41 rfl rfl (by decide) ?_
          refine bp_icmp_ne (q := 86) (tgt := 93) 42 rfl rfl (by decide) (fun z83 => ?_) (fun z83 => ?_)
          · refine bp_aload_n (q := 94) 46 rfl rfl rfl rfl ?_
            refine bp_iload_n (q := 95) 47 rfl rfl rfl rfl ?_
            obtain ⟨g, hg⟩ : ∃ g, tgO (tc T (i + 2)) = some g := by
              cases e9 : tgO (tc T (i + 2)) with
              | none => exact absurd ((oI_m1 (fun k hk => by have := tgO_lt hk; omega)).mpr e9) z45
              | some g => exact ⟨g, rfl⟩
            rw [hg]
            refine bp_callV (q := 98) (ci := 6) 48 rfl rfl cw_TR_endRunTag lk_TR_109 rfl hB0.kb wd765 wd26 rfl rfl (Nat.le_of_ble_eq_true rfl) ⟨Nat.le_of_ble_eq_true rfl, Nat.le_of_ble_eq_true rfl⟩ (s_TR_endRunTag hB0 (tgO_lt hg) ok.2.1 (fun h1 τ1 hX => ?_))
            refine bp_vret 49 rfl rfl  ⟨_, rfl, ?_⟩
            have y34 : tc T (i + 3) = 62 := (rg_is hT (k := i + 3) (v := 62) (by omega) (by decide) (by decide)).mp z34
            have y0 : ¬ (tc T (i + 3) ≠ 62 ∨ (tc T (i + 2) ≠ 112 ∧ tgO (tc T (i + 2)) = none)) := fun q => q.elim (fun q => q y34) (fun q => z45 ((oI_m1 (fun k hk => by have := tgO_lt hk; omega)).mpr q.2))
            have e_ : tEndTag T th (i, fa, me, ip, ot, rs, hl, ed, sy, sz, co, L, ps) = tTagE th ((tgO (tc T (i + 2))).getD 0) (i, fa, me, ip, ot, rs, hl, ed, sy, sz, co, L, ps) := (if_neg y0).trans ((if_neg (fun q => q.1 ((nI_eq_iff (b := 0) (by have := ok.2.1; omega) (by decide)).mp z61))).trans (if_neg (mt (rg_is hT (k := i + 2) (v := 112) (by omega) (by decide) (by decide)).mpr z83)))
            rw [hg] at e_
            exact hQ _ _ (Tr.cast e_ hX)
          · refine bp_aload_n (q := 87) 43 rfl rfl rfl rfl ?_
            refine bp_callV (q := 90) (ci := 6) 44 rfl rfl cw_TR_endParagraph lk_TR_106 rfl hB0.kb wd761 wd25 rfl rfl (Nat.le_of_ble_eq_true rfl) ⟨Nat.le_of_ble_eq_true rfl, Nat.le_of_ble_eq_true rfl⟩ (s_TR_endParagraph hB0 ok.2.1 (fun h1 τ1 hX => ?_))
            refine bp_goto (tgt := 98) 45 rfl (by decide) ?_
            refine bp_vret 49 rfl rfl  ⟨_, rfl, ?_⟩
            have y34 : tc T (i + 3) = 62 := (rg_is hT (k := i + 3) (v := 62) (by omega) (by decide) (by decide)).mp z34
            have y0 : ¬ (tc T (i + 3) ≠ 62 ∨ (tc T (i + 2) ≠ 112 ∧ tgO (tc T (i + 2)) = none)) := fun q => q.elim (fun q => q y34) (fun q => z45 ((oI_m1 (fun k hk => by have := tgO_lt hk; omega)).mpr q.2))
            have e_ : tEndTag T th (i, fa, me, ip, ot, rs, hl, ed, sy, sz, co, L, ps) = tParE th (i, fa, me, ip, ot, rs, hl, ed, sy, sz, co, L, ps) := (if_neg y0).trans ((if_neg (fun q => q.1 ((nI_eq_iff (b := 0) (by have := ok.2.1; omega) (by decide)).mp z61))).trans (if_pos ((rg_is hT (k := i + 2) (v := 112) (by omega) (by decide) (by decide)).mp z83)))
            exact hQ _ _ (Tr.cast e_ hX)
        · refine bp_aload_n (q := 65) 33 rfl rfl rfl rfl ?_
          refine bp_getI (q := 68) (ci := 6) (j := 3) 34 rfl rfl fl_TR_57_6 hB0.kb rfl ?_
          rw [hB0.i3]
          refine bp_if_ne (q := 71) (tgt := 80) 35 rfl rfl (by decide) (fun z68 => ?_) (fun z68 => ?_)
          · refine bp_iload_n (q := 81) 40 rfl rfl rfl rfl ?_
            refine bp_bipush (v := 112) (q := 83) 41 rfl rfl (by decide) ?_
            refine bp_icmp_ne (q := 86) (tgt := 93) 42 rfl rfl (by decide) (fun z83 => ?_) (fun z83 => ?_)
            · refine bp_aload_n (q := 94) 46 rfl rfl rfl rfl ?_
              refine bp_iload_n (q := 95) 47 rfl rfl rfl rfl ?_
              obtain ⟨g, hg⟩ : ∃ g, tgO (tc T (i + 2)) = some g := by
                cases e9 : tgO (tc T (i + 2)) with
                | none => exact absurd ((oI_m1 (fun k hk => by have := tgO_lt hk; omega)).mpr e9) z45
                | some g => exact ⟨g, rfl⟩
              rw [hg]
              refine bp_callV (q := 98) (ci := 6) 48 rfl rfl cw_TR_endRunTag lk_TR_109 rfl hB0.kb wd765 wd26 rfl rfl (Nat.le_of_ble_eq_true rfl) ⟨Nat.le_of_ble_eq_true rfl, Nat.le_of_ble_eq_true rfl⟩ (s_TR_endRunTag hB0 (tgO_lt hg) ok.2.1 (fun h1 τ1 hX => ?_))
              refine bp_vret 49 rfl rfl  ⟨_, rfl, ?_⟩
              have y34 : tc T (i + 3) = 62 := (rg_is hT (k := i + 3) (v := 62) (by omega) (by decide) (by decide)).mp z34
              have y0 : ¬ (tc T (i + 3) ≠ 62 ∨ (tc T (i + 2) ≠ 112 ∧ tgO (tc T (i + 2)) = none)) := fun q => q.elim (fun q => q y34) (fun q => z45 ((oI_m1 (fun k hk => by have := tgO_lt hk; omega)).mpr q.2))
              have e_ : tEndTag T th (i, fa, me, ip, ot, rs, hl, ed, sy, sz, co, L, ps) = tTagE th ((tgO (tc T (i + 2))).getD 0) (i, fa, me, ip, ot, rs, hl, ed, sy, sz, co, L, ps) := (if_neg y0).trans ((if_neg (fun q => by rw [bI1 z68] at q; exact absurd q.2 (by decide))).trans (if_neg (mt (rg_is hT (k := i + 2) (v := 112) (by omega) (by decide) (by decide)).mpr z83)))
              rw [hg] at e_
              exact hQ _ _ (Tr.cast e_ hX)
            · refine bp_aload_n (q := 87) 43 rfl rfl rfl rfl ?_
              refine bp_callV (q := 90) (ci := 6) 44 rfl rfl cw_TR_endParagraph lk_TR_106 rfl hB0.kb wd761 wd25 rfl rfl (Nat.le_of_ble_eq_true rfl) ⟨Nat.le_of_ble_eq_true rfl, Nat.le_of_ble_eq_true rfl⟩ (s_TR_endParagraph hB0 ok.2.1 (fun h1 τ1 hX => ?_))
              refine bp_goto (tgt := 98) 45 rfl (by decide) ?_
              refine bp_vret 49 rfl rfl  ⟨_, rfl, ?_⟩
              have y34 : tc T (i + 3) = 62 := (rg_is hT (k := i + 3) (v := 62) (by omega) (by decide) (by decide)).mp z34
              have y0 : ¬ (tc T (i + 3) ≠ 62 ∨ (tc T (i + 2) ≠ 112 ∧ tgO (tc T (i + 2)) = none)) := fun q => q.elim (fun q => q y34) (fun q => z45 ((oI_m1 (fun k hk => by have := tgO_lt hk; omega)).mpr q.2))
              have e_ : tEndTag T th (i, fa, me, ip, ot, rs, hl, ed, sy, sz, co, L, ps) = tParE th (i, fa, me, ip, ot, rs, hl, ed, sy, sz, co, L, ps) := (if_neg y0).trans ((if_neg (fun q => by rw [bI1 z68] at q; exact absurd q.2 (by decide))).trans (if_pos ((rg_is hT (k := i + 2) (v := 112) (by omega) (by decide) (by decide)).mp z83)))
              exact hQ _ _ (Tr.cast e_ hX)
          · refine bp_aload_n (q := 72) 36 rfl rfl rfl rfl ?_
            refine bp_bipush (v := -10) (q := 74) 37 rfl rfl (by decide) ?_
            refine bp_callU (q := 77) (ci := 6) (owner := "BracedPages$Reader") 38 rfl rfl cw_Rd_fail wd747 wd748 (Or.inr rfl) ⟨by decide, by decide⟩ rfl rfl hB0.kb wd594 wd749 rfl rfl (Nat.le_of_ble_eq_true rfl) ⟨Nat.le_of_ble_eq_true rfl, Nat.le_of_ble_eq_true rfl⟩ (s_TR_fail hB0 (fun h1 hB1 => ?_))
            refine bp_goto (tgt := 98) 39 rfl (by decide) ?_
            refine bp_vret 49 rfl rfl  ⟨_, rfl, ?_⟩
            have y34 : tc T (i + 3) = 62 := (rg_is hT (k := i + 3) (v := 62) (by omega) (by decide) (by decide)).mp z34
            have y0 : ¬ (tc T (i + 3) ≠ 62 ∨ (tc T (i + 2) ≠ 112 ∧ tgO (tc T (i + 2)) = none)) := fun q => q.elim (fun q => q y34) (fun q => z45 ((oI_m1 (fun k hk => by have := tgO_lt hk; omega)).mpr q.2))
            have e_ : tEndTag T th (i, fa, me, ip, ot, rs, hl, ed, sy, sz, co, L, ps) = (i, -10, nI th, ip, ot, rs, hl, ed, sy, sz, co, L, ps) := (if_neg y0).trans (if_pos ⟨fun q => z61 (by rw [q]; rfl), bI0.mp z68⟩)
            exact hQ _ _ (Tr.cast (τ := (th, nu, ne)) e_ hB1)
      · refine bp_aload_n (q := 49) 26 rfl rfl rfl rfl ?_
        refine bp_bipush (v := -9) (q := 51) 27 rfl rfl (by decide) ?_
        refine bp_callU (q := 54) (ci := 6) (owner := "BracedPages$Reader") 28 rfl rfl cw_Rd_fail wd747 wd748 (Or.inr rfl) ⟨by decide, by decide⟩ rfl rfl hB0.kb wd594 wd749 rfl rfl (Nat.le_of_ble_eq_true rfl) ⟨Nat.le_of_ble_eq_true rfl, Nat.le_of_ble_eq_true rfl⟩ (s_TR_fail hB0 (fun h1 hB1 => ?_))
        refine bp_goto (tgt := 98) 29 rfl (by decide) ?_
        refine bp_vret 49 rfl rfl  ⟨_, rfl, ?_⟩
        have y34 : tc T (i + 3) = 62 := (rg_is hT (k := i + 3) (v := 62) (by omega) (by decide) (by decide)).mp z34
        have e_ : tEndTag T th (i, fa, me, ip, ot, rs, hl, ed, sy, sz, co, L, ps) = (i, -9, nI th, ip, ot, rs, hl, ed, sy, sz, co, L, ps) := if_pos (Or.inr ⟨mt (rg_is hT (k := i + 2) (v := 112) (by omega) (by decide) (by decide)).mpr z40, (oI_m1 (fun k hk => by have := tgO_lt hk; omega)).mp z45⟩)
        exact hQ _ _ (Tr.cast (τ := (th, nu, ne)) e_ hB1)
set_option maxRecDepth 100000 in
set_option maxHeartbeats 4000000 in
theorem tl_TR_par {x y k : Nat} (hT : okT T) (hB0 : TrX A P T h0 h i fa me ip ot rs hl ed sy sz co L ps th nu ne) (hk : k < 1000) (hQ : ∀ h' τ', Tr A P T h0 h' (tPar2 T th x y k (i, fa, me, ip, ot, rs, hl, ed, sy, sz, co, L, ps)) τ' → Q none h' c s) : bp_A l G H0 (2, 43, false, false) M_TR_readParagraphTag h c s 78 [some (.ref (A 0)), some (.int (nI k)), some (.int (nI x)), some (.int (nI y))] [] (fun o h' c' s' => ∃ v, o = .returned v ∧ Q v h' c' s') := by
  refine bp_aload_n (q := 79) 48 rfl rfl rfl rfl ?_
  refine bp_getR (x := A 1) (q := 82) (ci := 6) (j := 10) 49 rfl rfl fl_TR_19_6 hB0.kb rfl hB0.r10 ?_
  refine bp_iload_n (q := 83) 50 rfl rfl rfl rfl ?_
  refine bp_callV (q := 86) (ci := 1) 51 rfl rfl cw_Row_get lk_TR_27 rfl hB0.kx wd438 wd439 rfl rfl (Nat.le_of_ble_eq_true rfl) ⟨Nat.le_of_ble_eq_true rfl, Nat.le_of_ble_eq_true rfl⟩ (s_Row_get (ro := false) hB0.tx ?_)
  refine bp_bipush (v := 62) (q := 88) 52 rfl rfl (by decide) ?_
  refine bp_icmp_ne (q := 91) (tgt := 98) 53 rfl rfl (by decide) (fun z88 => ?_) (fun z88 => ?_)
  · refine bp_aload_n (q := 99) 57 rfl rfl rfl rfl ?_
    refine bp_bipush (v := -9) (q := 101) 58 rfl rfl (by decide) ?_
    refine bp_callU (q := 104) (ci := 6) (owner := "BracedPages$Reader") 59 rfl rfl cw_Rd_fail wd747 wd748 (Or.inr rfl) ⟨by decide, by decide⟩ rfl rfl hB0.kb wd594 wd749 rfl rfl (Nat.le_of_ble_eq_true rfl) ⟨Nat.le_of_ble_eq_true rfl, Nat.le_of_ble_eq_true rfl⟩ (s_TR_fail hB0 (fun h1 hB1 => ?_))
    refine bp_goto (tgt := 147) 60 rfl (by decide) ?_
    refine bp_vret 82 rfl rfl  ⟨_, rfl, ?_⟩
    have e_ : tPar2 T th x y k (i, fa, me, ip, ot, rs, hl, ed, sy, sz, co, L, ps) = (i, -9, nI th, ip, ot, rs, hl, ed, sy, sz, co, L, ps) := if_pos (Or.inl (mt (rg_is hT (k := k) (v := 62) (by omega) (by decide) (by decide)).mpr z88))
    exact hQ _ _ (Tr.cast (τ := (th, nu, ne)) e_ hB1)
  · refine bp_aload_n (q := 92) 54 rfl rfl rfl rfl ?_
    refine bp_getI (q := 95) (ci := 6) (j := 0) 55 rfl rfl fl_TR_9_6 hB0.kb rfl ?_
    rw [hB0.i0]
    refine bp_if_eq (q := 98) (tgt := 107) 56 rfl rfl (by decide) (fun z95 => ?_) (fun z95 => ?_)
    · refine bp_aload_n (q := 108) 61 rfl rfl rfl rfl ?_
      refine bp_getR (x := P 0) (q := 111) (ci := 6) (j := 11) 62 rfl rfl fl_TR_89_6 hB0.kb rfl hB0.r11 ?_
      refine bp_callV (q := 114) (ci := 2) 63 rfl rfl cw_Page_isFull lk_TR_93 rfl hB0.kp wd678 wd679 rfl rfl (Nat.le_of_ble_eq_true rfl) ⟨Nat.le_of_ble_eq_true rfl, Nat.le_of_ble_eq_true rfl⟩ (s_Page_isFull (ro := false) hB0.pg ?_)
      refine bp_if_eq (q := 117) (tgt := 126) 64 rfl rfl (by decide) (fun z114 => ?_) (fun z114 => ?_)
      · refine bp_aload_n (q := 127) 69 rfl rfl rfl rfl ?_
        have hl16 : ps.length < 16 := by
          by_cases q : 16 ≤ ps.length
          · rw [if_pos q] at z114; exact absurd z114 (by decide)
          · omega
        refine bp_getR (x := P 0) (q := 130) (ci := 6) (j := 11) 70 rfl rfl fl_TR_89_6 hB0.kb rfl hB0.r11 ?_
        refine bp_iload_n (q := 131) 71 rfl rfl rfl rfl ?_
        refine bp_iload_n (q := 132) 72 rfl rfl rfl rfl ?_
        refine bp_callV (q := 135) (ci := 2) 73 rfl rfl cw_Page_gather lk_TR_99 rfl hB0.kp wd682 wd683 rfl rfl (Nat.le_of_ble_eq_true rfl) ⟨Nat.le_of_ble_eq_true rfl, Nat.le_of_ble_eq_true rfl⟩ (s_Page_gather (u := x) (v := y) rfl rfl hB0.pg hl16 (fun h1 hP1 f1 => ?_))
        have hB1 := hB0.p hP1 f1
        refine bp_aload_n (q := 136) 74 rfl rfl rfl rfl ?_
        refine bp_iconst (v := 1) (q := 137) 75 rfl rfl (by decide) ?_
        refine bp_putI (q := 140) (ci := 6) (j := 0) 76 rfl rfl fl_TR_9_6 cl6 hB1.kb (fun r hr => by cases hr; rfl) (by decide) rfl rfl ?_
        refine bp_nx (X := fun h2 => TrX A P T h0 h2 i fa me true ot rs hl ed sy sz co L (ps ++ [(x, y, L.length)]) th nu ne) (hB1.s0 rfl) (fun h2 hB2 => ?_)
        refine bp_aload_n (q := 141) 77 rfl rfl rfl rfl ?_
        refine bp_iload_n (q := 142) 78 rfl rfl rfl rfl ?_
        refine bp_iconst (v := 1) (q := 143) 79 rfl rfl (by decide) ?_
        refine bp_iadd (q := 144) 80 rfl rfl ?_
        refine bp_putI (q := 147) (ci := 6) (j := 12) 81 rfl rfl fl_TR_23_6 cl6 hB2.kb (fun r hr => by cases hr; rfl) (by decide) rfl rfl ?_
        refine bp_nx (X := fun h3 => TrX A P T h0 h3 (k + 1) fa me true ot rs hl ed sy sz co L (ps ++ [(x, y, L.length)]) th nu ne) (hB2.s12 (nI_1 _)) (fun h3 hB3 => ?_)
        refine bp_vret 82 rfl rfl  ⟨_, rfl, ?_⟩
        have e_ : tPar2 T th x y k (i, fa, me, ip, ot, rs, hl, ed, sy, sz, co, L, ps) = (k + 1, fa, me, true, ot, rs, hl, ed, sy, sz, co, L, ps ++ [(x, y, L.length)]) := (if_neg (fun q => q.elim (fun q => q ((rg_is hT (k := k) (v := 62) (by omega) (by decide) (by decide)).mp z88)) (fun q => by rw [bI0.mp z95] at q; cases q))).trans (if_neg (by omega))
        exact hQ _ _ (Tr.cast (τ := (th, nu, ne)) e_ hB3)
      · refine bp_aload_n (q := 118) 65 rfl rfl rfl rfl ?_
        refine bp_bipush (v := -8) (q := 120) 66 rfl rfl (by decide) ?_
        refine bp_callU (q := 123) (ci := 6) (owner := "BracedPages$Reader") 67 rfl rfl cw_Rd_fail wd747 wd748 (Or.inr rfl) ⟨by decide, by decide⟩ rfl rfl hB0.kb wd594 wd749 rfl rfl (Nat.le_of_ble_eq_true rfl) ⟨Nat.le_of_ble_eq_true rfl, Nat.le_of_ble_eq_true rfl⟩ (s_TR_fail hB0 (fun h1 hB1 => ?_))
        refine bp_goto (tgt := 147) 68 rfl (by decide) ?_
        refine bp_vret 82 rfl rfl  ⟨_, rfl, ?_⟩
        have y7 : 16 ≤ ps.length := by
          by_cases q : 16 ≤ ps.length
          · exact q
          · rw [if_neg q] at z114; exact absurd rfl z114
        have e_ : tPar2 T th x y k (i, fa, me, ip, ot, rs, hl, ed, sy, sz, co, L, ps) = (i, -8, nI th, ip, ot, rs, hl, ed, sy, sz, co, L, ps) := (if_neg (fun q => q.elim (fun q => q ((rg_is hT (k := k) (v := 62) (by omega) (by decide) (by decide)).mp z88)) (fun q => by rw [bI0.mp z95] at q; cases q))).trans (if_pos y7)
        exact hQ _ _ (Tr.cast (τ := (th, nu, ne)) e_ hB1)
    · refine bp_aload_n (q := 99) 57 rfl rfl rfl rfl ?_
      refine bp_bipush (v := -9) (q := 101) 58 rfl rfl (by decide) ?_
      refine bp_callU (q := 104) (ci := 6) (owner := "BracedPages$Reader") 59 rfl rfl cw_Rd_fail wd747 wd748 (Or.inr rfl) ⟨by decide, by decide⟩ rfl rfl hB0.kb wd594 wd749 rfl rfl (Nat.le_of_ble_eq_true rfl) ⟨Nat.le_of_ble_eq_true rfl, Nat.le_of_ble_eq_true rfl⟩ (s_TR_fail hB0 (fun h1 hB1 => ?_))
      refine bp_goto (tgt := 147) 60 rfl (by decide) ?_
      refine bp_vret 82 rfl rfl  ⟨_, rfl, ?_⟩
      have e_ : tPar2 T th x y k (i, fa, me, ip, ot, rs, hl, ed, sy, sz, co, L, ps) = (i, -9, nI th, ip, ot, rs, hl, ed, sy, sz, co, L, ps) := if_pos (Or.inr (bI1 z95))
      exact hQ _ _ (Tr.cast (τ := (th, nu, ne)) e_ hB1)
theorem bn1_le (k : Nat) : bn1 k ≤ 1 := by unfold bn1; split <;> decide
set_option maxRecDepth 100000 in
set_option maxHeartbeats 4000000 in
theorem s_TR_readParagraphTag  (hB0 : TrX A P T h0 h i fa me ip ot rs hl ed sy sz co L ps th nu ne) (hT : okT T) (hi4 : i ≤ 400) (hQ : ∀ h' τ', Tr A P T h0 h' (tPar T th (i, fa, me, ip, ot, rs, hl, ed, sy, sz, co, L, ps)) τ' → Q none h' c s) : bp_AM l G H0 (2, 43, false, false) M_TR_readParagraphTag h c s [.ref (A 0)] Q := by
  refine bp_of (ls := [some (.ref (A 0)), none, none, none]) (by decide) dt_TR_readParagraphTag (Nat.le_of_ble_eq_true rfl) (fun q hq => hq) false ?_
  refine bp_aload_n (q := 1) 0 rfl rfl rfl rfl ?_
  refine bp_getI (q := 4) (ci := 6) (j := 12) 1 rfl rfl fl_TR_23_6 hB0.kb rfl ?_
  rw [hB0.i12]
  refine bp_iconst (v := 2) (q := 5) 2 rfl rfl (by decide) ?_
  refine bp_iadd (q := 6) 3 rfl rfl ?_
  rw [show nI i + 2 = nI (i + 2) from nI_add i 2]
  refine bp_istore_n (q := 7) 4 rfl rfl rfl (by decide) (bp_up1 rfl) ?_
  refine bp_iconst (v := 0) (q := 8) 5 rfl rfl (by decide) ?_
  refine bp_istore_n (q := 9) 6 rfl rfl rfl (by decide) (bp_up2 rfl) ?_
  refine bp_iconst (v := 0) (q := 10) 7 rfl rfl (by decide) ?_
  refine bp_istore_n (q := 11) 8 rfl rfl rfl (by decide) (bp_up3 rfl) ?_
  refine bp_aload_n (q := 12) 9 rfl rfl rfl rfl ?_
  refine bp_getR (x := A 1) (q := 15) (ci := 6) (j := 10) 10 rfl rfl fl_TR_19_6 hB0.kb rfl hB0.r10 ?_
  refine bp_iload_n (q := 16) 11 rfl rfl rfl rfl ?_
  refine bp_callV (q := 19) (ci := 1) 12 rfl rfl cw_Row_get lk_TR_27 rfl hB0.kx wd438 wd439 rfl rfl (Nat.le_of_ble_eq_true rfl) ⟨Nat.le_of_ble_eq_true rfl, Nat.le_of_ble_eq_true rfl⟩ (s_Row_get (ro := false) hB0.tx ?_)
  refine bp_bipush (v := 32) (q := 21) 13 rfl rfl (by decide) ?_
  refine bp_icmp_ne (q := 24) (tgt := 78) 14 rfl rfl (by decide) (fun z21 => ?_) (fun z21 => ?_)
  · have y21 : ¬ tc T (i + 2) = 32 := mt (rg_is hT (k := i + 2) (v := 32) (by omega) (by decide) (by decide)).mpr z21
    refine tl_TR_par (x := 0) (y := 0) hT hB0 (by omega) (fun h9 τ9 hB9 => hQ h9 τ9 ?_)
    have e_ : tPar T th (i, fa, me, ip, ot, rs, hl, ed, sy, sz, co, L, ps) = tPar2 T th 0 0 (i + 2) (i, fa, me, ip, ot, rs, hl, ed, sy, sz, co, L, ps) := if_neg y21
    rw [e_]
    exact hB9
  · refine bp_iinc (v := nI (i + 3)) (q := 27) 15 rfl rfl rfl (nI_1 (i + 2)) (by decide) (bp_up1 rfl) ?_
    refine bp_aload_n (q := 28) 16 rfl rfl rfl rfl ?_
    refine bp_iload_n (q := 29) 17 rfl rfl rfl rfl ?_
    refine bp_callV (q := 32) (ci := 6) 18 rfl rfl cw_TR_alignmentAt lk_TR_83 rfl hB0.kb wd740 wd22 rfl rfl (Nat.le_of_ble_eq_true rfl) ⟨Nat.le_of_ble_eq_true rfl, Nat.le_of_ble_eq_true rfl⟩ (s_TR_alignmentAt (ro := false) hB0 hT (by omega) ?_)
    refine bp_istore_n (q := 33) 19 rfl rfl rfl (by decide) (bp_up2 rfl) ?_
    refine bp_iload_n (q := 34) 20 rfl rfl rfl rfl ?_
    refine bp_iload_n (q := 35) 21 rfl rfl rfl rfl ?_
    refine bp_if_ne (q := 38) (tgt := 42) 22 rfl rfl (by decide) (fun z35 => ?_) (fun z35 => ?_)
    · refine bp_iconst (v := 1) (q := 43) 25 rfl rfl (by decide) ?_
      refine bp_iadd (q := 44) 26 rfl rfl ?_
      have y35 : ¬ alA T (i + 3) = 0 := fun q => z35 (by rw [q]; rfl)
      rw [show nI (i + 3) + 1 = nI (i + 3 + bn1 (alA T (i + 3))) from by rw [bn1, if_neg y35]; exact nI_add (i + 3) 1]
      refine bp_istore_n (q := 45) 27 rfl rfl rfl (by decide) (bp_up1 rfl) ?_
      refine bp_aload_n (q := 46) 28 rfl rfl rfl rfl ?_
      refine bp_iload_n (q := 47) 29 rfl rfl rfl rfl ?_
      refine bp_callV (q := 50) (ci := 6) 30 rfl rfl cw_TR_indentAt lk_TR_86 rfl hB0.kb wd744 wd23 rfl rfl (Nat.le_of_ble_eq_true rfl) ⟨Nat.le_of_ble_eq_true rfl, Nat.le_of_ble_eq_true rfl⟩ (s_TR_indentAt (ro := false) hB0 hT (by have := bn1_le (alA T (i + 3)); omega) ?_)
      refine bp_istore_n (q := 51) 31 rfl rfl rfl (by decide) (bp_up3 rfl) ?_
      refine bp_iload_n (q := 52) 32 rfl rfl rfl rfl ?_
      refine bp_iload_n (q := 53) 33 rfl rfl rfl rfl ?_
      refine bp_if_ne (q := 56) (tgt := 60) 34 rfl rfl (by decide) (fun z53 => ?_) (fun z53 => ?_)
      · refine bp_iconst (v := 1) (q := 61) 37 rfl rfl (by decide) ?_
        refine bp_iadd (q := 62) 38 rfl rfl ?_
        have y53 : ¬ inA T (i + 3 + bn1 (alA T (i + 3))) = 0 := fun q => z53 (by rw [q]; rfl)
        rw [show nI (i + 3 + bn1 (alA T (i + 3))) + 1 = nI (i + 3 + bn1 (alA T (i + 3)) + bn1 (inA T (i + 3 + bn1 (alA T (i + 3))))) from by rw [show bn1 (inA T (i + 3 + bn1 (alA T (i + 3)))) = 1 from if_neg y53]; exact nI_add _ 1]
        refine bp_istore_n (q := 63) 39 rfl rfl rfl (by decide) (bp_up1 rfl) ?_
        refine bp_iload_n (q := 64) 40 rfl rfl rfl rfl ?_
        refine bp_if_ne (q := 67) (tgt := 78) 41 rfl rfl (by decide) (fun z64 => ?_) (fun z64 => ?_)
        · have y21 : tc T (i + 2) = 32 := (rg_is hT (k := i + 2) (v := 32) (by omega) (by decide) (by decide)).mp z21
          refine tl_TR_par hT hB0 (by have := bn1_le (alA T (i + 3)); have := bn1_le (inA T (i + 3 + bn1 (alA T (i + 3)))); omega) (fun h9 τ9 hB9 => hQ h9 τ9 ?_)
          have e_ : tPar T th (i, fa, me, ip, ot, rs, hl, ed, sy, sz, co, L, ps) = tPar2 T th (alA T (i + 3)) (inA T (i + 3 + bn1 (alA T (i + 3)))) (i + 3 + bn1 (alA T (i + 3)) + bn1 (inA T (i + 3 + bn1 (alA T (i + 3))))) (i, fa, me, ip, ot, rs, hl, ed, sy, sz, co, L, ps) := (if_pos y21).trans (if_neg (fun q => z64 (by rw [q.1]; rfl)))
          rw [e_]
          exact hB9
        · refine bp_iload_n (q := 68) 42 rfl rfl rfl rfl ?_
          refine bp_if_ne (q := 71) (tgt := 78) 43 rfl rfl (by decide) (fun z68 => ?_) (fun z68 => ?_)
          · have y21 : tc T (i + 2) = 32 := (rg_is hT (k := i + 2) (v := 32) (by omega) (by decide) (by decide)).mp z21
            refine tl_TR_par hT hB0 (by have := bn1_le (alA T (i + 3)); have := bn1_le (inA T (i + 3 + bn1 (alA T (i + 3)))); omega) (fun h9 τ9 hB9 => hQ h9 τ9 ?_)
            have e_ : tPar T th (i, fa, me, ip, ot, rs, hl, ed, sy, sz, co, L, ps) = tPar2 T th (alA T (i + 3)) (inA T (i + 3 + bn1 (alA T (i + 3)))) (i + 3 + bn1 (alA T (i + 3)) + bn1 (inA T (i + 3 + bn1 (alA T (i + 3))))) (i, fa, me, ip, ot, rs, hl, ed, sy, sz, co, L, ps) := (if_pos y21).trans (if_neg (fun q => z68 (by rw [q.2]; rfl)))
            rw [e_]
            exact hB9
          · refine bp_aload_n (q := 72) 44 rfl rfl rfl rfl ?_
            refine bp_bipush (v := -9) (q := 74) 45 rfl rfl (by decide) ?_
            refine bp_callU (q := 77) (ci := 6) (owner := "BracedPages$Reader") 46 rfl rfl cw_Rd_fail wd747 wd748 (Or.inr rfl) ⟨by decide, by decide⟩ rfl rfl hB0.kb wd594 wd749 rfl rfl (Nat.le_of_ble_eq_true rfl) ⟨Nat.le_of_ble_eq_true rfl, Nat.le_of_ble_eq_true rfl⟩ (s_TR_fail hB0 (fun h1 hB1 => ?_))
            refine bp_vret 47 rfl rfl  ⟨_, rfl, ?_⟩
            have y21 : tc T (i + 2) = 32 := (rg_is hT (k := i + 2) (v := 32) (by omega) (by decide) (by decide)).mp z21
            have y64 : alA T (i + 3) = 0 := (nI_eq_iff (b := 0) (by have := alA_lt (T := T) (i + 3); omega) (by decide)).mp z64
            have y68 : inA T (i + 3 + bn1 (alA T (i + 3))) = 0 := (nI_eq_iff (b := 0) (by have := inA_lt (T := T) (i + 3 + bn1 (alA T (i + 3))); omega) (by decide)).mp z68
            have e_ : tPar T th (i, fa, me, ip, ot, rs, hl, ed, sy, sz, co, L, ps) = tFl (-9) th (i, fa, me, ip, ot, rs, hl, ed, sy, sz, co, L, ps) := (if_pos y21).trans (if_pos ⟨y64, y68⟩)
            exact hQ _ _ (Tr.cast (τ := (th, nu, ne)) e_ hB1)
      · refine bp_iconst (v := 0) (q := 57) 35 rfl rfl (by decide) ?_
        refine bp_goto (tgt := 61) 36 rfl (by decide) ?_
        refine bp_iadd (q := 62) 38 rfl rfl ?_
        have y53 : inA T (i + 3 + bn1 (alA T (i + 3))) = 0 := (nI_eq_iff (b := 0) (by have := inA_lt (T := T) (i + 3 + bn1 (alA T (i + 3))); omega) (by decide)).mp z53
        rw [show nI (i + 3 + bn1 (alA T (i + 3))) + 0 = nI (i + 3 + bn1 (alA T (i + 3)) + bn1 (inA T (i + 3 + bn1 (alA T (i + 3))))) from by rw [y53]; exact nI_add _ 0]
        refine bp_istore_n (q := 63) 39 rfl rfl rfl (by decide) (bp_up1 rfl) ?_
        refine bp_iload_n (q := 64) 40 rfl rfl rfl rfl ?_
        refine bp_if_ne (q := 67) (tgt := 78) 41 rfl rfl (by decide) (fun z64 => ?_) (fun z64 => ?_)
        · have y21 : tc T (i + 2) = 32 := (rg_is hT (k := i + 2) (v := 32) (by omega) (by decide) (by decide)).mp z21
          refine tl_TR_par hT hB0 (by have := bn1_le (alA T (i + 3)); have := bn1_le (inA T (i + 3 + bn1 (alA T (i + 3)))); omega) (fun h9 τ9 hB9 => hQ h9 τ9 ?_)
          have e_ : tPar T th (i, fa, me, ip, ot, rs, hl, ed, sy, sz, co, L, ps) = tPar2 T th (alA T (i + 3)) (inA T (i + 3 + bn1 (alA T (i + 3)))) (i + 3 + bn1 (alA T (i + 3)) + bn1 (inA T (i + 3 + bn1 (alA T (i + 3))))) (i, fa, me, ip, ot, rs, hl, ed, sy, sz, co, L, ps) := (if_pos y21).trans (if_neg (fun q => z64 (by rw [q.1]; rfl)))
          rw [e_]
          exact hB9
        · refine bp_iload_n (q := 68) 42 rfl rfl rfl rfl ?_
          refine bp_if_ne (q := 71) (tgt := 78) 43 rfl rfl (by decide) (fun z68 => ?_) (fun z68 => ?_)
          · have y21 : tc T (i + 2) = 32 := (rg_is hT (k := i + 2) (v := 32) (by omega) (by decide) (by decide)).mp z21
            refine tl_TR_par hT hB0 (by have := bn1_le (alA T (i + 3)); have := bn1_le (inA T (i + 3 + bn1 (alA T (i + 3)))); omega) (fun h9 τ9 hB9 => hQ h9 τ9 ?_)
            have e_ : tPar T th (i, fa, me, ip, ot, rs, hl, ed, sy, sz, co, L, ps) = tPar2 T th (alA T (i + 3)) (inA T (i + 3 + bn1 (alA T (i + 3)))) (i + 3 + bn1 (alA T (i + 3)) + bn1 (inA T (i + 3 + bn1 (alA T (i + 3))))) (i, fa, me, ip, ot, rs, hl, ed, sy, sz, co, L, ps) := (if_pos y21).trans (if_neg (fun q => z68 (by rw [q.2]; rfl)))
            rw [e_]
            exact hB9
          · refine bp_aload_n (q := 72) 44 rfl rfl rfl rfl ?_
            refine bp_bipush (v := -9) (q := 74) 45 rfl rfl (by decide) ?_
            refine bp_callU (q := 77) (ci := 6) (owner := "BracedPages$Reader") 46 rfl rfl cw_Rd_fail wd747 wd748 (Or.inr rfl) ⟨by decide, by decide⟩ rfl rfl hB0.kb wd594 wd749 rfl rfl (Nat.le_of_ble_eq_true rfl) ⟨Nat.le_of_ble_eq_true rfl, Nat.le_of_ble_eq_true rfl⟩ (s_TR_fail hB0 (fun h1 hB1 => ?_))
            refine bp_vret 47 rfl rfl  ⟨_, rfl, ?_⟩
            have y21 : tc T (i + 2) = 32 := (rg_is hT (k := i + 2) (v := 32) (by omega) (by decide) (by decide)).mp z21
            have y64 : alA T (i + 3) = 0 := (nI_eq_iff (b := 0) (by have := alA_lt (T := T) (i + 3); omega) (by decide)).mp z64
            have y68 : inA T (i + 3 + bn1 (alA T (i + 3))) = 0 := (nI_eq_iff (b := 0) (by have := inA_lt (T := T) (i + 3 + bn1 (alA T (i + 3))); omega) (by decide)).mp z68
            have e_ : tPar T th (i, fa, me, ip, ot, rs, hl, ed, sy, sz, co, L, ps) = tFl (-9) th (i, fa, me, ip, ot, rs, hl, ed, sy, sz, co, L, ps) := (if_pos y21).trans (if_pos ⟨y64, y68⟩)
            exact hQ _ _ (Tr.cast (τ := (th, nu, ne)) e_ hB1)
    · refine bp_iconst (v := 0) (q := 39) 23 rfl rfl (by decide) ?_
      refine bp_goto (tgt := 43) 24 rfl (by decide) ?_
      refine bp_iadd (q := 44) 26 rfl rfl ?_
      have y35 : alA T (i + 3) = 0 := (nI_eq_iff (b := 0) (by have := alA_lt (T := T) (i + 3); omega) (by decide)).mp z35
      rw [show nI (i + 3) + 0 = nI (i + 3 + bn1 (alA T (i + 3))) from by rw [y35]; exact nI_add (i + 3) 0]
      refine bp_istore_n (q := 45) 27 rfl rfl rfl (by decide) (bp_up1 rfl) ?_
      refine bp_aload_n (q := 46) 28 rfl rfl rfl rfl ?_
      refine bp_iload_n (q := 47) 29 rfl rfl rfl rfl ?_
      refine bp_callV (q := 50) (ci := 6) 30 rfl rfl cw_TR_indentAt lk_TR_86 rfl hB0.kb wd744 wd23 rfl rfl (Nat.le_of_ble_eq_true rfl) ⟨Nat.le_of_ble_eq_true rfl, Nat.le_of_ble_eq_true rfl⟩ (s_TR_indentAt (ro := false) hB0 hT (by have := bn1_le (alA T (i + 3)); omega) ?_)
      refine bp_istore_n (q := 51) 31 rfl rfl rfl (by decide) (bp_up3 rfl) ?_
      refine bp_iload_n (q := 52) 32 rfl rfl rfl rfl ?_
      refine bp_iload_n (q := 53) 33 rfl rfl rfl rfl ?_
      refine bp_if_ne (q := 56) (tgt := 60) 34 rfl rfl (by decide) (fun z53 => ?_) (fun z53 => ?_)
      · refine bp_iconst (v := 1) (q := 61) 37 rfl rfl (by decide) ?_
        refine bp_iadd (q := 62) 38 rfl rfl ?_
        have y53 : ¬ inA T (i + 3 + bn1 (alA T (i + 3))) = 0 := fun q => z53 (by rw [q]; rfl)
        rw [show nI (i + 3 + bn1 (alA T (i + 3))) + 1 = nI (i + 3 + bn1 (alA T (i + 3)) + bn1 (inA T (i + 3 + bn1 (alA T (i + 3))))) from by rw [show bn1 (inA T (i + 3 + bn1 (alA T (i + 3)))) = 1 from if_neg y53]; exact nI_add _ 1]
        refine bp_istore_n (q := 63) 39 rfl rfl rfl (by decide) (bp_up1 rfl) ?_
        refine bp_iload_n (q := 64) 40 rfl rfl rfl rfl ?_
        refine bp_if_ne (q := 67) (tgt := 78) 41 rfl rfl (by decide) (fun z64 => ?_) (fun z64 => ?_)
        · have y21 : tc T (i + 2) = 32 := (rg_is hT (k := i + 2) (v := 32) (by omega) (by decide) (by decide)).mp z21
          refine tl_TR_par hT hB0 (by have := bn1_le (alA T (i + 3)); have := bn1_le (inA T (i + 3 + bn1 (alA T (i + 3)))); omega) (fun h9 τ9 hB9 => hQ h9 τ9 ?_)
          have e_ : tPar T th (i, fa, me, ip, ot, rs, hl, ed, sy, sz, co, L, ps) = tPar2 T th (alA T (i + 3)) (inA T (i + 3 + bn1 (alA T (i + 3)))) (i + 3 + bn1 (alA T (i + 3)) + bn1 (inA T (i + 3 + bn1 (alA T (i + 3))))) (i, fa, me, ip, ot, rs, hl, ed, sy, sz, co, L, ps) := (if_pos y21).trans (if_neg (fun q => z64 (by rw [q.1]; rfl)))
          rw [e_]
          exact hB9
        · refine bp_iload_n (q := 68) 42 rfl rfl rfl rfl ?_
          refine bp_if_ne (q := 71) (tgt := 78) 43 rfl rfl (by decide) (fun z68 => ?_) (fun z68 => ?_)
          · have y21 : tc T (i + 2) = 32 := (rg_is hT (k := i + 2) (v := 32) (by omega) (by decide) (by decide)).mp z21
            refine tl_TR_par hT hB0 (by have := bn1_le (alA T (i + 3)); have := bn1_le (inA T (i + 3 + bn1 (alA T (i + 3)))); omega) (fun h9 τ9 hB9 => hQ h9 τ9 ?_)
            have e_ : tPar T th (i, fa, me, ip, ot, rs, hl, ed, sy, sz, co, L, ps) = tPar2 T th (alA T (i + 3)) (inA T (i + 3 + bn1 (alA T (i + 3)))) (i + 3 + bn1 (alA T (i + 3)) + bn1 (inA T (i + 3 + bn1 (alA T (i + 3))))) (i, fa, me, ip, ot, rs, hl, ed, sy, sz, co, L, ps) := (if_pos y21).trans (if_neg (fun q => z68 (by rw [q.2]; rfl)))
            rw [e_]
            exact hB9
          · refine bp_aload_n (q := 72) 44 rfl rfl rfl rfl ?_
            refine bp_bipush (v := -9) (q := 74) 45 rfl rfl (by decide) ?_
            refine bp_callU (q := 77) (ci := 6) (owner := "BracedPages$Reader") 46 rfl rfl cw_Rd_fail wd747 wd748 (Or.inr rfl) ⟨by decide, by decide⟩ rfl rfl hB0.kb wd594 wd749 rfl rfl (Nat.le_of_ble_eq_true rfl) ⟨Nat.le_of_ble_eq_true rfl, Nat.le_of_ble_eq_true rfl⟩ (s_TR_fail hB0 (fun h1 hB1 => ?_))
            refine bp_vret 47 rfl rfl  ⟨_, rfl, ?_⟩
            have y21 : tc T (i + 2) = 32 := (rg_is hT (k := i + 2) (v := 32) (by omega) (by decide) (by decide)).mp z21
            have y64 : alA T (i + 3) = 0 := (nI_eq_iff (b := 0) (by have := alA_lt (T := T) (i + 3); omega) (by decide)).mp z64
            have y68 : inA T (i + 3 + bn1 (alA T (i + 3))) = 0 := (nI_eq_iff (b := 0) (by have := inA_lt (T := T) (i + 3 + bn1 (alA T (i + 3))); omega) (by decide)).mp z68
            have e_ : tPar T th (i, fa, me, ip, ot, rs, hl, ed, sy, sz, co, L, ps) = tFl (-9) th (i, fa, me, ip, ot, rs, hl, ed, sy, sz, co, L, ps) := (if_pos y21).trans (if_pos ⟨y64, y68⟩)
            exact hQ _ _ (Tr.cast (τ := (th, nu, ne)) e_ hB1)
      · refine bp_iconst (v := 0) (q := 57) 35 rfl rfl (by decide) ?_
        refine bp_goto (tgt := 61) 36 rfl (by decide) ?_
        refine bp_iadd (q := 62) 38 rfl rfl ?_
        have y53 : inA T (i + 3 + bn1 (alA T (i + 3))) = 0 := (nI_eq_iff (b := 0) (by have := inA_lt (T := T) (i + 3 + bn1 (alA T (i + 3))); omega) (by decide)).mp z53
        rw [show nI (i + 3 + bn1 (alA T (i + 3))) + 0 = nI (i + 3 + bn1 (alA T (i + 3)) + bn1 (inA T (i + 3 + bn1 (alA T (i + 3))))) from by rw [y53]; exact nI_add _ 0]
        refine bp_istore_n (q := 63) 39 rfl rfl rfl (by decide) (bp_up1 rfl) ?_
        refine bp_iload_n (q := 64) 40 rfl rfl rfl rfl ?_
        refine bp_if_ne (q := 67) (tgt := 78) 41 rfl rfl (by decide) (fun z64 => ?_) (fun z64 => ?_)
        · have y21 : tc T (i + 2) = 32 := (rg_is hT (k := i + 2) (v := 32) (by omega) (by decide) (by decide)).mp z21
          refine tl_TR_par hT hB0 (by have := bn1_le (alA T (i + 3)); have := bn1_le (inA T (i + 3 + bn1 (alA T (i + 3)))); omega) (fun h9 τ9 hB9 => hQ h9 τ9 ?_)
          have e_ : tPar T th (i, fa, me, ip, ot, rs, hl, ed, sy, sz, co, L, ps) = tPar2 T th (alA T (i + 3)) (inA T (i + 3 + bn1 (alA T (i + 3)))) (i + 3 + bn1 (alA T (i + 3)) + bn1 (inA T (i + 3 + bn1 (alA T (i + 3))))) (i, fa, me, ip, ot, rs, hl, ed, sy, sz, co, L, ps) := (if_pos y21).trans (if_neg (fun q => z64 (by rw [q.1]; rfl)))
          rw [e_]
          exact hB9
        · refine bp_iload_n (q := 68) 42 rfl rfl rfl rfl ?_
          refine bp_if_ne (q := 71) (tgt := 78) 43 rfl rfl (by decide) (fun z68 => ?_) (fun z68 => ?_)
          · have y21 : tc T (i + 2) = 32 := (rg_is hT (k := i + 2) (v := 32) (by omega) (by decide) (by decide)).mp z21
            refine tl_TR_par hT hB0 (by have := bn1_le (alA T (i + 3)); have := bn1_le (inA T (i + 3 + bn1 (alA T (i + 3)))); omega) (fun h9 τ9 hB9 => hQ h9 τ9 ?_)
            have e_ : tPar T th (i, fa, me, ip, ot, rs, hl, ed, sy, sz, co, L, ps) = tPar2 T th (alA T (i + 3)) (inA T (i + 3 + bn1 (alA T (i + 3)))) (i + 3 + bn1 (alA T (i + 3)) + bn1 (inA T (i + 3 + bn1 (alA T (i + 3))))) (i, fa, me, ip, ot, rs, hl, ed, sy, sz, co, L, ps) := (if_pos y21).trans (if_neg (fun q => z68 (by rw [q.2]; rfl)))
            rw [e_]
            exact hB9
          · refine bp_aload_n (q := 72) 44 rfl rfl rfl rfl ?_
            refine bp_bipush (v := -9) (q := 74) 45 rfl rfl (by decide) ?_
            refine bp_callU (q := 77) (ci := 6) (owner := "BracedPages$Reader") 46 rfl rfl cw_Rd_fail wd747 wd748 (Or.inr rfl) ⟨by decide, by decide⟩ rfl rfl hB0.kb wd594 wd749 rfl rfl (Nat.le_of_ble_eq_true rfl) ⟨Nat.le_of_ble_eq_true rfl, Nat.le_of_ble_eq_true rfl⟩ (s_TR_fail hB0 (fun h1 hB1 => ?_))
            refine bp_vret 47 rfl rfl  ⟨_, rfl, ?_⟩
            have y21 : tc T (i + 2) = 32 := (rg_is hT (k := i + 2) (v := 32) (by omega) (by decide) (by decide)).mp z21
            have y64 : alA T (i + 3) = 0 := (nI_eq_iff (b := 0) (by have := alA_lt (T := T) (i + 3); omega) (by decide)).mp z64
            have y68 : inA T (i + 3 + bn1 (alA T (i + 3))) = 0 := (nI_eq_iff (b := 0) (by have := inA_lt (T := T) (i + 3 + bn1 (alA T (i + 3))); omega) (by decide)).mp z68
            have e_ : tPar T th (i, fa, me, ip, ot, rs, hl, ed, sy, sz, co, L, ps) = tFl (-9) th (i, fa, me, ip, ot, rs, hl, ed, sy, sz, co, L, ps) := (if_pos y21).trans (if_pos ⟨y64, y68⟩)
            exact hQ _ _ (Tr.cast (τ := (th, nu, ne)) e_ hB1)
set_option maxRecDepth 100000 in
set_option maxHeartbeats 4000000 in
theorem s_TR_readTag  (hB0 : TrX A P T h0 h i fa me ip ot rs hl ed sy sz co L ps th nu ne) (hT : okT T) (hi4 : i ≤ 400) (ok : okY T i fa ip ot rs sy sz co L ps) (hQ : ∀ h' τ', Tr A P T h0 h' (tTag T th (i, fa, me, ip, ot, rs, hl, ed, sy, sz, co, L, ps)) τ' → Q none h' c s) : bp_AM l G H0 (4, 89, false, false) M_TR_readTag h c s [.ref (A 0)] Q := by
  refine bp_of (ls := [some (.ref (A 0)), none]) (by decide) dt_TR_readTag (Nat.le_of_ble_eq_true rfl) (fun q hq => hq) false ?_
  refine bp_aload_n (q := 1) 0 rfl rfl rfl rfl ?_
  refine bp_getR (x := A 1) (q := 4) (ci := 6) (j := 10) 1 rfl rfl fl_TR_19_6 hB0.kb rfl hB0.r10 ?_
  refine bp_aload_n (q := 5) 2 rfl rfl rfl rfl ?_
  refine bp_getI (q := 8) (ci := 6) (j := 12) 3 rfl rfl fl_TR_23_6 hB0.kb rfl ?_
  rw [hB0.i12]
  refine bp_iconst (v := 1) (q := 9) 4 rfl rfl (by decide) ?_
  refine bp_iadd (q := 10) 5 rfl rfl ?_
  rw [nI_1]
  refine bp_callV (q := 13) (ci := 1) 6 rfl rfl cw_Row_get lk_TR_27 rfl hB0.kx wd438 wd439 rfl rfl (Nat.le_of_ble_eq_true rfl) ⟨Nat.le_of_ble_eq_true rfl, Nat.le_of_ble_eq_true rfl⟩ (s_Row_get (ro := false) hB0.tx ?_)
  refine bp_istore_n (q := 14) 7 rfl rfl rfl (by decide) (bp_up1 rfl) ?_
  refine bp_iload_n (q := 15) 8 rfl rfl rfl rfl ?_
  refine bp_bipush (v := 112) (q := 17) 9 rfl rfl (by decide) ?_
  refine bp_icmp_ne (q := 20) (tgt := 27) 10 rfl rfl (by decide) (fun z17 => ?_) (fun z17 => ?_)
  · refine bp_iload_n (q := 28) 14 rfl rfl rfl rfl ?_
    refine bp_bipush (v := 47) (q := 30) 15 rfl rfl (by decide) ?_
    refine bp_icmp_ne (q := 33) (tgt := 40) 16 rfl rfl (by decide) (fun z30 => ?_) (fun z30 => ?_)
    · refine bp_aload_n (q := 41) 20 rfl rfl rfl rfl ?_
      refine bp_iload_n (q := 42) 21 rfl rfl rfl rfl ?_
      refine bp_callS (q := 45) 22 rfl rfl cw_TR_tagOf lk_TR_77 wd757 rfl rfl (Nat.le_of_ble_eq_true rfl) ⟨Nat.le_of_ble_eq_true rfl, Nat.le_of_ble_eq_true rfl⟩ (s_TR_tagOf (ro := false) (k := i + 1) hT (by omega) ?_)
      refine bp_callV (q := 48) (ci := 6) 23 rfl rfl cw_TR_readRunTag lk_TR_80 rfl hB0.kb wd769 wd27 rfl rfl (Nat.le_of_ble_eq_true rfl) ⟨Nat.le_of_ble_eq_true rfl, Nat.le_of_ble_eq_true rfl⟩ (s_TR_readRunTag hB0 hT hi4 (fun k hk => tgO_lt hk) ok (fun h1 τ1 hX => ?_))
      refine bp_vret 24 rfl rfl  ⟨_, rfl, ?_⟩
      have e_ : tTag T th (i, fa, me, ip, ot, rs, hl, ed, sy, sz, co, L, ps) = tRun T th (tgO (tc T (i + 1))) (i, fa, me, ip, ot, rs, hl, ed, sy, sz, co, L, ps) := (if_neg (mt (rg_is hT (k := i + 1) (v := 112) (by omega) (by decide) (by decide)).mpr z17)).trans (if_neg (mt (rg_is hT (k := i + 1) (v := 47) (by omega) (by decide) (by decide)).mpr z30))
      exact hQ _ _ (Tr.cast e_ hX)
    · refine bp_aload_n (q := 34) 17 rfl rfl rfl rfl ?_
      refine bp_callV (q := 37) (ci := 6) 18 rfl rfl cw_TR_readEndTag lk_TR_74 rfl hB0.kb wd754 wd24 rfl rfl (Nat.le_of_ble_eq_true rfl) ⟨Nat.le_of_ble_eq_true rfl, Nat.le_of_ble_eq_true rfl⟩ (s_TR_readEndTag hB0 hT hi4 ok (fun h1 τ1 hX => ?_))
      refine bp_goto (tgt := 48) 19 rfl (by decide) ?_
      refine bp_vret 24 rfl rfl  ⟨_, rfl, ?_⟩
      have e_ : tTag T th (i, fa, me, ip, ot, rs, hl, ed, sy, sz, co, L, ps) = tEndTag T th (i, fa, me, ip, ot, rs, hl, ed, sy, sz, co, L, ps) := (if_neg (mt (rg_is hT (k := i + 1) (v := 112) (by omega) (by decide) (by decide)).mpr z17)).trans (if_pos ((rg_is hT (k := i + 1) (v := 47) (by omega) (by decide) (by decide)).mp z30))
      exact hQ _ _ (Tr.cast e_ hX)
  · refine bp_aload_n (q := 21) 11 rfl rfl rfl rfl ?_
    refine bp_callV (q := 24) (ci := 6) 12 rfl rfl cw_TR_readParagraphTag lk_TR_71 rfl hB0.kb wd736 wd21 rfl rfl (Nat.le_of_ble_eq_true rfl) ⟨Nat.le_of_ble_eq_true rfl, Nat.le_of_ble_eq_true rfl⟩ (s_TR_readParagraphTag hB0 hT hi4 (fun h1 τ1 hX => ?_))
    refine bp_goto (tgt := 48) 13 rfl (by decide) ?_
    refine bp_vret 24 rfl rfl  ⟨_, rfl, ?_⟩
    have e_ : tTag T th (i, fa, me, ip, ot, rs, hl, ed, sy, sz, co, L, ps) = tPar T th (i, fa, me, ip, ot, rs, hl, ed, sy, sz, co, L, ps) := if_pos ((rg_is hT (k := i + 1) (v := 112) (by omega) (by decide) (by decide)).mp z17)
    exact hQ _ _ (Tr.cast e_ hX)
theorem nm_no {a ip ed : Bool} {x : Nat} (h1 : a = true) (h2 : x = 59) (h3 : ip = true ∧ ed = false) : ¬ (a = false ∨ x ≠ 59 ∨ ip = false ∨ ed = true) := fun q => by
  rw [h1, h3.1, h3.2] at q
  rcases q with q | q | q | q
  · cases q
  · exact q h2
  · cases q
  · cases q
set_option maxRecDepth 100000 in
set_option maxHeartbeats 4000000 in
theorem s_TR_readNamed  (hB0 : TrX A P T h0 h i fa me ip ot rs hl ed sy sz co L ps th nu ne) (hT : okT T) (hi : i < T.length) (ok : okY T i fa ip ot rs sy sz co L ps) (h0_ : fa = 0) (hL : L.length < 400) (hQ : ∀ h' τ', Tr A P T h0 h' (tNamed T th (i, fa, me, ip, ot, rs, hl, ed, sy, sz, co, L, ps)) τ' → Q none h' c s) : bp_AM l G H0 (6, 129, false, false) M_TR_readNamedLetter h c s [.ref (A 0)] Q := by
  refine bp_of (ls := [some (.ref (A 0))]) (by decide) dt_TR_readNamedLetter (Nat.le_of_ble_eq_true rfl) (fun q hq => hq) false ?_
  have hT1 := hT.1
  have hb : ∀ j, j < T.length → T.getD j 0 < 1000000 := fun j hj => by have := (hT.2 j hj).2; omega
  refine bp_aload_n (q := 1) 0 rfl rfl rfl rfl ?_
  refine bp_getR (x := A 1) (q := 4) (ci := 6) (j := 10) 1 rfl rfl fl_TR_19_6 hB0.kb rfl hB0.r10 ?_
  refine bp_aload_n (q := 5) 2 rfl rfl rfl rfl ?_
  refine bp_getI (q := 8) (ci := 6) (j := 12) 3 rfl rfl fl_TR_23_6 hB0.kb rfl ?_
  rw [hB0.i12]
  refine bp_aload_n (q := 9) 4 rfl rfl rfl rfl ?_
  refine bp_getI (q := 12) (ci := 6) (j := 12) 5 rfl rfl fl_TR_23_6 hB0.kb rfl ?_
  rw [hB0.i12]
  refine bp_iconst (v := 4) (q := 13) 6 rfl rfl (by decide) ?_
  refine bp_iadd (q := 14) 7 rfl rfl ?_
  rw [show nI i + 4 = nI (i + 4) from nI_add i 4]
  refine bp_ldcs hs24 (q := 16) 8 rfl rfl rfl rfl ?_
  refine bp_callV (q := 19) (ci := 1) 9 rfl rfl cw_Row_spells lk_TR_139 rfl hB0.kx wd525 wd526 rfl rfl (Nat.le_of_ble_eq_true rfl) ⟨Nat.le_of_ble_eq_true rfl, Nat.le_of_ble_eq_true rfl⟩ (s_Row_spells (ro := false) (u := i) (v := i + 4) hs24 hB0.tx hb (by omega) (by omega) ?_)
  rw [st24]
  refine bp_if_eq (q := 22) (tgt := 37) 10 rfl rfl (by decide) (fun z19 => ?_) (fun z19 => ?_)
  · refine bp_aload_n (q := 38) 19 rfl rfl rfl rfl ?_
    refine bp_getR (x := A 1) (q := 41) (ci := 6) (j := 10) 20 rfl rfl fl_TR_19_6 hB0.kb rfl hB0.r10 ?_
    refine bp_aload_n (q := 42) 21 rfl rfl rfl rfl ?_
    refine bp_getI (q := 45) (ci := 6) (j := 12) 22 rfl rfl fl_TR_23_6 hB0.kb rfl ?_
    rw [hB0.i12]
    refine bp_aload_n (q := 46) 23 rfl rfl rfl rfl ?_
    refine bp_getI (q := 49) (ci := 6) (j := 12) 24 rfl rfl fl_TR_23_6 hB0.kb rfl ?_
    rw [hB0.i12]
    refine bp_iconst (v := 4) (q := 50) 25 rfl rfl (by decide) ?_
    refine bp_iadd (q := 51) 26 rfl rfl ?_
    rw [show nI i + 4 = nI (i + 4) from nI_add i 4]
    refine bp_ldcs hs25 (q := 53) 27 rfl rfl rfl rfl ?_
    refine bp_callV (q := 56) (ci := 1) 28 rfl rfl cw_Row_spells lk_TR_139 rfl hB0.kx wd525 wd526 rfl rfl (Nat.le_of_ble_eq_true rfl) ⟨Nat.le_of_ble_eq_true rfl, Nat.le_of_ble_eq_true rfl⟩ (s_Row_spells (ro := false) (u := i) (v := i + 4) hs25 hB0.tx hb (by omega) (by omega) ?_)
    rw [st25]
    refine bp_if_eq (q := 59) (tgt := 74) 29 rfl rfl (by decide) (fun z56 => ?_) (fun z56 => ?_)
    · refine bp_aload_n (q := 75) 38 rfl rfl rfl rfl ?_
      refine bp_getR (x := A 1) (q := 78) (ci := 6) (j := 10) 39 rfl rfl fl_TR_19_6 hB0.kb rfl hB0.r10 ?_
      refine bp_aload_n (q := 79) 40 rfl rfl rfl rfl ?_
      refine bp_getI (q := 82) (ci := 6) (j := 12) 41 rfl rfl fl_TR_23_6 hB0.kb rfl ?_
      rw [hB0.i12]
      refine bp_aload_n (q := 83) 42 rfl rfl rfl rfl ?_
      refine bp_getI (q := 86) (ci := 6) (j := 12) 43 rfl rfl fl_TR_23_6 hB0.kb rfl ?_
      rw [hB0.i12]
      refine bp_iconst (v := 5) (q := 87) 44 rfl rfl (by decide) ?_
      refine bp_iadd (q := 88) 45 rfl rfl ?_
      rw [show nI i + 5 = nI (i + 5) from nI_add i 5]
      refine bp_ldcs hs26 (q := 90) 46 rfl rfl rfl rfl ?_
      refine bp_callV (q := 93) (ci := 1) 47 rfl rfl cw_Row_spells lk_TR_139 rfl hB0.kx wd525 wd526 rfl rfl (Nat.le_of_ble_eq_true rfl) ⟨Nat.le_of_ble_eq_true rfl, Nat.le_of_ble_eq_true rfl⟩ (s_Row_spells (ro := false) (u := i) (v := i + 5) hs26 hB0.tx hb (by omega) (by omega) ?_)
      rw [st26]
      refine bp_if_eq (q := 96) (tgt := 111) 48 rfl rfl (by decide) (fun z93 => ?_) (fun z93 => ?_)
      · refine bp_aload_n (q := 112) 57 rfl rfl rfl rfl ?_
        refine bp_aload_n (q := 113) 58 rfl rfl rfl rfl ?_
        refine bp_getI (q := 116) (ci := 6) (j := 12) 59 rfl rfl fl_TR_23_6 hB0.kb rfl ?_
        rw [hB0.i12]
        refine bp_iconst (v := 1) (q := 117) 60 rfl rfl (by decide) ?_
        refine bp_iadd (q := 118) 61 rfl rfl ?_
        rw [nI_1]
        refine bp_callV (q := 121) (ci := 6) 62 rfl rfl cw_TR_readNumber lk_TR_125 rfl hB0.kb wd777 wd29 rfl rfl (Nat.le_of_ble_eq_true rfl) ⟨Nat.le_of_ble_eq_true rfl, Nat.le_of_ble_eq_true rfl⟩ (s_TR_readNumber hB0 hT (by omega) (fun h1 hB1 => ?_))
        refine bp_if_eq (q := 124) (tgt := 147) 63 rfl rfl (by decide) (fun z121 => ?_) (fun z121 => ?_)
        · refine bp_aload_n (q := 148) 74 rfl rfl rfl rfl ?_
          refine bp_bipush (v := -9) (q := 150) 75 rfl rfl (by decide) ?_
          refine bp_callU (q := 153) (ci := 6) (owner := "BracedPages$Reader") 76 rfl rfl cw_Rd_fail wd747 wd748 (Or.inr rfl) ⟨by decide, by decide⟩ rfl rfl hB1.kb wd594 wd749 rfl rfl (Nat.le_of_ble_eq_true rfl) ⟨Nat.le_of_ble_eq_true rfl, Nat.le_of_ble_eq_true rfl⟩ (s_TR_fail hB1 (fun h2 hB2 => ?_))
          refine bp_goto (tgt := 194) 77 rfl (by decide) ?_
          refine bp_vret 96 rfl rfl  ⟨_, rfl, ?_⟩
          have e_ : tNamed T th (i, fa, me, ip, ot, rs, hl, ed, sy, sz, co, L, ps) = (i, -9, nI th, ip, ot, rs, hl, ed, sy, sz, co, L, ps) := (if_neg (by rw [bI0.mp z19]; decide)).trans ((if_neg (by rw [bI0.mp z56]; decide)).trans ((if_neg (by rw [bI0.mp z93]; decide)).trans (if_pos (Or.inl (bI0.mp z121)))))
          exact hQ _ _ (Tr.cast (τ := (th, tnV T (i + 1), tnE T (i + 1))) e_ hB2)
        · refine bp_aload_n (q := 125) 64 rfl rfl rfl rfl ?_
          refine bp_getR (x := A 1) (q := 128) (ci := 6) (j := 10) 65 rfl rfl fl_TR_19_6 hB1.kb rfl hB1.r10 ?_
          refine bp_aload_n (q := 129) 66 rfl rfl rfl rfl ?_
          refine bp_getI (q := 132) (ci := 6) (j := 9) 67 rfl rfl fl_TR_128_6 hB1.kb rfl ?_
          rw [hB1.i9]
          refine bp_callV (q := 135) (ci := 1) 68 rfl rfl cw_Row_get lk_TR_27 rfl hB1.kx wd438 wd439 rfl rfl (Nat.le_of_ble_eq_true rfl) ⟨Nat.le_of_ble_eq_true rfl, Nat.le_of_ble_eq_true rfl⟩ (s_Row_get (ro := false) hB1.tx ?_)
          refine bp_bipush (v := 59) (q := 137) 69 rfl rfl (by decide) ?_
          refine bp_icmp_ne (q := 140) (tgt := 147) 70 rfl rfl (by decide) (fun z137 => ?_) (fun z137 => ?_)
          · refine bp_aload_n (q := 148) 74 rfl rfl rfl rfl ?_
            refine bp_bipush (v := -9) (q := 150) 75 rfl rfl (by decide) ?_
            refine bp_callU (q := 153) (ci := 6) (owner := "BracedPages$Reader") 76 rfl rfl cw_Rd_fail wd747 wd748 (Or.inr rfl) ⟨by decide, by decide⟩ rfl rfl hB1.kb wd594 wd749 rfl rfl (Nat.le_of_ble_eq_true rfl) ⟨Nat.le_of_ble_eq_true rfl, Nat.le_of_ble_eq_true rfl⟩ (s_TR_fail hB1 (fun h2 hB2 => ?_))
            refine bp_goto (tgt := 194) 77 rfl (by decide) ?_
            refine bp_vret 96 rfl rfl  ⟨_, rfl, ?_⟩
            have e_ : tNamed T th (i, fa, me, ip, ot, rs, hl, ed, sy, sz, co, L, ps) = (i, -9, nI th, ip, ot, rs, hl, ed, sy, sz, co, L, ps) := (if_neg (by rw [bI0.mp z19]; decide)).trans ((if_neg (by rw [bI0.mp z56]; decide)).trans ((if_neg (by rw [bI0.mp z93]; decide)).trans (if_pos (Or.inr (Or.inl (mt (rg_is hT (k := tnE T (i + 1)) (v := 59) (by have := tnE_in (T := T) (k := i + 1) (by omega); omega) (by decide) (by decide)).mpr z137))))))
            exact hQ _ _ (Tr.cast (τ := (th, tnV T (i + 1), tnE T (i + 1))) e_ hB2)
          · refine bp_aload_n (q := 141) 71 rfl rfl rfl rfl ?_
            refine bp_callV (q := 144) (ci := 6) 72 rfl rfl cw_TR_letterMayStand lk_TR_147 rfl hB1.kb wd796 wd33 rfl rfl (Nat.le_of_ble_eq_true rfl) ⟨Nat.le_of_ble_eq_true rfl, Nat.le_of_ble_eq_true rfl⟩ (s_TR_mayStand (ro := false) hB1 ?_)
            refine bp_if_ne (q := 147) (tgt := 156) 73 rfl rfl (by decide) (fun z144 => ?_) (fun z144 => ?_)
            · refine bp_aload_n (q := 157) 78 rfl rfl rfl rfl ?_
              refine bp_getI (q := 160) (ci := 6) (j := 8) 79 rfl rfl fl_TR_131_6 hB1.kb rfl ?_
              rw [hB1.i8]
              refine bp_bipush (v := 127) (q := 162) 80 rfl rfl (by decide) ?_
              refine bp_sipush (v := 255) (q := 165) 81 rfl rfl (by decide) ?_
              refine bp_callS (q := 168) 82 rfl rfl cw_X_isWithin lk_TR_102 wd653 rfl rfl (Nat.le_of_ble_eq_true rfl) ⟨Nat.le_of_ble_eq_true rfl, Nat.le_of_ble_eq_true rfl⟩ (s_X_isWithin (ro := false) ?_)
              refine bp_if_ne (q := 171) (tgt := 180) 83 rfl rfl (by decide) (fun z168 => ?_) (fun z168 => ?_)
              · refine bp_aload_n (q := 181) 88 rfl rfl rfl rfl ?_
                refine bp_aload_n (q := 182) 89 rfl rfl rfl rfl ?_
                refine bp_getI (q := 185) (ci := 6) (j := 8) 90 rfl rfl fl_TR_131_6 hB1.kb rfl ?_
                rw [hB1.i8]
                refine bp_aload_n (q := 186) 91 rfl rfl rfl rfl ?_
                refine bp_getI (q := 189) (ci := 6) (j := 9) 92 rfl rfl fl_TR_128_6 hB1.kb rfl ?_
                rw [hB1.i9]
                refine bp_iconst (v := 1) (q := 190) 93 rfl rfl (by decide) ?_
                refine bp_iadd (q := 191) 94 rfl rfl ?_
                rw [nI_1]
                refine bp_callV (q := 194) (ci := 6) 95 rfl rfl cw_TR_readLetter lk_TR_43 rfl hB1.kb wd792 wd32 rfl rfl (Nat.le_of_ble_eq_true rfl) ⟨Nat.le_of_ble_eq_true rfl, Nat.le_of_ble_eq_true rfl⟩ (s_TR_readLetter (k := tnV T (i + 1)) (j := tnE T (i + 1) + 1) hB1 rfl rfl ok h0_ hL (fun h2 τ2 hX => ?_))
                refine bp_vret 96 rfl rfl  ⟨_, rfl, ?_⟩
                have e_ : tNamed T th (i, fa, me, ip, ot, rs, hl, ed, sy, sz, co, L, ps) = tLetter th (tnV T (i + 1)) (tnE T (i + 1) + 1) (i, fa, me, ip, ot, rs, hl, ed, sy, sz, co, L, ps) := (if_neg (by rw [bI0.mp z19]; decide)).trans ((if_neg (by rw [bI0.mp z56]; decide)).trans ((if_neg (by rw [bI0.mp z93]; decide)).trans ((if_neg (nm_no (bI1 z121) ((rg_is hT (k := tnE T (i + 1)) (v := 59) (by have := tnE_in (T := T) (k := i + 1) (by omega); omega) (by decide) (by decide)).mp z137) (may1 z144))).trans (if_neg (by rw [bI1 z168]; decide)))))
                exact hQ _ _ (Tr.cast e_ hX)
              · refine bp_aload_n (q := 172) 84 rfl rfl rfl rfl ?_
                refine bp_bipush (v := -5) (q := 174) 85 rfl rfl (by decide) ?_
                refine bp_callU (q := 177) (ci := 6) (owner := "BracedPages$Reader") 86 rfl rfl cw_Rd_fail wd747 wd748 (Or.inr rfl) ⟨by decide, by decide⟩ rfl rfl hB1.kb wd594 wd749 rfl rfl (Nat.le_of_ble_eq_true rfl) ⟨Nat.le_of_ble_eq_true rfl, Nat.le_of_ble_eq_true rfl⟩ (s_TR_fail hB1 (fun h2 hB2 => ?_))
                refine bp_goto (tgt := 194) 87 rfl (by decide) ?_
                refine bp_vret 96 rfl rfl  ⟨_, rfl, ?_⟩
                have e_ : tNamed T th (i, fa, me, ip, ot, rs, hl, ed, sy, sz, co, L, ps) = (i, -5, nI th, ip, ot, rs, hl, ed, sy, sz, co, L, ps) := (if_neg (by rw [bI0.mp z19]; decide)).trans ((if_neg (by rw [bI0.mp z56]; decide)).trans ((if_neg (by rw [bI0.mp z93]; decide)).trans ((if_neg (nm_no (bI1 z121) ((rg_is hT (k := tnE T (i + 1)) (v := 59) (by have := tnE_in (T := T) (k := i + 1) (by omega); omega) (by decide) (by decide)).mp z137) (may1 z144))).trans (if_pos (bI0.mp z168)))))
                exact hQ _ _ (Tr.cast (τ := (th, tnV T (i + 1), tnE T (i + 1))) e_ hB2)
            · refine bp_aload_n (q := 148) 74 rfl rfl rfl rfl ?_
              refine bp_bipush (v := -9) (q := 150) 75 rfl rfl (by decide) ?_
              refine bp_callU (q := 153) (ci := 6) (owner := "BracedPages$Reader") 76 rfl rfl cw_Rd_fail wd747 wd748 (Or.inr rfl) ⟨by decide, by decide⟩ rfl rfl hB1.kb wd594 wd749 rfl rfl (Nat.le_of_ble_eq_true rfl) ⟨Nat.le_of_ble_eq_true rfl, Nat.le_of_ble_eq_true rfl⟩ (s_TR_fail hB1 (fun h2 hB2 => ?_))
              refine bp_goto (tgt := 194) 77 rfl (by decide) ?_
              refine bp_vret 96 rfl rfl  ⟨_, rfl, ?_⟩
              have e_ : tNamed T th (i, fa, me, ip, ot, rs, hl, ed, sy, sz, co, L, ps) = (i, -9, nI th, ip, ot, rs, hl, ed, sy, sz, co, L, ps) := (if_neg (by rw [bI0.mp z19]; decide)).trans ((if_neg (by rw [bI0.mp z56]; decide)).trans ((if_neg (by rw [bI0.mp z93]; decide)).trans (if_pos (Or.inr (Or.inr (may0 z144))))))
              exact hQ _ _ (Tr.cast (τ := (th, tnV T (i + 1), tnE T (i + 1))) e_ hB2)
      · refine bp_aload_n (q := 97) 49 rfl rfl rfl rfl ?_
        refine bp_bipush (v := 38) (q := 99) 50 rfl rfl (by decide) ?_
        refine bp_aload_n (q := 100) 51 rfl rfl rfl rfl ?_
        refine bp_getI (q := 103) (ci := 6) (j := 12) 52 rfl rfl fl_TR_23_6 hB0.kb rfl ?_
        rw [hB0.i12]
        refine bp_iconst (v := 5) (q := 104) 53 rfl rfl (by decide) ?_
        refine bp_iadd (q := 105) 54 rfl rfl ?_
        rw [show nI i + 5 = nI (i + 5) from nI_add i 5]
        refine bp_callV (q := 108) (ci := 6) 55 rfl rfl cw_TR_readLetter lk_TR_43 rfl hB0.kb wd792 wd32 rfl rfl (Nat.le_of_ble_eq_true rfl) ⟨Nat.le_of_ble_eq_true rfl, Nat.le_of_ble_eq_true rfl⟩ (s_TR_readLetter (k := 38) (j := i + 5) hB0 rfl rfl ok h0_ hL (fun h1 τ1 hX => ?_))
        refine bp_goto (tgt := 194) 56 rfl (by decide) ?_
        refine bp_vret 96 rfl rfl  ⟨_, rfl, ?_⟩
        have e_ : tNamed T th (i, fa, me, ip, ot, rs, hl, ed, sy, sz, co, L, ps) = tLetter th 38 (i + 5) (i, fa, me, ip, ot, rs, hl, ed, sy, sz, co, L, ps) := (if_neg (by rw [bI0.mp z19]; decide)).trans ((if_neg (by rw [bI0.mp z56]; decide)).trans (if_pos (bI1 z93)))
        exact hQ _ _ (Tr.cast e_ hX)
    · refine bp_aload_n (q := 60) 30 rfl rfl rfl rfl ?_
      refine bp_bipush (v := 62) (q := 62) 31 rfl rfl (by decide) ?_
      refine bp_aload_n (q := 63) 32 rfl rfl rfl rfl ?_
      refine bp_getI (q := 66) (ci := 6) (j := 12) 33 rfl rfl fl_TR_23_6 hB0.kb rfl ?_
      rw [hB0.i12]
      refine bp_iconst (v := 4) (q := 67) 34 rfl rfl (by decide) ?_
      refine bp_iadd (q := 68) 35 rfl rfl ?_
      rw [show nI i + 4 = nI (i + 4) from nI_add i 4]
      refine bp_callV (q := 71) (ci := 6) 36 rfl rfl cw_TR_readLetter lk_TR_43 rfl hB0.kb wd792 wd32 rfl rfl (Nat.le_of_ble_eq_true rfl) ⟨Nat.le_of_ble_eq_true rfl, Nat.le_of_ble_eq_true rfl⟩ (s_TR_readLetter (k := 62) (j := i + 4) hB0 rfl rfl ok h0_ hL (fun h1 τ1 hX => ?_))
      refine bp_goto (tgt := 194) 37 rfl (by decide) ?_
      refine bp_vret 96 rfl rfl  ⟨_, rfl, ?_⟩
      have e_ : tNamed T th (i, fa, me, ip, ot, rs, hl, ed, sy, sz, co, L, ps) = tLetter th 62 (i + 4) (i, fa, me, ip, ot, rs, hl, ed, sy, sz, co, L, ps) := (if_neg (by rw [bI0.mp z19]; decide)).trans (if_pos (bI1 z56))
      exact hQ _ _ (Tr.cast e_ hX)
  · refine bp_aload_n (q := 23) 11 rfl rfl rfl rfl ?_
    refine bp_bipush (v := 60) (q := 25) 12 rfl rfl (by decide) ?_
    refine bp_aload_n (q := 26) 13 rfl rfl rfl rfl ?_
    refine bp_getI (q := 29) (ci := 6) (j := 12) 14 rfl rfl fl_TR_23_6 hB0.kb rfl ?_
    rw [hB0.i12]
    refine bp_iconst (v := 4) (q := 30) 15 rfl rfl (by decide) ?_
    refine bp_iadd (q := 31) 16 rfl rfl ?_
    rw [show nI i + 4 = nI (i + 4) from nI_add i 4]
    refine bp_callV (q := 34) (ci := 6) 17 rfl rfl cw_TR_readLetter lk_TR_43 rfl hB0.kb wd792 wd32 rfl rfl (Nat.le_of_ble_eq_true rfl) ⟨Nat.le_of_ble_eq_true rfl, Nat.le_of_ble_eq_true rfl⟩ (s_TR_readLetter (k := 60) (j := i + 4) hB0 rfl rfl ok h0_ hL (fun h1 τ1 hX => ?_))
    refine bp_goto (tgt := 194) 18 rfl (by decide) ?_
    refine bp_vret 96 rfl rfl  ⟨_, rfl, ?_⟩
    have e_ : tNamed T th (i, fa, me, ip, ot, rs, hl, ed, sy, sz, co, L, ps) = tLetter th 60 (i + 4) (i, fa, me, ip, ot, rs, hl, ed, sy, sz, co, L, ps) := if_pos (bI1 z19)
    exact hQ _ _ (Tr.cast e_ hX)
set_option maxRecDepth 100000 in
set_option maxHeartbeats 4000000 in
theorem s_TR_readThing  (hB0 : TrX A P T h0 h i fa me ip ot rs hl ed sy sz co L ps i nu ne) (hT : okT T) (hi : i < T.length) (ok : okY T i fa ip ot rs sy sz co L ps) (h0_ : fa = 0) (hQ : ∀ h' τ', Tr A P T h0 h' (tThing T (i, fa, me, ip, ot, rs, hl, ed, sy, sz, co, L, ps)) τ' → Q none h' c s) : bp_AM l G H0 (7, 149, false, false) M_TR_readThing h c s [.ref (A 0)] Q := by
  refine bp_of (ls := [some (.ref (A 0)), none]) (by decide) dt_TR_readThing (Nat.le_of_ble_eq_true rfl) (fun q hq => hq) false ?_
  have hT1 := hT.1
  have hx8 := tc_lt hT i
  have hL : L.length < 400 := by have := ok.2.2.2.2.2.2.2.1; omega
  refine bp_aload_n (q := 1) 0 rfl rfl rfl rfl ?_
  refine bp_getR (x := A 1) (q := 4) (ci := 6) (j := 10) 1 rfl rfl fl_TR_19_6 hB0.kb rfl hB0.r10 ?_
  refine bp_aload_n (q := 5) 2 rfl rfl rfl rfl ?_
  refine bp_getI (q := 8) (ci := 6) (j := 12) 3 rfl rfl fl_TR_23_6 hB0.kb rfl ?_
  rw [hB0.i12]
  refine bp_callV (q := 11) (ci := 1) 4 rfl rfl cw_Row_get lk_TR_27 rfl hB0.kx wd438 wd439 rfl rfl (Nat.le_of_ble_eq_true rfl) ⟨Nat.le_of_ble_eq_true rfl, Nat.le_of_ble_eq_true rfl⟩ (s_Row_get (ro := false) hB0.tx ?_)
  rw [rg_in hT hi]
  refine bp_istore_n (q := 12) 5 rfl rfl rfl (by decide) (bp_up1 rfl) ?_
  refine bp_iload_n (q := 13) 6 rfl rfl rfl rfl ?_
  refine bp_bipush (v := 60) (q := 15) 7 rfl rfl (by decide) ?_
  refine bp_icmp_ne (q := 18) (tgt := 25) 8 rfl rfl (by decide) (fun z15 => ?_) (fun z15 => ?_)
  · refine bp_iload_n (q := 26) 12 rfl rfl rfl rfl ?_
    refine bp_bipush (v := 38) (q := 28) 13 rfl rfl (by decide) ?_
    refine bp_icmp_ne (q := 31) (tgt := 38) 14 rfl rfl (by decide) (fun z28 => ?_) (fun z28 => ?_)
    · refine bp_iload_n (q := 39) 18 rfl rfl rfl rfl ?_
      refine bp_bipush (v := 62) (q := 41) 19 rfl rfl (by decide) ?_
      refine bp_icmp_eq (q := 44) (tgt := 50) 20 rfl rfl (by decide) (fun z41 => ?_) (fun z41 => ?_)
      · refine bp_aload_n (q := 51) 24 rfl rfl rfl rfl ?_
        refine bp_bipush (v := -9) (q := 53) 25 rfl rfl (by decide) ?_
        refine bp_callU (q := 56) (ci := 6) (owner := "BracedPages$Reader") 26 rfl rfl cw_Rd_fail wd747 wd748 (Or.inr rfl) ⟨by decide, by decide⟩ rfl rfl hB0.kb wd594 wd749 rfl rfl (Nat.le_of_ble_eq_true rfl) ⟨Nat.le_of_ble_eq_true rfl, Nat.le_of_ble_eq_true rfl⟩ (s_TR_fail hB0 (fun h1 hB1 => ?_))
        refine bp_goto (tgt := 70) 27 rfl (by decide) ?_
        refine bp_vret 35 rfl rfl  ⟨_, rfl, ?_⟩
        have e_ : tThing T (i, fa, me, ip, ot, rs, hl, ed, sy, sz, co, L, ps) = tFl (-9) i (i, fa, me, ip, ot, rs, hl, ed, sy, sz, co, L, ps) := (if_neg (fun q => z15 (by rw [show tc T i = 60 from q]; rfl))).trans ((if_neg (fun q => z28 (by rw [show tc T i = 38 from q]; rfl))).trans (if_pos (Or.inl ((nI_eq_iff (b := 62) (by omega) (by decide)).mp z41))))
        exact hQ _ _ (Tr.cast (τ := (i, nu, ne)) e_ hB1)
      · refine bp_iload_n (q := 45) 21 rfl rfl rfl rfl ?_
        refine bp_bipush (v := 10) (q := 47) 22 rfl rfl (by decide) ?_
        refine bp_icmp_ne (q := 50) (tgt := 59) 23 rfl rfl (by decide) (fun z47 => ?_) (fun z47 => ?_)
        · refine bp_aload_n (q := 60) 28 rfl rfl rfl rfl ?_
          refine bp_iload_n (q := 61) 29 rfl rfl rfl rfl ?_
          refine bp_aload_n (q := 62) 30 rfl rfl rfl rfl ?_
          refine bp_getI (q := 65) (ci := 6) (j := 12) 31 rfl rfl fl_TR_23_6 hB0.kb rfl ?_
          rw [hB0.i12]
          refine bp_iconst (v := 1) (q := 66) 32 rfl rfl (by decide) ?_
          refine bp_iadd (q := 67) 33 rfl rfl ?_
          rw [nI_1]
          refine bp_callV (q := 70) (ci := 6) 34 rfl rfl cw_TR_readLetter lk_TR_43 rfl hB0.kb wd792 wd32 rfl rfl (Nat.le_of_ble_eq_true rfl) ⟨Nat.le_of_ble_eq_true rfl, Nat.le_of_ble_eq_true rfl⟩ (s_TR_readLetter (k := tc T i) (j := i + 1) hB0 rfl rfl ok h0_ hL (fun h1 τ1 hX => ?_))
          refine bp_vret 35 rfl rfl  ⟨_, rfl, ?_⟩
          have e_ : tThing T (i, fa, me, ip, ot, rs, hl, ed, sy, sz, co, L, ps) = tLetter i (tc T i) (i + 1) (i, fa, me, ip, ot, rs, hl, ed, sy, sz, co, L, ps) := (if_neg (fun q => z15 (by rw [show tc T i = 60 from q]; rfl))).trans ((if_neg (fun q => z28 (by rw [show tc T i = 38 from q]; rfl))).trans (if_neg (fun q => q.elim (fun q => z41 (by rw [show tc T i = 62 from q]; rfl)) (fun q => z47 (by rw [show tc T i = 10 from q]; rfl)))))
          exact hQ _ _ (Tr.cast e_ hX)
        · refine bp_aload_n (q := 51) 24 rfl rfl rfl rfl ?_
          refine bp_bipush (v := -9) (q := 53) 25 rfl rfl (by decide) ?_
          refine bp_callU (q := 56) (ci := 6) (owner := "BracedPages$Reader") 26 rfl rfl cw_Rd_fail wd747 wd748 (Or.inr rfl) ⟨by decide, by decide⟩ rfl rfl hB0.kb wd594 wd749 rfl rfl (Nat.le_of_ble_eq_true rfl) ⟨Nat.le_of_ble_eq_true rfl, Nat.le_of_ble_eq_true rfl⟩ (s_TR_fail hB0 (fun h1 hB1 => ?_))
          refine bp_goto (tgt := 70) 27 rfl (by decide) ?_
          refine bp_vret 35 rfl rfl  ⟨_, rfl, ?_⟩
          have e_ : tThing T (i, fa, me, ip, ot, rs, hl, ed, sy, sz, co, L, ps) = tFl (-9) i (i, fa, me, ip, ot, rs, hl, ed, sy, sz, co, L, ps) := (if_neg (fun q => z15 (by rw [show tc T i = 60 from q]; rfl))).trans ((if_neg (fun q => z28 (by rw [show tc T i = 38 from q]; rfl))).trans (if_pos (Or.inr ((nI_eq_iff (b := 10) (by omega) (by decide)).mp z47))))
          exact hQ _ _ (Tr.cast (τ := (i, nu, ne)) e_ hB1)
    · refine bp_aload_n (q := 32) 15 rfl rfl rfl rfl ?_
      refine bp_callV (q := 35) (ci := 6) 16 rfl rfl cw_TR_readNamedLetter lk_TR_36 rfl hB0.kb wd786 wd31 rfl rfl (Nat.le_of_ble_eq_true rfl) ⟨Nat.le_of_ble_eq_true rfl, Nat.le_of_ble_eq_true rfl⟩ (s_TR_readNamed hB0 hT hi ok h0_ hL (fun h1 τ1 hX => ?_))
      refine bp_goto (tgt := 70) 17 rfl (by decide) ?_
      refine bp_vret 35 rfl rfl  ⟨_, rfl, ?_⟩
      have e_ : tThing T (i, fa, me, ip, ot, rs, hl, ed, sy, sz, co, L, ps) = tNamed T i (i, fa, me, ip, ot, rs, hl, ed, sy, sz, co, L, ps) := (if_neg (fun q => z15 (by rw [show tc T i = 60 from q]; rfl))).trans (if_pos ((nI_eq_iff (b := 38) (by omega) (by decide)).mp z28))
      exact hQ _ _ (Tr.cast e_ hX)
  · refine bp_aload_n (q := 19) 9 rfl rfl rfl rfl ?_
    refine bp_callV (q := 22) (ci := 6) 10 rfl rfl cw_TR_readTag lk_TR_33 rfl hB0.kb wd732 wd20 rfl rfl (Nat.le_of_ble_eq_true rfl) ⟨Nat.le_of_ble_eq_true rfl, Nat.le_of_ble_eq_true rfl⟩ (s_TR_readTag hB0 hT (by omega) ok (fun h1 τ1 hX => ?_))
    refine bp_goto (tgt := 70) 11 rfl (by decide) ?_
    refine bp_vret 35 rfl rfl  ⟨_, rfl, ?_⟩
    have e_ : tThing T (i, fa, me, ip, ot, rs, hl, ed, sy, sz, co, L, ps) = tTag T i (i, fa, me, ip, ot, rs, hl, ed, sy, sz, co, L, ps) := if_pos ((nI_eq_iff (b := 60) (by omega) (by decide)).mp z15)
    exact hQ _ _ (Tr.cast e_ hX)
set_option maxRecDepth 100000 in
set_option maxHeartbeats 4000000 in
theorem s_TR_finish  (hB0 : TrX A P T h0 h i fa me ip ot rs hl ed sy sz co L ps th nu ne) (hQ : ∀ h' τ', Tr A P T h0 h' (tFin T (i, fa, me, ip, ot, rs, hl, ed, sy, sz, co, L, ps)) τ' → Q none h' c s) : bp_AM l G H0 (1, 22, false, false) M_TR_finish h c s [.ref (A 0)] Q := by
  refine bp_of (ls := [some (.ref (A 0))]) (by decide) dt_TR_finish (Nat.le_of_ble_eq_true rfl) (fun q hq => hq) false ?_
  refine bp_aload_n (q := 1) 0 rfl rfl rfl rfl ?_
  refine bp_getI (q := 4) (ci := 6) (j := 0) 1 rfl rfl fl_TR_9_6 hB0.kb rfl ?_
  rw [hB0.i0]
  refine bp_if_eq (q := 7) (tgt := 20) 2 rfl rfl (by decide) (fun z4 => ?_) (fun z4 => ?_)
  · refine bp_vret 9 rfl rfl  ⟨_, rfl, ?_⟩
    have e_ : tFin T (i, fa, me, ip, ot, rs, hl, ed, sy, sz, co, L, ps) = (i, fa, me, ip, ot, rs, hl, ed, sy, sz, co, L, ps) := if_neg (by rw [bI0.mp z4]; decide)
    refine hQ _ (th, nu, ne) ?_
    rw [e_]
    exact hB0
  · refine bp_aload_n (q := 8) 3 rfl rfl rfl rfl ?_
    refine bp_bipush (v := -9) (q := 10) 4 rfl rfl (by decide) ?_
    refine bp_aload_n (q := 11) 5 rfl rfl rfl rfl ?_
    refine bp_getR (x := A 1) (q := 14) (ci := 6) (j := 10) 6 rfl rfl fl_TR_19_6 hB0.kb rfl hB0.r10 ?_
    refine bp_callV (q := 17) (ci := 1) 7 rfl rfl cw_Row_size lk_TR_47 rfl hB0.kx wd455 wd456 rfl rfl (Nat.le_of_ble_eq_true rfl) ⟨Nat.le_of_ble_eq_true rfl, Nat.le_of_ble_eq_true rfl⟩ (s_Row_size (ro := false) hB0.tx ?_)
    refine bp_callU (q := 20) (ci := 6) (owner := "BracedPages$Reader") 8 rfl rfl cw_Rd_failAt wd816 wd817 (Or.inr rfl) ⟨by decide, by decide⟩ rfl rfl hB0.kb wd445 wd818 rfl rfl (Nat.le_of_ble_eq_true rfl) ⟨Nat.le_of_ble_eq_true rfl, Nat.le_of_ble_eq_true rfl⟩ (s_TR_failAt hB0 (fun h1 hB1 => ?_))
    refine bp_vret 9 rfl rfl  ⟨_, rfl, ?_⟩
    have e_ : tFin T (i, fa, me, ip, ot, rs, hl, ed, sy, sz, co, L, ps) = (i, -9, nI T.length, ip, ot, rs, hl, ed, sy, sz, co, L, ps) := if_pos (bI1 z4)
    exact hQ _ _ (Tr.cast (τ := (th, nu, ne)) e_ hB1)
set_option maxRecDepth 100000 in
set_option maxHeartbeats 4000000 in
theorem tl_TR_read {kk : Option Value} (hB0 : TrX A P T h0 h i fa me ip ot rs hl ed sy sz co L ps th nu ne) (hQ : ∀ h' τ', Tr A P T h0 h' (if fa = 0 then tFin T (i, fa, me, ip, ot, rs, hl, ed, sy, sz, co, L, ps) else (i, fa, me, ip, ot, rs, hl, ed, sy, sz, co, L, ps)) τ' → Q none h' c s) : bp_A l G H0 (9, 198, false, false) M_Rd_read h c s 88 [some (.ref (A 0)), kk] [] (fun o h' c' s' => ∃ v, o = .returned v ∧ Q v h' c' s') := by
  refine bp_aload_n (q := 89) 42 rfl rfl rfl rfl ?_
  refine bp_getI (q := 92) (ci := 6) (j := 14) 43 rfl rfl fl_Rd_19_6 hB0.kb rfl ?_
  rw [hB0.i14]
  refine bp_if_ne (q := 95) (tgt := 99) 44 rfl rfl (by decide) (fun z92 => ?_) (fun z92 => ?_)
  · exact bp_vret 47 rfl rfl  ⟨_, rfl, hQ _ _ (Tr.cast (τ := (th, nu, ne)) (if_neg z92) hB0)⟩
  · refine bp_aload_n (q := 96) 45 rfl rfl rfl rfl ?_
    refine bp_callU (q := 99) (ci := 6) (owner := "BracedPages$Reader") 46 rfl rfl cw_TR_finish wd825 wd827 (Or.inl wd826) ⟨by decide, by decide⟩ rfl rfl hB0.kb wd836 wd835 rfl rfl (Nat.le_of_ble_eq_true rfl) ⟨Nat.le_of_ble_eq_true rfl, Nat.le_of_ble_eq_true rfl⟩ (s_TR_finish hB0 (fun h1 τ1 hX => ?_))
    exact bp_vret 47 rfl rfl  ⟨_, rfl, hQ _ _ (Tr.cast (if_pos z92) hX)⟩
set_option maxRecDepth 100000 in
set_option maxHeartbeats 4000000 in
theorem lp_TR_read (hT : okT T) (hp : ∀ k, k < T.length → tc T k = 10 ∨ 32 ≤ tc T k) : ∀ (m : Nat) {h : bp_H} {τ : Nat × Nat × Nat} (k : Nat) (σ : TS), m + k = T.length → Tr A P T h0 h σ τ → okU T σ → (∀ h' τ', Tr A P T h0 h' (tRes T m σ) τ' → Q none h' c s) → bp_A l G H0 (9, 198, false, false) M_Rd_read h c s 28 [some (.ref (A 0)), some (.int (nI k))] [] (fun o h' c' s' => ∃ v, o = .returned v ∧ Q v h' c' s') := by
  have hT1 := hT.1
  intro m
  induction m with
  | zero =>
    intro h τ k σ hm hB ok hQ
    obtain ⟨i, fa, me, ip, ot, rs, hl, ed, sy, sz, co, L, ps⟩ := σ
    obtain ⟨th, nu, ne⟩ := τ
    have hB0 : TrX A P T h0 h i fa me ip ot rs hl ed sy sz co L ps th nu ne := hB
    have ok : okY T i fa ip ot rs sy sz co L ps := ok
    have hi1 := ok.1
    refine bp_iload_n (q := 29) 16 rfl rfl rfl rfl ?_
    refine bp_aload_n (q := 30) 17 rfl rfl rfl rfl ?_
    refine bp_getR (x := A 1) (q := 33) (ci := 6) (j := 10) 18 rfl rfl fl_Rd_9_6 hB0.kb rfl hB0.r10 ?_
    refine bp_callV (q := 36) (ci := 1) 19 rfl rfl cw_Row_size lk_Rd_37 rfl hB0.kx wd455 wd456 rfl rfl (Nat.le_of_ble_eq_true rfl) ⟨Nat.le_of_ble_eq_true rfl, Nat.le_of_ble_eq_true rfl⟩ (s_Row_size (ro := false) hB0.tx ?_)
    refine bp_icmp_ge (q := 39) (tgt := 88) 20 rfl rfl (by decide) (fun z36 => ?_) (fun z36 => ?_)
    · exact tl_TR_read hB0 hQ
    · exact absurd (nI_le (by omega) (by omega)) z36
  | succ m ih =>
    intro h τ k σ hm hB ok hQ
    obtain ⟨i, fa, me, ip, ot, rs, hl, ed, sy, sz, co, L, ps⟩ := σ
    obtain ⟨th, nu, ne⟩ := τ
    have hB0 : TrX A P T h0 h i fa me ip ot rs hl ed sy sz co L ps th nu ne := hB
    have ok : okY T i fa ip ot rs sy sz co L ps := ok
    have hi1 := ok.1
    refine bp_iload_n (q := 29) 16 rfl rfl rfl rfl ?_
    refine bp_aload_n (q := 30) 17 rfl rfl rfl rfl ?_
    refine bp_getR (x := A 1) (q := 33) (ci := 6) (j := 10) 18 rfl rfl fl_Rd_9_6 hB0.kb rfl hB0.r10 ?_
    refine bp_callV (q := 36) (ci := 1) 19 rfl rfl cw_Row_size lk_Rd_37 rfl hB0.kx wd455 wd456 rfl rfl (Nat.le_of_ble_eq_true rfl) ⟨Nat.le_of_ble_eq_true rfl, Nat.le_of_ble_eq_true rfl⟩ (s_Row_size (ro := false) hB0.tx ?_)
    refine bp_icmp_ge (q := 39) (tgt := 88) 20 rfl rfl (by decide) (fun z36 => ?_) (fun z36 => ?_)
    · exact absurd ((nI_le_iff (by omega) (by omega)).mp z36) (by omega)
    · refine bp_aload_n (q := 40) 21 rfl rfl rfl rfl ?_
      refine bp_getI (q := 43) (ci := 6) (j := 14) 22 rfl rfl fl_Rd_19_6 hB0.kb rfl ?_
      rw [hB0.i14]
      refine bp_if_ne (q := 46) (tgt := 88) 23 rfl rfl (by decide) (fun z43 => ?_) (fun z43 => ?_)
      · refine tl_TR_read hB0 (fun h9 τ9 hB9 => hQ h9 τ9 ?_)
        have e_ : tRes T (m + 1) (i, fa, me, ip, ot, rs, hl, ed, sy, sz, co, L, ps) = _ := if_pos (Or.inl z43)
        rw [e_]
        exact hB9
      · refine bp_aload_n (q := 47) 24 rfl rfl rfl rfl ?_
        refine bp_getI (q := 50) (ci := 6) (j := 12) 25 rfl rfl fl_Rd_31_6 hB0.kb rfl ?_
        rw [hB0.i12]
        refine bp_aload_n (q := 51) 26 rfl rfl rfl rfl ?_
        refine bp_getR (x := A 1) (q := 54) (ci := 6) (j := 10) 27 rfl rfl fl_Rd_9_6 hB0.kb rfl hB0.r10 ?_
        refine bp_callV (q := 57) (ci := 1) 28 rfl rfl cw_Row_size lk_Rd_37 rfl hB0.kx wd455 wd456 rfl rfl (Nat.le_of_ble_eq_true rfl) ⟨Nat.le_of_ble_eq_true rfl, Nat.le_of_ble_eq_true rfl⟩ (s_Row_size (ro := false) hB0.tx ?_)
        refine bp_icmp_ge (q := 60) (tgt := 88) 29 rfl rfl (by decide) (fun z57 => ?_) (fun z57 => ?_)
        · refine tl_TR_read hB0 (fun h9 τ9 hB9 => hQ h9 τ9 ?_)
          have e_ : tRes T (m + 1) (i, fa, me, ip, ot, rs, hl, ed, sy, sz, co, L, ps) = _ := if_pos (Or.inr ((nI_le_iff (by omega) (by omega)).mp z57))
          rw [e_]
          exact hB9
        · refine bp_aload_n (q := 61) 30 rfl rfl rfl rfl ?_
          refine bp_callU (q := 64) (ci := 6) (owner := "BracedPages$Reader") 31 rfl rfl cw_TR_isOver wd458 wd460 (Or.inl wd459) ⟨by decide, by decide⟩ rfl rfl hB0.kb wd465 wd464 rfl rfl (Nat.le_of_ble_eq_true rfl) ⟨Nat.le_of_ble_eq_true rfl, Nat.le_of_ble_eq_true rfl⟩ (s_TR_isOver (ro := false) ?_)
          refine bp_if_eq (q := 67) (tgt := 70) 32 rfl rfl (by decide) (fun z64 => ?_) (fun z => absurd z (by decide))
          refine bp_aload_n (q := 71) 34 rfl rfl rfl rfl ?_
          refine bp_aload_n (q := 72) 35 rfl rfl rfl rfl ?_
          refine bp_getI (q := 75) (ci := 6) (j := 12) 36 rfl rfl fl_Rd_31_6 hB0.kb rfl ?_
          rw [hB0.i12]
          refine bp_putI (q := 78) (ci := 6) (j := 13) 37 rfl rfl fl_Rd_47_6 cl6 hB0.kb (fun r hr => by cases hr; rfl) (by decide) rfl rfl ?_
          refine bp_nx (X := fun h1 => TrX A P T h0 h1 i fa me ip ot rs hl ed sy sz co L ps i nu ne) (hB0.s13 rfl) (fun h1 hB1 => ?_)
          refine bp_aload_n (q := 79) 38 rfl rfl rfl rfl ?_
          have hi : i < T.length := Nat.not_le.mp (mt (nI_le_iff (by omega) (by omega)).mpr z57)
          refine bp_callU (q := 82) (ci := 6) (owner := "BracedPages$Reader") 39 rfl rfl cw_TR_readThing wd467 wd469 (Or.inl wd468) ⟨by decide, by decide⟩ rfl rfl hB1.kb wd727 wd726 rfl rfl (Nat.le_of_ble_eq_true rfl) ⟨Nat.le_of_ble_eq_true rfl, Nat.le_of_ble_eq_true rfl⟩ (s_TR_readThing hB1 hT hi ok z43 (fun h2 τ2 hX => ?_))
          refine bp_iinc (v := nI (k + 1)) (q := 85) 40 rfl rfl rfl (nI_1 k) (by decide) (bp_up1 rfl) ?_
          refine bp_goto (tgt := 28) 41 rfl (by decide) ?_
          have e_ : tRes T (m + 1) (i, fa, me, ip, ot, rs, hl, ed, sy, sz, co, L, ps) = tRes T m (tThing T (i, fa, me, ip, ot, rs, hl, ed, sy, sz, co, L, ps)) := if_neg (fun q => q.elim (fun q => q z43) (fun q => absurd hi (Nat.not_lt.mpr q)))
          rw [e_] at hQ
          exact ih (k + 1) (tThing T (i, fa, me, ip, ot, rs, hl, ed, sy, sz, co, L, ps)) (by omega) hX (okU_thing hT hp (σ := (i, fa, me, ip, ot, rs, hl, ed, sy, sz, co, L, ps)) ok z43 hi).1 hQ
theorem okU_start {T : List Nat} {rs : Nat} (h : rs ≤ 400) : okU T (tStart rs) := ⟨Nat.zero_le _, by decide, h, by decide, fun _ => by decide, (fun z => nomatch z), rfl, ⟨Nat.zero_le _, Nat.zero_le _⟩, ⟨by decide, by decide, fun j hj => absurd hj (Nat.not_lt_zero j), fun k hk => absurd hk (Nat.not_lt_zero k)⟩⟩
set_option maxRecDepth 100000 in
set_option maxHeartbeats 4000000 in
theorem s_TR_read  (hB0 : TrX A P T h0 h i fa me ip ot rs hl ed sy sz co L ps th nu ne) (hT : okT T) (hp : ∀ k, k < T.length → tc T k = 10 ∨ 32 ≤ tc T k) (hrs : rs ≤ 400) (hQ : ∀ h' τ', Tr A P T h0 h' (tRes T T.length (tStart rs)) τ' → Q none h' c s) : bp_AM l G H0 (9, 198, false, false) M_Rd_read h c s [.ref (A 0)] Q := by
  refine bp_of (ls := [some (.ref (A 0)), none]) (by decide) dt_Rd_read (Nat.le_of_ble_eq_true rfl) (fun q hq => hq) false ?_
  refine bp_aload_n (q := 1) 0 rfl rfl rfl rfl ?_
  refine bp_getR (x := P 0) (q := 4) (ci := 6) (j := 11) 1 rfl rfl fl_Rd_15_6 hB0.kb rfl hB0.r11 ?_
  refine bp_callV (q := 7) (ci := 2) 2 rfl rfl cw_Page_empty lk_Rd_26 rfl hB0.kp wd415 wd416 rfl rfl (Nat.le_of_ble_eq_true rfl) ⟨Nat.le_of_ble_eq_true rfl, Nat.le_of_ble_eq_true rfl⟩ (s_Page_empty hB0.pg (fun h1 hP1 f1 => ?_))
  have hB1 := hB0.p hP1 f1
  refine bp_aload_n (q := 8) 3 rfl rfl rfl rfl ?_
  refine bp_iconst (v := 0) (q := 9) 4 rfl rfl (by decide) ?_
  refine bp_putI (q := 12) (ci := 6) (j := 12) 5 rfl rfl fl_Rd_31_6 cl6 hB1.kb (fun r hr => by cases hr; rfl) (by decide) rfl rfl ?_
  refine bp_nx (X := fun h2 => TrX A P T h0 h2 0 fa me ip ot rs hl ed sy sz co [] [] th nu ne) (hB1.s12 rfl) (fun h2 hB2 => ?_)
  refine bp_aload_n (q := 13) 6 rfl rfl rfl rfl ?_
  refine bp_iconst (v := 0) (q := 14) 7 rfl rfl (by decide) ?_
  refine bp_putI (q := 17) (ci := 6) (j := 14) 8 rfl rfl fl_Rd_19_6 cl6 hB2.kb (fun r hr => by cases hr; rfl) (by decide) rfl rfl ?_
  refine bp_nx (X := fun h3 => TrX A P T h0 h3 0 0 me ip ot rs hl ed sy sz co [] [] th nu ne) (hB2.s14 rfl) (fun h3 hB3 => ?_)
  refine bp_aload_n (q := 18) 9 rfl rfl rfl rfl ?_
  refine bp_iconst (v := -1) (q := 19) 10 rfl rfl (by decide) ?_
  refine bp_putI (q := 22) (ci := 6) (j := 15) 11 rfl rfl fl_Rd_23_6 cl6 hB3.kb (fun r hr => by cases hr; rfl) (by decide) rfl rfl ?_
  refine bp_nx (X := fun h4 => TrX A P T h0 h4 0 0 (-1) ip ot rs hl ed sy sz co [] [] th nu ne) (hB3.s15 rfl) (fun h4 hB4 => ?_)
  refine bp_aload_n (q := 23) 12 rfl rfl rfl rfl ?_
  refine bp_callU (q := 26) (ci := 6) (owner := "BracedPages$Reader") 13 rfl rfl cw_TR_start wd419 wd421 (Or.inl wd420) ⟨by decide, by decide⟩ rfl rfl hB4.kb wd448 wd447 rfl rfl (Nat.le_of_ble_eq_true rfl) ⟨Nat.le_of_ble_eq_true rfl, Nat.le_of_ble_eq_true rfl⟩ (s_TR_start hB4 (fun h5 hB5 => ?_))
  refine bp_iconst (v := 0) (q := 27) 14 rfl rfl (by decide) ?_
  refine bp_istore_n (q := 28) 15 rfl rfl rfl (by decide) (bp_up1 rfl) ?_
  exact lp_TR_read hT hp T.length 0 (tStart rs) rfl (τ := (th, nu, ne)) hB5 (okU_start hrs) hQ
end TR2
