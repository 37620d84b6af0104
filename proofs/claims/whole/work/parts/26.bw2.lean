/-! the numbers of the colours of a page -/
def usl (lk : List Nat) (j : Nat) : Bool := lk.any (fun k => decide (k / 8 % 8 = j))
def cu (lk : List Nat) : Nat → Nat
  | 0 => 0
  | j + 1 => cu lk j + (if usl lk (j + 1) then 1 else 0)
def enO (lk : List Nat) (j : Nat) : Nat := if j = 0 then 0 else if usl lk j then cu lk j else 0
theorem cu_le (lk : List Nat) : ∀ j, cu lk j ≤ j
  | 0 => Nat.le_refl 0
  | j + 1 => by have := cu_le lk j; unfold cu; split <;> omega
theorem usl_snoc (lk : List Nat) (x j : Nat) : usl (lk ++ [x]) j = (usl lk j || decide (x / 8 % 8 = j)) := by simp [usl]
/-- what stays while the colours are numbered -/
def NC (h0 h : bp_H) (bw e : Nat) (P : Nat → Nat) (L : List (Nat × Nat)) (ps : List (Nat × Nat × Nat)) : Prop := bp_Fi (fun b => b = e) h0 h ∧ bp_K h bw = 13 ∧ bp_R h bw 0 = some e ∧ bp_R h bw 1 = some (P 0) ∧ bp_K h e = 1 ∧ bp_L h e = 8 ∧ Pg h P L ps ∧ ∀ i, i < 8 → P i ≠ e
theorem NC.put {h0 h : bp_H} {bw e k : Nat} {x : Int32} {P : Nat → Nat} {L : List (Nat × Nat)} {ps : List (Nat × Nat × Nat)} (H : NC h0 h bw e P L ps) : NC h0 (bp_sI h e k x) bw e P L ps := by
  obtain ⟨f, a1, a2, a3, a4, a5, a6, a7⟩ := H
  exact ⟨f.tr (bp_Fi.sI (F := fun b => b = e) rfl), a1, a2, a3, a4, a5, a6.fi (F := fun b => b = e) (bp_Fi.sI rfl) (fun i hi z => a7 i hi z), a7⟩
section BW2
variable {l : Launch} {G : bp_G} {H0 : Heap} {h : bp_H} {c s bw e : Nat} {P : Nat → Nat} {L : List (Nat × Nat)} {ps : List (Nat × Nat × Nat)} {Q : Option Value → bp_H → Nat → Nat → Prop}
set_option maxRecDepth 100000 in
set_option maxHeartbeats 4000000 in
theorem lp_BW_num3 {h0 : bp_H} (hQ : ∀ h', NC h0 h' bw e P L ps → (∀ j, j < 8 → bp_I h' e j = nI (enO (lkL L) j)) → Q (some (.int (nI (cu (lkL L) 7)))) h' c s) :
    ∀ (n m : Nat) (h : bp_H), n + m = 7 → NC h0 h bw e P L ps → (∀ j, j < 8 → bp_I h e j = nI (if j < m + 1 then enO (lkL L) j else if usl (lkL L) j then 1 else 0)) → bp_A l G H0 (2, 42, false, false) M_BW_numberColours h c s 68 [some (.ref bw), some (.int (nI (cu (lkL L) m))), some (.int (nI (m + 1)))] [] (fun o h' c' s' => ∃ v, o = .returned v ∧ Q v h' c' s') := by
  intro n
  induction n with
  | zero =>
    intro m h hn hN hI
    refine bp_iload_n (q := 69) 39 rfl rfl rfl rfl ?_
    refine bp_bipush (v := 7) (q := 71) 40 rfl rfl (by decide) ?_
    refine bp_icmp_gt (q := 74) (tgt := 99) 41 rfl rfl (by decide) (fun z71 => ?_) (fun z71 => ?_)
    · refine bp_iload_n (q := 100) 55 rfl rfl rfl rfl ?_
      refine bp_iret 56 rfl rfl rfl ⟨_, rfl, ?_⟩
      obtain rfl : m = 7 := by omega
      exact hQ h hN (fun j hj => by rw [hI j hj, if_pos (by omega)])
    · exact absurd (nI_lt (a := 7) (by omega) (by omega)) z71
  | succ n ih =>
    intro m h hn hN hI
    have hcl : (nI (m + 1)).toNatClampNeg = m + 1 := nI_clamp (by omega)
    refine bp_iload_n (q := 69) 39 rfl rfl rfl rfl ?_
    refine bp_bipush (v := 7) (q := 71) 40 rfl rfl (by decide) ?_
    refine bp_icmp_gt (q := 74) (tgt := 99) 41 rfl rfl (by decide) (fun z71 => ?_) (fun z71 => ?_)
    · exact absurd z71 (nI_nlt (a := 7) (b := m + 1) (by omega) (by omega))
    · refine bp_aload_n (q := 75) 42 rfl rfl rfl rfl ?_
      refine bp_getR (x := e) (q := 78) (ci := 7) (j := 0) 43 rfl rfl fl_BW_9_7 hN.2.1 rfl hN.2.2.1 ?_
      refine bp_iload_n (q := 79) 44 rfl rfl rfl rfl ?_
      refine bp_iald (q := 80) 45 rfl rfl hN.2.2.2.2.1 (by rw [hN.2.2.2.2.2.1]; exact vp_in_nI (by omega) (by decide)) ?_
      rw [hcl, hI (m + 1) (by omega), if_neg (Nat.lt_irrefl (m + 1))]
      refine bp_if_eq (q := 83) (tgt := 93) 46 rfl rfl (by decide) (fun z80 => ?_) (fun z80 => ?_)
      · refine bp_iinc (v := nI (m + 1 + 1)) (q := 96) 53 rfl rfl rfl (nI_1 (m + 1)) (by decide) (bp_up2 rfl) ?_
        refine bp_goto (tgt := 68) 54 rfl (by decide) ?_
        have no : usl (lkL L) (m + 1) = false := by cases hh : usl (lkL L) (m + 1) with | false => rfl | true => rw [hh] at z80; exact absurd z80 (by decide)
        have ec : cu (lkL L) (m + 1) = cu (lkL L) m := by rw [cu, no]; rfl
        rw [← ec]
        refine ih (m + 1) h (by omega) hN (fun j hj => ?_)
        rw [hI j hj]
        by_cases e1 : j < m + 1
        · rw [if_pos e1, if_pos (by omega)]
        · rw [if_neg e1]
          by_cases e2 : j < m + 1 + 1
          · obtain rfl : j = m + 1 := by omega
            rw [if_pos e2, no, enO, no]; rfl
          · rw [if_neg e2]
      · have yes : usl (lkL L) (m + 1) = true := by
          cases hh : usl (lkL L) (m + 1) with
          | true => rfl
          | false => rw [hh] at z80; exact absurd rfl z80
        refine bp_iinc (v := nI (cu (lkL L) (m + 1))) (q := 86) 47 rfl rfl rfl (by rw [cu, if_pos yes]; exact nI_1 _) (by decide) (bp_up1 rfl) ?_
        refine bp_aload_n (q := 87) 48 rfl rfl rfl rfl ?_
        refine bp_getR (x := e) (q := 90) (ci := 7) (j := 0) 49 rfl rfl fl_BW_9_7 hN.2.1 rfl hN.2.2.1 ?_
        refine bp_iload_n (q := 91) 50 rfl rfl rfl rfl ?_
        refine bp_iload_n (q := 92) 51 rfl rfl rfl rfl ?_
        refine bp_iast (q := 93) 52 rfl rfl hN.2.2.2.2.1 (by rw [show bp_L h e = 8 from hN.2.2.2.2.2.1]; exact vp_in_nI (by omega) (by decide))  ?_
        refine bp_iinc (v := nI (m + 1 + 1)) (q := 96) 53 rfl rfl rfl (nI_1 (m + 1)) (by decide) (bp_up2 rfl) ?_
        refine bp_goto (tgt := 68) 54 rfl (by decide) ?_
        refine ih (m + 1) _ (by omega) hN.put (fun j hj => ?_)
        rw [bp_I_sI, hcl]
        by_cases e1 : j = m + 1
        · subst e1
          rw [if_pos ⟨rfl, rfl⟩, if_pos (by omega), enO, if_neg (by omega), yes, if_pos rfl]
        · rw [if_neg (fun z => e1 z.2), hI j hj]
          by_cases e2 : j < m + 1
          · rw [if_pos e2, if_pos (by omega)]
          · rw [if_neg e2, if_neg (show ¬ j < m + 1 + 1 by omega)]
set_option maxRecDepth 100000 in
set_option maxHeartbeats 4000000 in
theorem lp_BW_num2 {h0 : bp_H} (hok : okP L ps) (hQ : ∀ h', NC h0 h' bw e P L ps → (∀ j, j < 8 → bp_I h' e j = nI (enO (lkL L) j)) → Q (some (.int (nI (cu (lkL L) 7)))) h' c s) :
    ∀ (n k : Nat) (h : bp_H), n + k = L.length → NC h0 h bw e P L ps → (∀ j, j < 8 → bp_I h e j = nI (if usl ((lkL L).take k) j then 1 else 0)) → bp_A l G H0 (2, 42, false, false) M_BW_numberColours h c s 23 [some (.ref bw), some (.int (nI k)), none] [] (fun o h' c' s' => ∃ v, o = .returned v ∧ Q v h' c' s') := by
  have h400 := hok.1
  have elk : (lkL L).length = L.length := List.length_map ..
  intro n
  induction n with
  | zero =>
    intro k h hn hN hI
    refine bp_iload_n (q := 24) 14 rfl rfl rfl rfl ?_
    refine bp_aload_n (q := 25) 15 rfl rfl rfl rfl ?_
    refine bp_getR (x := (P 0)) (q := 28) (ci := 7) (j := 1) 16 rfl rfl fl_BW_33_7 hN.2.1 rfl hN.2.2.2.1 ?_
    refine bp_callV (q := 31) (ci := 2) 17 rfl rfl cw_Page_letters lk_BW_37 rfl hN.2.2.2.2.2.2.1.1 wd900 wd901 rfl rfl (Nat.le_of_ble_eq_true rfl) ⟨Nat.le_of_ble_eq_true rfl, Nat.le_of_ble_eq_true rfl⟩ (s_Page_letters (ro := false) hN.2.2.2.2.2.2.1 ?_)
    refine bp_icmp_ge (q := 34) (tgt := 57) 18 rfl rfl (by decide) (fun z31 => ?_) (fun z31 => ?_)
    · refine bp_aload_n (q := 58) 30 rfl rfl rfl rfl ?_
      refine bp_getR (x := e) (q := 61) (ci := 7) (j := 0) 31 rfl rfl fl_BW_9_7 hN.2.1 rfl hN.2.2.1 ?_
      refine bp_iconst (v := 0) (q := 62) 32 rfl rfl (by decide) ?_
      refine bp_iconst (v := 0) (q := 63) 33 rfl rfl (by decide) ?_
      refine bp_iast (q := 64) 34 rfl rfl hN.2.2.2.2.1 (by rw [hN.2.2.2.2.2.1]; exact vp_in_nI (n := 0) (by decide) (by decide))  ?_
      refine bp_iconst (v := 0) (q := 65) 35 rfl rfl (by decide) ?_
      refine bp_istore_n (q := 66) 36 rfl rfl rfl (by decide) (bp_up1 rfl) ?_
      refine bp_iconst (v := 1) (q := 67) 37 rfl rfl (by decide) ?_
      refine bp_istore_n (q := 68) 38 rfl rfl rfl (by decide) (bp_up2 rfl) ?_
      rw [List.take_of_length_le (by omega)] at hI
      refine lp_BW_num3 hQ 7 0 _ rfl hN.put (fun j hj => ?_)
      rw [bp_I_sI]
      by_cases e1 : j = 0
      · subst e1
        rw [if_pos ⟨rfl, rfl⟩, if_pos (by decide)]; rfl
      · rw [if_neg (fun z => e1 z.2), hI j hj, if_neg (show ¬ j < 0 + 1 by omega)]
    · exact absurd (nI_le (by omega) (by omega)) z31
  | succ n ih =>
    intro k h hn hN hI
    have hk : k < L.length := by omega
    have hk2 : k < (lkL L).length := by omega
    have hlk := (hok.2.2.2 k hk).2
    refine bp_iload_n (q := 24) 14 rfl rfl rfl rfl ?_
    refine bp_aload_n (q := 25) 15 rfl rfl rfl rfl ?_
    refine bp_getR (x := (P 0)) (q := 28) (ci := 7) (j := 1) 16 rfl rfl fl_BW_33_7 hN.2.1 rfl hN.2.2.2.1 ?_
    refine bp_callV (q := 31) (ci := 2) 17 rfl rfl cw_Page_letters lk_BW_37 rfl hN.2.2.2.2.2.2.1.1 wd900 wd901 rfl rfl (Nat.le_of_ble_eq_true rfl) ⟨Nat.le_of_ble_eq_true rfl, Nat.le_of_ble_eq_true rfl⟩ (s_Page_letters (ro := false) hN.2.2.2.2.2.2.1 ?_)
    refine bp_icmp_ge (q := 34) (tgt := 57) 18 rfl rfl (by decide) (fun z31 => ?_) (fun z31 => ?_)
    · exact absurd z31 (nI_ge (by omega) (by omega))
    · refine bp_aload_n (q := 35) 19 rfl rfl rfl rfl ?_
      refine bp_getR (x := e) (q := 38) (ci := 7) (j := 0) 20 rfl rfl fl_BW_9_7 hN.2.1 rfl hN.2.2.1 ?_
      refine bp_aload_n (q := 39) 21 rfl rfl rfl rfl ?_
      refine bp_getR (x := (P 0)) (q := 42) (ci := 7) (j := 1) 22 rfl rfl fl_BW_33_7 hN.2.1 rfl hN.2.2.2.1 ?_
      refine bp_iload_n (q := 43) 23 rfl rfl rfl rfl ?_
      refine bp_callV (q := 46) (ci := 2) 24 rfl rfl cw_Page_lookAt lk_BW_42 rfl hN.2.2.2.2.2.2.1.1 wd904 wd905 rfl rfl (Nat.le_of_ble_eq_true rfl) ⟨Nat.le_of_ble_eq_true rfl, Nat.le_of_ble_eq_true rfl⟩ (s_Page_lookN (ro := false) hk hok.1 hN.2.2.2.2.2.2.1 ?_)
      refine bp_callS (q := 49) 25 rfl rfl cw_X_colourOf lk_BW_46 wd908 rfl rfl (Nat.le_of_ble_eq_true rfl) ⟨Nat.le_of_ble_eq_true rfl, Nat.le_of_ble_eq_true rfl⟩ (s_X_colourOf (ro := false) hlk ?_)
      refine bp_iconst (v := 1) (q := 50) 26 rfl rfl (by decide) ?_
      refine bp_iast (q := 51) 27 rfl rfl hN.2.2.2.2.1 (by rw [hN.2.2.2.2.2.1]; exact vp_in_nI (by omega) (by decide))  ?_
      refine bp_iinc (v := nI (k + 1)) (q := 54) 28 rfl rfl rfl (nI_1 k) (by decide) (bp_up1 rfl) ?_
      refine bp_goto (tgt := 23) 29 rfl (by decide) ?_
      refine ih (k + 1) _ (by omega) hN.put (fun j hj => ?_)
      rw [bp_I_sI, nI_clamp (by omega), ← take_snoc _ hk2, usl_snoc]
      by_cases e1 : (lkL L).getD k 0 / 8 % 8 = j
      · rw [if_pos ⟨rfl, e1.symm⟩, decide_eq_true e1, Bool.or_true]; rfl
      · rw [if_neg (fun z => e1 z.2.symm), hI j hj, decide_eq_false e1, Bool.or_false]
set_option maxRecDepth 100000 in
set_option maxHeartbeats 4000000 in
theorem lp_BW_num1 {h0 : bp_H} (hok : okP L ps) (hQ : ∀ h', NC h0 h' bw e P L ps → (∀ j, j < 8 → bp_I h' e j = nI (enO (lkL L) j)) → Q (some (.int (nI (cu (lkL L) 7)))) h' c s) :
    ∀ (n k : Nat) (h : bp_H), n + k = 8 → NC h0 h bw e P L ps → (∀ j, j < k → bp_I h e j = 0) → bp_A l G H0 (2, 42, false, false) M_BW_numberColours h c s 2 [some (.ref bw), some (.int (nI k)), none] [] (fun o h' c' s' => ∃ v, o = .returned v ∧ Q v h' c' s') := by
  have h400 := hok.1
  intro n
  induction n with
  | zero =>
    intro k h hn hN hI
    refine bp_iload_n (q := 3) 2 rfl rfl rfl rfl ?_
    refine bp_bipush (v := 7) (q := 5) 3 rfl rfl (by decide) ?_
    refine bp_icmp_gt (q := 8) (tgt := 21) 4 rfl rfl (by decide) (fun z5 => ?_) (fun z5 => ?_)
    · refine bp_iconst (v := 0) (q := 22) 12 rfl rfl (by decide) ?_
      refine bp_istore_n (q := 23) 13 rfl rfl rfl (by decide) (bp_up1 rfl) ?_
      exact lp_BW_num2 hok hQ L.length 0 h rfl hN (fun j hj => by rw [hI j (by omega)]; rfl)
    · exact absurd (nI_lt (a := 7) (by omega) (by omega)) z5
  | succ n ih =>
    intro k h hn hN hI
    refine bp_iload_n (q := 3) 2 rfl rfl rfl rfl ?_
    refine bp_bipush (v := 7) (q := 5) 3 rfl rfl (by decide) ?_
    refine bp_icmp_gt (q := 8) (tgt := 21) 4 rfl rfl (by decide) (fun z5 => ?_) (fun z5 => ?_)
    · exact absurd z5 (nI_nlt (a := 7) (by omega) (by omega))
    · refine bp_aload_n (q := 9) 5 rfl rfl rfl rfl ?_
      refine bp_getR (x := e) (q := 12) (ci := 7) (j := 0) 6 rfl rfl fl_BW_9_7 hN.2.1 rfl hN.2.2.1 ?_
      refine bp_iload_n (q := 13) 7 rfl rfl rfl rfl ?_
      refine bp_iconst (v := 0) (q := 14) 8 rfl rfl (by decide) ?_
      refine bp_iast (q := 15) 9 rfl rfl hN.2.2.2.2.1 (by rw [hN.2.2.2.2.2.1]; exact vp_in_nI (by omega) (by decide))  ?_
      refine bp_iinc (v := nI (k + 1)) (q := 18) 10 rfl rfl rfl (nI_1 k) (by decide) (bp_up1 rfl) ?_
      refine bp_goto (tgt := 2) 11 rfl (by decide) ?_
      refine ih (k + 1) _ (by omega) hN.put (fun j hj => ?_)
      rw [bp_I_sI, nI_clamp (by omega)]
      by_cases e1 : j = k
      · rw [if_pos ⟨rfl, e1⟩]
      · rw [if_neg (fun z => e1 z.2)]; exact hI j (by omega)
set_option maxRecDepth 100000 in
set_option maxHeartbeats 4000000 in
theorem s_BW_numberColours (hok : okP L ps) (hN : NC h h bw e P L ps) (hQ : ∀ h', NC h h' bw e P L ps → (∀ j, j < 8 → bp_I h' e j = nI (enO (lkL L) j)) → Q (some (.int (nI (cu (lkL L) 7)))) h' c s) : bp_AM l G H0 (2, 42, false, false) M_BW_numberColours h c s [.ref bw] Q := by
  refine bp_of (ls := [some (.ref bw), none, none]) (by decide) dt_BW_numberColours (Nat.le_of_ble_eq_true rfl) (fun q hq => hq) false ?_
  refine bp_iconst (v := 0) (q := 1) 0 rfl rfl (by decide) ?_
  refine bp_istore_n (q := 2) 1 rfl rfl rfl (by decide) (bp_up1 rfl) ?_
  exact lp_BW_num1 hok hQ 8 0 h rfl hN (fun j hj => absurd hj (Nat.not_lt_zero j))
end BW2
