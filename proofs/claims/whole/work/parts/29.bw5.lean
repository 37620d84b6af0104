section BW5
variable {l : Launch} {G : bp_G} {H0 : Heap} {h : bp_H} {c s bw r a e mx c0 s0 : Nat} {en : Nat → Nat} {P : Nat → Nat} {L : List (Nat × Nat)} {ps : List (Nat × Nat × Nat)} {xs : List Nat} {Q : Option Value → bp_H → Nat → Nat → Prop}
set_option maxRecDepth 100000 in
set_option maxHeartbeats 4000000 in
theorem lp_BW_write (hok : okP L ps) (hen : ∀ j, j < 8 → en j < 8) (hmx : mx < 100000) :
    ∀ (n p : Nat) (h : bp_H) (a c s : Nat) (xs : List Nat), n + p = ps.length → BwP mx c0 s0 h bw r a e en P L ps xs c s → xs.length + (wpag bwP (bwS en) bwL (fun _ => [125]) [92, 112, 97, 114] L ps n p).length + 200 ≤ mx → (∀ h' a' c' s', BwP mx c0 s0 h' bw r a' e en P L ps (xs ++ (wpag bwP (bwS en) bwL (fun _ => [125]) [92, 112, 97, 114] L ps n p ++ [125])) c' s' → gF r a h h' a' → Q (some (.int (nI (xs ++ (wpag bwP (bwS en) bwL (fun _ => [125]) [92, 112, 97, 114] L ps n p ++ [125])).length))) h' c' s') → bp_A l G H0 (8, 174, false, false) M_Wr_write h c s 13 [some (.ref bw), some (.int (nI p))] [] (fun o h' c' s' => ∃ v, o = .returned v ∧ Q v h' c' s') := by
  have h16 := hok.2.1
  intro n
  induction n with
  | zero =>
    intro p h a c s xs hn hT0 hm hQ
    rw [wpag] at hm
    simp only [List.length_nil, Nat.add_zero] at hm
    refine bp_iload_n (q := 14) 7 rfl rfl rfl rfl ?_
    refine bp_aload_n (q := 15) 8 rfl rfl rfl rfl ?_
    refine bp_getR (x := (P 0)) (q := 18) (ci := 7) (j := 1) 9 rfl rfl fl_Wr_7_7 hT0.1.1 rfl hT0.2.1 ?_
    refine bp_callV (q := 21) (ci := 2) 10 rfl rfl cw_Page_size lk_Wr_25 rfl hT0.2.2.1.1 wd865 wd866 rfl rfl (Nat.le_of_ble_eq_true rfl) ⟨Nat.le_of_ble_eq_true rfl, Nat.le_of_ble_eq_true rfl⟩ (s_Page_size (ro := false) hT0.2.2.1 ?_)
    refine bp_icmp_ge (q := 24) (tgt := 35) 11 rfl rfl (by decide) (fun z21 => ?_) (fun z21 => ?_)
    · refine bp_aload_n (q := 36) 17 rfl rfl rfl rfl ?_
      refine bp_callU (q := 39) (ci := 7) (owner := "BracedPages$Writer") 18 rfl rfl cw_BW_endPage wd1058 wd1060 (Or.inl wd1059) ⟨by decide, by decide⟩ rfl rfl hT0.1.1 wd1062 wd1061 rfl rfl (Nat.le_of_ble_eq_true rfl) ⟨Nat.le_of_ble_eq_true rfl, Nat.le_of_ble_eq_true rfl⟩ (s_BW_endPage hT0.1 (by omega) hmx (fun h1 a1 c1 s1 hX1 hF1 => ?_))
      have hT1 := hT0.step hX1 hF1
      refine bp_aload_n (q := 40) 19 rfl rfl rfl rfl ?_
      refine bp_getR (x := r) (q := 43) (ci := 7) (j := 2) 20 rfl rfl fl_Wr_13_7 hT1.1.1 rfl hT1.1.2.1 ?_
      refine bp_callV (q := 46) (ci := 1) 21 rfl rfl cw_Row_size lk_Wr_38 rfl hT1.1.2.2.1.1.1 wd455 wd456 rfl rfl (Nat.le_of_ble_eq_true rfl) ⟨Nat.le_of_ble_eq_true rfl, Nat.le_of_ble_eq_true rfl⟩ (s_Row_size (ro := false) hT1.1.2.2.1.1 ?_)
      refine bp_iret 22 rfl rfl rfl ⟨_, rfl, ?_⟩
      simp only [wpag, List.nil_append] at hQ
      exact hQ _ _ _ _ hT1 hF1
    · exact absurd (nI_le (by omega) (by omega)) z21
  | succ n ih =>
    intro p h a c s xs hn hT0 hm hQ
    have hp : p < ps.length := by omega
    have hmp : xs.length + (wpar bwP (bwS en) bwL (fun _ => [125]) [92, 112, 97, 114] L ps p).length + 200 ≤ mx := by rw [wpag, List.length_append] at hm; omega
    refine bp_iload_n (q := 14) 7 rfl rfl rfl rfl ?_
    refine bp_aload_n (q := 15) 8 rfl rfl rfl rfl ?_
    refine bp_getR (x := (P 0)) (q := 18) (ci := 7) (j := 1) 9 rfl rfl fl_Wr_7_7 hT0.1.1 rfl hT0.2.1 ?_
    refine bp_callV (q := 21) (ci := 2) 10 rfl rfl cw_Page_size lk_Wr_25 rfl hT0.2.2.1.1 wd865 wd866 rfl rfl (Nat.le_of_ble_eq_true rfl) ⟨Nat.le_of_ble_eq_true rfl, Nat.le_of_ble_eq_true rfl⟩ (s_Page_size (ro := false) hT0.2.2.1 ?_)
    refine bp_icmp_ge (q := 24) (tgt := 35) 11 rfl rfl (by decide) (fun z21 => ?_) (fun z21 => ?_)
    · exact absurd z21 (nI_ge (by omega) (by omega))
    · refine bp_aload_n (q := 25) 12 rfl rfl rfl rfl ?_
      refine bp_iload_n (q := 26) 13 rfl rfl rfl rfl ?_
      refine bp_callV (q := 29) (ci := 7) 14 rfl rfl cw_Wr_writeParagraph lk_Wr_31 rfl hT0.1.1 wd926 wp_BW rfl rfl (Nat.le_of_ble_eq_true rfl) ⟨Nat.le_of_ble_eq_true rfl, Nat.le_of_ble_eq_true rfl⟩ (s_BW_writeParagraph hok hen hp hmx hT0 hmp (fun h1 a1 c1 s1 hT1 hF1 => ?_))
      refine bp_iinc (v := nI (p + 1)) (q := 32) 15 rfl rfl rfl (nI_1 p) (by decide) (bp_up1 rfl) ?_
      refine bp_goto (tgt := 13) 16 rfl (by decide) ?_
      rw [wpag] at hm hQ
      rw [List.length_append] at hm
      exact ih (p + 1) _ _ _ _ _ (by omega) hT1 (by rw [List.length_append]; omega) (fun h' a' c' s' hX hG => by
        have := hQ h' a' c' s' (by simpa only [List.append_assoc] using hX) (hF1.tr hG)
        simpa only [List.append_assoc] using this)
set_option maxRecDepth 100000 in
set_option maxHeartbeats 4000000 in
theorem s_BW_write (hok : okP L ps) (hpe : ∀ i, i < 8 → P i ≠ e) (hmx : mx < 100000) (hT0 : BwP mx c0 s0 h bw r a e en P L ps xs c s) (hm : (bwH (lkL L) ++ (wpag bwP (bwS (enO (lkL L))) bwL (fun _ => [125]) [92, 112, 97, 114] L ps ps.length 0 ++ [125])).length + 200 ≤ mx) (hQ : (∀ h' a' c' s', BwP mx c0 s0 h' bw r a' e (enO (lkL L)) P L ps (bwH (lkL L) ++ (wpag bwP (bwS (enO (lkL L))) bwL (fun _ => [125]) [92, 112, 97, 114] L ps ps.length 0 ++ [125])) c' s' → gE r a e h h' a' → Q (some (.int (nI (bwH (lkL L) ++ (wpag bwP (bwS (enO (lkL L))) bwL (fun _ => [125]) [92, 112, 97, 114] L ps ps.length 0 ++ [125])).length))) h' c' s')) : bp_AM l G H0 (8, 174, false, false) M_Wr_write h c s [.ref bw] Q := by
  refine bp_of (ls := [some (.ref bw), none]) (by decide) dt_Wr_write (Nat.le_of_ble_eq_true rfl) (fun q hq => hq) false ?_
  refine bp_aload_n (q := 1) 0 rfl rfl rfl rfl ?_
  refine bp_getR (x := r) (q := 4) (ci := 7) (j := 2) 1 rfl rfl fl_Wr_13_7 hT0.1.1 rfl hT0.1.2.1 ?_
  refine bp_callV (q := 7) (ci := 1) 2 rfl rfl cw_Row_empty lk_Wr_17 rfl hT0.1.2.2.1.1.1 wd401 wd402 rfl rfl (Nat.le_of_ble_eq_true rfl) ⟨Nat.le_of_ble_eq_true rfl, Nat.le_of_ble_eq_true rfl⟩ (s_Row_empty hT0.1.2.2.1.1 (fun h1 hR1 f1 => ?_))
  have f1 := f1.wk (F' := fun b => b = r ∨ b = a) (fun b z => Or.inl z)
  have hG1 : RG mx c0 s0 h1 r a [] c s := ⟨hR1, by rw [f1.L]; exact hT0.1.2.2.1.2.1, by rw [f1.L]; exact hT0.1.2.2.1.2.2.1, by rw [f1.L]; exact hT0.1.2.2.1.2.2.2⟩
  have hT1 := hT0.step (hT0.1.step hG1 (gF.fi f1)) (gF.fi f1)
  refine bp_aload_n (q := 8) 3 rfl rfl rfl rfl ?_
  refine bp_callU (q := 11) (ci := 7) (owner := "BracedPages$Writer") 4 rfl rfl cw_BW_startPage wd888 wd890 (Or.inl wd889) ⟨by decide, by decide⟩ rfl rfl hT1.1.1 wd892 wd891 rfl rfl (Nat.le_of_ble_eq_true rfl) ⟨Nat.le_of_ble_eq_true rfl, Nat.le_of_ble_eq_true rfl⟩ (s_BW_startPage hok hpe hT1 (by simp only [List.length_nil]; omega) hmx (fun h2 a2 c2 s2 hT2 hE2 => ?_))
  refine bp_iconst (v := 0) (q := 12) 5 rfl rfl (by decide) ?_
  refine bp_istore_n (q := 13) 6 rfl rfl rfl (by decide) (bp_up1 rfl) ?_
  rw [List.length_append, List.length_append] at hm
  exact lp_BW_write hok (enO_lt (lkL L)) hmx ps.length 0 _ _ _ _ _ rfl hT2 (by rw [List.nil_append]; omega) (fun h' a' c' s' hX hG => hQ h' a' c' s' hX (((gE.of (gF.fi f1)).tr hE2).tr (gE.of hG)))
end BW5
