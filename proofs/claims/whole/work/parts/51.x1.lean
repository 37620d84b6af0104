/-! the class's own methods that never throw -/
def bwO (L : List (Nat × Nat)) (ps : List (Nat × Nat × Nat)) : List Nat := bwH (lkL L) ++ (wpag bwP (bwS (enO (lkL L))) bwL (fun _ => [125]) [92, 112, 97, 114] L ps ps.length 0 ++ [125])
def twO (L : List (Nat × Nat)) (ps : List (Nat × Nat × Nat)) : List Nat := wpag twP twS twL twE [60, 47, 112, 62] L ps ps.length 0
theorem XI.PD {KP : bp_H × (Nat → Prop)} {Z : Nat → Nat} {C S : Nat} {h : bp_H} {aO na : Nat} {T xs : List Nat} {L : List (Nat × Nat)} {ps : List (Nat × Nat × Nat)} {me : Int32} {c s : Nat} (H : XI KP Z C S h aO na T xs L ps me c s) : ∀ i j, i < 8 → j < 8 → zP Z i ≠ zD Z j := fun i j hi hj e => by
  have := H.1.1 (38 - i) (30 - j) (by omega) (by omega) e
  omega
section X1
variable {l : Launch} {G : bp_G} {H0 : Heap} {KP : bp_H × (Nat → Prop)} {Z : Nat → Nat} {C S : Nat} {h : bp_H} {aO na : Nat} {T xs : List Nat} {L : List (Nat × Nat)} {ps : List (Nat × Nat × Nat)} {me : Int32} {c s : Nat} {Q : Option Value → bp_H → Nat → Nat → Prop}
set_option maxRecDepth 100000 in
set_option maxHeartbeats 4000000 in
theorem s_X_clear  (hX0 : XI KP Z C S h aO na T xs L ps me c s) (hQ : ∀ h', XI KP Z C S h' aO na [] xs L ps me c s → Q none h' c s) : bp_AM l G H0 (1, 20, false, false) M_X_clear h c s [.ref (Z 43)] Q := by
  refine bp_of (ls := [some (.ref (Z 43))]) (by decide) dt_X_clear (Nat.le_of_ble_eq_true rfl) (fun q hq => hq) false ?_
  refine bp_aload_n (q := 1) 0 rfl rfl rfl rfl ?_
  refine bp_getR (x := Z 42) (q := 4) (ci := 0) (j := 0) 1 rfl rfl fl_X_14_0 hX0.2.1.1 rfl hX0.2.1.2.1 ?_
  refine bp_callV (q := 7) (ci := 1) 2 rfl rfl cw_Row_empty lk_X_92 rfl hX0.2.2.1.1 wd401 wd402 rfl rfl (Nat.le_of_ble_eq_true rfl) ⟨Nat.le_of_ble_eq_true rfl, Nat.le_of_ble_eq_true rfl⟩ (s_Row_empty hX0.2.2.1 (fun h1 hR1 f1 => ?_))
  have hX1 := hX0.setT hR1 (f1.wk (fun _ z => Or.inl z))
  exact bp_vret 3 rfl rfl  ⟨_, rfl, hQ _ hX1⟩
set_option maxRecDepth 100000 in
set_option maxHeartbeats 4000000 in
theorem s_X_wipe  (hX0 : XI KP Z C S h aO na T xs L ps me c s) (hQ : ∀ h', XI KP Z C S h' aO na T xs [] [] me c s → Q none h' c s) : bp_AM l G H0 (2, 40, false, false) M_X_wipe h c s [.ref (Z 43)] Q := by
  refine bp_of (ls := [some (.ref (Z 43))]) (by decide) dt_X_wipe (Nat.le_of_ble_eq_true rfl) (fun q hq => hq) false ?_
  refine bp_aload_n (q := 1) 0 rfl rfl rfl rfl ?_
  refine bp_getR (x := zP Z 0) (q := 4) (ci := 0) (j := 2) 1 rfl rfl fl_X_24_0 hX0.2.1.1 rfl hX0.2.1.2.2.2.1 ?_
  refine bp_callV (q := 7) (ci := 2) 2 rfl rfl cw_Page_empty lk_X_161 rfl hX0.2.2.2.2.2.1.1 wd415 wd416 rfl rfl (Nat.le_of_ble_eq_true rfl) ⟨Nat.le_of_ble_eq_true rfl, Nat.le_of_ble_eq_true rfl⟩ (s_Page_empty hX0.2.2.2.2.2.1 (fun h1 hP1 f1 => ?_))
  have hX1 := hX0.setP hP1 f1
  exact bp_vret 3 rfl rfl  ⟨_, rfl, hQ _ hX1⟩
set_option maxRecDepth 100000 in
set_option maxHeartbeats 4000000 in
theorem s_X_at {ro : Bool}  (hX0 : XI KP Z C S h aO na T xs L ps me c s) (hQ : Q (some (.int me)) h c s) : bp_AM l G H0 (0, 0, ro, ro) M_X_at h c s [.ref (Z 43)] Q := by
  refine bp_of (ls := [some (.ref (Z 43))]) (by decide) dt_X_at (Nat.le_of_ble_eq_true rfl) (fun q hq => hq) ro ?_
  refine bp_aload_n (q := 1) 0 rfl rfl rfl rfl ?_
  refine bp_getI (q := 4) (ci := 0) (j := 8) 1 rfl rfl fl_X_61_0 hX0.2.1.1 rfl ?_
  rw [hX0.2.1.2.2.2.2.2.2.2.2.2]
  exact bp_iret 2 rfl rfl rfl ⟨_, rfl, hQ⟩
set_option maxRecDepth 100000 in
set_option maxHeartbeats 4000000 in
theorem s_X_out {ro : Bool} {x : Int32} (hX0 : XI KP Z C S h aO na T xs L ps me c s) (hQ : Q (some (.int (rg xs x))) h c s) : bp_AM l G H0 (1, 21, ro, ro) M_X_out h c s [.ref (Z 43), .int x] Q := by
  refine bp_of (ls := [some (.ref (Z 43)), some (.int x)]) (by decide) dt_X_out (Nat.le_of_ble_eq_true rfl) (fun q hq => hq) ro ?_
  refine bp_aload_n (q := 1) 0 rfl rfl rfl rfl ?_
  refine bp_getR (x := Z 40) (q := 4) (ci := 0) (j := 1) 1 rfl rfl fl_X_18_0 hX0.2.1.1 rfl hX0.2.1.2.2.1 ?_
  refine bp_iload_n (q := 5) 2 rfl rfl rfl rfl ?_
  refine bp_callV (q := 8) (ci := 1) 3 rfl rfl cw_Row_get lk_X_115 rfl hX0.2.2.2.2.1.1 wd438 wd439 rfl rfl (Nat.le_of_ble_eq_true rfl) ⟨Nat.le_of_ble_eq_true rfl, Nat.le_of_ble_eq_true rfl⟩ (s_Row_get (ro := ro) hX0.2.2.2.2.1 ?_)
  exact bp_iret 4 rfl rfl rfl ⟨_, rfl, hQ⟩
set_option maxRecDepth 100000 in
set_option maxHeartbeats 4000000 in
theorem s_X_paragraphs {ro : Bool}  (hX0 : XI KP Z C S h aO na T xs L ps me c s) (hQ : Q (some (.int (nI ps.length))) h c s) : bp_AM l G H0 (1, 20, ro, ro) M_X_paragraphs h c s [.ref (Z 43)] Q := by
  refine bp_of (ls := [some (.ref (Z 43))]) (by decide) dt_X_paragraphs (Nat.le_of_ble_eq_true rfl) (fun q hq => hq) ro ?_
  refine bp_aload_n (q := 1) 0 rfl rfl rfl rfl ?_
  refine bp_getR (x := zP Z 0) (q := 4) (ci := 0) (j := 2) 1 rfl rfl fl_X_24_0 hX0.2.1.1 rfl hX0.2.1.2.2.2.1 ?_
  refine bp_callV (q := 7) (ci := 2) 2 rfl rfl cw_Page_size lk_X_135 rfl hX0.2.2.2.2.2.1.1 wd865 wd866 rfl rfl (Nat.le_of_ble_eq_true rfl) ⟨Nat.le_of_ble_eq_true rfl, Nat.le_of_ble_eq_true rfl⟩ (s_Page_size (ro := ro) hX0.2.2.2.2.2.1 ?_)
  exact bp_iret 3 rfl rfl rfl ⟨_, rfl, hQ⟩
set_option maxRecDepth 100000 in
set_option maxHeartbeats 4000000 in
theorem s_X_writeBraced  (hX0 : XI KP Z C S h aO na T xs L ps me c s) (hok : okP L ps) (hlen : (bwO L ps).length ≤ 18200) (hQ : ∀ h' aO' c' s', XI KP Z C S h' aO' na T (bwO L ps) L ps me c' s' → Q (some (.int (nI (bwO L ps).length))) h' c' s') : bp_AM l G H0 (9, 195, false, false) M_X_writeBraced h c s [.ref (Z 43)] Q := by
  refine bp_of (ls := [some (.ref (Z 43))]) (by decide) dt_X_writeBraced (Nat.le_of_ble_eq_true rfl) (fun q hq => hq) false ?_
  have hz := hX0.1
  obtain ⟨en, hE⟩ := hX0.2.2.2.2.2.2.2.2.2.1
  have rm := hX0.2.2.2.2.2.2.2.2.2.2.2.1
  unfold xRm at rm
  have hpe : ∀ i, i < 8 → zP Z i ≠ Z 1 := fun i hi e => by have := hz.1 (38 - i) 1 (by omega) (by decide) e; omega
  have hpr : ∀ i, i < 8 → zP Z i ≠ Z 40 ∧ zP Z i ≠ aO := fun i hi => ⟨fun e => by have := hz.1 (38 - i) 40 (by omega) (by decide) e; omega, fun e => hz.2.1 (38 - i) (by omega) (by omega) (by omega) e.symm⟩
  have hT0 : BwP 18400 (C + 803 - bp_L h na) (S + 1606 - 2 * bp_L h na) h (Z 2) (Z 40) aO (Z 1) en (zP Z) L ps xs c s := ⟨⟨hE.1, hE.2.2.2.1, ⟨hX0.2.2.2.2.1, rm.1, by omega, by omega⟩, hE.2.1, hE.2.2.2.2.1, hE.2.2.2.2.2.1, fun e => hz.2.1 1 (by decide) (by decide) (by decide) e.symm, hE.2.2.2.2.2.2⟩, hE.2.2.1, hX0.2.2.2.2.2.1, hpr⟩
  refine bp_aload_n (q := 1) 0 rfl rfl rfl rfl ?_
  refine bp_getR (x := Z 2) (q := 4) (ci := 0) (j := 6) 1 rfl rfl fl_X_51_0 hX0.2.1.1 rfl hX0.2.1.2.2.2.2.2.2.2.1 ?_
  refine bp_callU (q := 7) (ci := 7) (owner := "BracedPages$Writer") 2 rfl rfl cw_Wr_write wd881 wd883 (Or.inr rfl) ⟨by decide, by decide⟩ rfl rfl hT0.1.1 wd882 wd884 rfl rfl (Nat.le_of_ble_eq_true rfl) ⟨Nat.le_of_ble_eq_true rfl, Nat.le_of_ble_eq_true rfl⟩ (s_BW_write hok hpe (by decide) hT0 (by show (bwO L ps).length + 200 ≤ 18400; omega) (fun h1 a1 c1 s1 hT1 hF1 => ?_))
  exact bp_iret 3 rfl rfl rfl ⟨_, rfl, hQ _ _ _ _ (hX0.setO hT1.1.2.2.1.1 ⟨hT1.1.1, hT1.1.2.2.2.1, hT1.2.1, hT1.1.2.1, hT1.1.2.2.2.2.1, hT1.1.2.2.2.2.2.1, hT1.1.2.2.2.2.2.2.2⟩ hF1 hT1.1.2.2.1.2.1 (by have := hT1.1.2.2.1.2.2.1; omega) (by have := hT1.1.2.2.1.2.2.2; omega))⟩
set_option maxRecDepth 100000 in
set_option maxHeartbeats 4000000 in
theorem s_X_writeTagged  (hX0 : XI KP Z C S h aO na T xs L ps me c s) (hok : okP L ps) (hlen : (twO L ps).length ≤ 18200) (hQ : ∀ h' aO' c' s', XI KP Z C S h' aO' na T (twO L ps) L ps me c' s' → Q (some (.int (nI (twO L ps).length))) h' c' s') : bp_AM l G H0 (9, 195, false, false) M_X_writeTagged h c s [.ref (Z 43)] Q := by
  refine bp_of (ls := [some (.ref (Z 43))]) (by decide) dt_X_writeTagged (Nat.le_of_ble_eq_true rfl) (fun q hq => hq) false ?_
  have hz := hX0.1
  obtain ⟨en, hE⟩ := hX0.2.2.2.2.2.2.2.2.2.1
  have rm := hX0.2.2.2.2.2.2.2.2.2.2.2.1
  unfold xRm at rm
  have hpe : ∀ i, i < 8 → zP Z i ≠ Z 1 := fun i hi e => by have := hz.1 (38 - i) 1 (by omega) (by decide) e; omega
  have hpr : ∀ i, i < 8 → zP Z i ≠ Z 40 ∧ zP Z i ≠ aO := fun i hi => ⟨fun e => by have := hz.1 (38 - i) 40 (by omega) (by decide) e; omega, fun e => hz.2.1 (38 - i) (by omega) (by omega) (by omega) e.symm⟩
  have hW := hX0.2.2.2.2.2.2.2.2.2.2.1
  have hT0 : TwP 18400 (C + 803 - bp_L h na) (S + 1606 - 2 * bp_L h na) h (Z 0) (Z 40) aO (zP Z) L ps xs c s := ⟨⟨hW.1, hW.2.2, ⟨hX0.2.2.2.2.1, rm.1, by omega, by omega⟩⟩, hW.2.1, hX0.2.2.2.2.2.1, hpr⟩
  refine bp_aload_n (q := 1) 0 rfl rfl rfl rfl ?_
  refine bp_getR (x := Z 0) (q := 4) (ci := 0) (j := 7) 1 rfl rfl fl_X_58_0 hX0.2.1.1 rfl hX0.2.1.2.2.2.2.2.2.2.2.1 ?_
  refine bp_callU (q := 7) (ci := 8) (owner := "BracedPages$Writer") 2 rfl rfl cw_Wr_write wd881 wd883 (Or.inr rfl) ⟨by decide, by decide⟩ rfl rfl hT0.1.1 wd882 wd885 rfl rfl (Nat.le_of_ble_eq_true rfl) ⟨Nat.le_of_ble_eq_true rfl, Nat.le_of_ble_eq_true rfl⟩ (s_TW_write hok (by decide) hT0 (by show (twO L ps).length + 200 ≤ 18400; omega) (fun h1 a1 c1 s1 hT1 hF1 => ?_))
  exact bp_iret 3 rfl rfl rfl ⟨_, rfl, hQ _ _ _ _ (hX0.setO hT1.1.2.2.1 (hE.sm (hF1.1 _ (hX0.kz 2 (by decide) (by decide) (by decide)) (fun q => q.elim (hz.ne 2 40) (fun q => hz.2.1 2 (by decide) (by decide) (by decide) q.symm))) (hF1.1 _ (hX0.kz 1 (by decide) (by decide) (by decide)) (fun q => q.elim (hz.ne 1 40) (fun q => hz.2.1 1 (by decide) (by decide) (by decide) q.symm)))) (gE.of hF1) hT1.1.2.2.2.1 (by have := hT1.1.2.2.2.2.1; omega) (by have := hT1.1.2.2.2.2.2; omega))⟩
set_option maxRecDepth 100000 in
set_option maxHeartbeats 4000000 in
theorem s_Rd_fault3 {ro : Bool} {b : Nat} (hk : bp_K h b = 9) (hQ : Q (some (.int (bp_I h b 15))) h c s) : bp_AM l G H0 (0, 0, ro, ro) M_Rd_fault h c s [.ref b] Q := by
  refine bp_of (ls := [some (.ref b)]) (by decide) dt_Rd_fault (Nat.le_of_ble_eq_true rfl) (fun q hq => hq) ro ?_
  refine bp_aload_n (q := 1) 0 rfl rfl rfl rfl ?_
  refine bp_getI (q := 4) (ci := 3) (j := 15) 1 rfl rfl fl_Rd_19_3 hk rfl ?_
  exact bp_iret 2 rfl rfl rfl ⟨_, rfl, hQ⟩
set_option maxRecDepth 100000 in
set_option maxHeartbeats 4000000 in
theorem s_Rd_fault6 {ro : Bool} {b : Nat} (hk : bp_K h b = 12) (hQ : Q (some (.int (bp_I h b 14))) h c s) : bp_AM l G H0 (0, 0, ro, ro) M_Rd_fault h c s [.ref b] Q := by
  refine bp_of (ls := [some (.ref b)]) (by decide) dt_Rd_fault (Nat.le_of_ble_eq_true rfl) (fun q hq => hq) ro ?_
  refine bp_aload_n (q := 1) 0 rfl rfl rfl rfl ?_
  refine bp_getI (q := 4) (ci := 6) (j := 14) 1 rfl rfl fl_Rd_19_6 hk rfl ?_
  exact bp_iret 2 rfl rfl rfl ⟨_, rfl, hQ⟩
set_option maxRecDepth 100000 in
set_option maxHeartbeats 4000000 in
theorem s_Rd_met3 {ro : Bool} {b : Nat} (hk : bp_K h b = 9) (hQ : Q (some (.int (bp_I h b 16))) h c s) : bp_AM l G H0 (0, 0, ro, ro) M_Rd_met h c s [.ref b] Q := by
  refine bp_of (ls := [some (.ref b)]) (by decide) dt_Rd_met (Nat.le_of_ble_eq_true rfl) (fun q hq => hq) ro ?_
  refine bp_aload_n (q := 1) 0 rfl rfl rfl rfl ?_
  refine bp_getI (q := 4) (ci := 3) (j := 16) 1 rfl rfl fl_Rd_23_3 hk rfl ?_
  exact bp_iret 2 rfl rfl rfl ⟨_, rfl, hQ⟩
set_option maxRecDepth 100000 in
set_option maxHeartbeats 4000000 in
theorem s_Rd_met6 {ro : Bool} {b : Nat} (hk : bp_K h b = 12) (hQ : Q (some (.int (bp_I h b 15))) h c s) : bp_AM l G H0 (0, 0, ro, ro) M_Rd_met h c s [.ref b] Q := by
  refine bp_of (ls := [some (.ref b)]) (by decide) dt_Rd_met (Nat.le_of_ble_eq_true rfl) (fun q hq => hq) ro ?_
  refine bp_aload_n (q := 1) 0 rfl rfl rfl rfl ?_
  refine bp_getI (q := 4) (ci := 6) (j := 15) 1 rfl rfl fl_Rd_23_6 hk rfl ?_
  exact bp_iret 2 rfl rfl rfl ⟨_, rfl, hQ⟩
set_option maxRecDepth 100000 in
set_option maxHeartbeats 4000000 in
theorem s_X_finB {fa me' : Int32} {Ld : List (Nat × Nat)} {psd : List (Nat × Nat × Nat)} (hX0 : XI KP Z C S h aO na T xs L ps me c s) (hk : bp_K h (Z 22) = 9) (h15 : bp_I h (Z 22) 15 = fa) (h16 : bp_I h (Z 22) 16 = me') (hD : Pg h (zD Z) Ld psd) (hQ : ∀ h', XI KP Z C S h' aO na T xs (if fa = 0 then Ld else L) (if fa = 0 then psd else ps) me' c s → Q (some (.int (if fa = 0 then nI psd.length else fa))) h' c s) : bp_AM l G H0 (6, 128, false, false) M_X_finishReading h c s [.ref (Z 43), .ref (zA Z 0)] Q := by
  refine bp_of (ls := [some (.ref (Z 43)), some (.ref (zA Z 0))]) (by decide) dt_X_finishReading (Nat.le_of_ble_eq_true rfl) (fun q hq => hq) false ?_
  refine bp_aload_n (q := 1) 0 rfl rfl rfl rfl ?_
  refine bp_aload_n (q := 2) 1 rfl rfl rfl rfl ?_
  refine bp_callU (q := 5) (ci := 3) (owner := "BracedPages$Reader") 2 rfl rfl cw_Rd_met wd843 wd845 (Or.inr rfl) ⟨by decide, by decide⟩ rfl rfl hk wd844 wd846 rfl rfl (Nat.le_of_ble_eq_true rfl) ⟨Nat.le_of_ble_eq_true rfl, Nat.le_of_ble_eq_true rfl⟩ (s_Rd_met3 (ro := false) hk ?_)
  rw [h16]
  refine bp_putI (q := 8) (ci := 0) (j := 8) 3 rfl rfl fl_X_61_0 cl0 hX0.2.1.1 (fun r hr => by cases hr; rfl) (by decide) rfl rfl ?_
  refine bp_nx (X := fun h1 => XI KP Z C S h1 aO na T xs L ps me' c s ∧ bp_K h1 (Z 22) = 9 ∧ bp_I h1 (Z 22) 15 = fa ∧ Pg h1 (zD Z) Ld psd) ⟨hX0.setM, hk, by rw [bp_I_sI, if_neg (fun z => hX0.1.ne 22 43 (by decide) (by decide) (by decide) z.1)]; exact h15, hD.fi (F := fun b => b = Z 43) (bp_Fi.sI rfl) (fun i hi e => by have := hX0.1.1 (30 - i) 43 (by omega) (by decide) e; omega)⟩ (fun h1 ⟨hX1, hk1, h15_, hD1⟩ => ?_)
  refine bp_aload_n (q := 9) 4 rfl rfl rfl rfl ?_
  refine bp_callU (q := 12) (ci := 3) (owner := "BracedPages$Reader") 5 rfl rfl cw_Rd_fault wd849 wd851 (Or.inr rfl) ⟨by decide, by decide⟩ rfl rfl hk1 wd850 wd852 rfl rfl (Nat.le_of_ble_eq_true rfl) ⟨Nat.le_of_ble_eq_true rfl, Nat.le_of_ble_eq_true rfl⟩ (s_Rd_fault3 (ro := false) hk1 ?_)
  rw [h15_]
  refine bp_if_eq (q := 15) (tgt := 20) 6 rfl rfl (by decide) (fun z12 => ?_) (fun z12 => ?_)
  · refine bp_aload_n (q := 21) 10 rfl rfl rfl rfl ?_
    refine bp_getR (x := zP Z 0) (q := 24) (ci := 0) (j := 2) 11 rfl rfl fl_X_24_0 hX1.2.1.1 rfl hX1.2.1.2.2.2.1 ?_
    refine bp_aload_n (q := 25) 12 rfl rfl rfl rfl ?_
    refine bp_getR (x := zD Z 0) (q := 28) (ci := 0) (j := 3) 13 rfl rfl fl_X_28_0 hX1.2.1.1 rfl hX1.2.1.2.2.2.2.1 ?_
    refine bp_callV (q := 31) (ci := 2) 14 rfl rfl cw_Page_copy lk_X_217 rfl hX1.2.2.2.2.2.1.1 wd856 wd857 rfl rfl (Nat.le_of_ble_eq_true rfl) ⟨Nat.le_of_ble_eq_true rfl, Nat.le_of_ble_eq_true rfl⟩ (s_Page_copy hX1.2.2.2.2.2.1 hD1 hX1.PD (fun h3 hP2 f2 => ?_))
    have hX2 := hX1.setP hP2 f2
    refine bp_aload_n (q := 32) 15 rfl rfl rfl rfl ?_
    refine bp_getR (x := zP Z 0) (q := 35) (ci := 0) (j := 2) 16 rfl rfl fl_X_24_0 hX2.2.1.1 rfl hX2.2.1.2.2.2.1 ?_
    refine bp_callV (q := 38) (ci := 2) 17 rfl rfl cw_Page_size lk_X_135 rfl hX2.2.2.2.2.2.1.1 wd865 wd866 rfl rfl (Nat.le_of_ble_eq_true rfl) ⟨Nat.le_of_ble_eq_true rfl, Nat.le_of_ble_eq_true rfl⟩ (s_Page_size (ro := false) hX2.2.2.2.2.2.1 ?_)
    refine bp_iret 18 rfl rfl rfl ⟨_, rfl, ?_⟩
    have q := hQ h3
    rw [if_pos z12, if_pos z12, if_pos z12] at q
    exact q hX2
  · refine bp_aload_n (q := 16) 7 rfl rfl rfl rfl ?_
    refine bp_callU (q := 19) (ci := 3) (owner := "BracedPages$Reader") 8 rfl rfl cw_Rd_fault wd849 wd851 (Or.inr rfl) ⟨by decide, by decide⟩ rfl rfl hk1 wd850 wd852 rfl rfl (Nat.le_of_ble_eq_true rfl) ⟨Nat.le_of_ble_eq_true rfl, Nat.le_of_ble_eq_true rfl⟩ (s_Rd_fault3 (ro := false) hk1 ?_)
    rw [h15_]
    refine bp_iret 9 rfl rfl rfl ⟨_, rfl, ?_⟩
    have q := hQ h1
    rw [if_neg z12, if_neg z12, if_neg z12] at q
    exact q hX1
set_option maxRecDepth 100000 in
set_option maxHeartbeats 4000000 in
theorem s_X_finT {fa me' : Int32} {Ld : List (Nat × Nat)} {psd : List (Nat × Nat × Nat)} (hX0 : XI KP Z C S h aO na T xs L ps me c s) (hk : bp_K h (Z 3) = 12) (h15 : bp_I h (Z 3) 14 = fa) (h16 : bp_I h (Z 3) 15 = me') (hD : Pg h (zD Z) Ld psd) (hQ : ∀ h', XI KP Z C S h' aO na T xs (if fa = 0 then Ld else L) (if fa = 0 then psd else ps) me' c s → Q (some (.int (if fa = 0 then nI psd.length else fa))) h' c s) : bp_AM l G H0 (6, 128, false, false) M_X_finishReading h c s [.ref (Z 43), .ref (zB Z 0)] Q := by
  refine bp_of (ls := [some (.ref (Z 43)), some (.ref (zB Z 0))]) (by decide) dt_X_finishReading (Nat.le_of_ble_eq_true rfl) (fun q hq => hq) false ?_
  refine bp_aload_n (q := 1) 0 rfl rfl rfl rfl ?_
  refine bp_aload_n (q := 2) 1 rfl rfl rfl rfl ?_
  refine bp_callU (q := 5) (ci := 6) (owner := "BracedPages$Reader") 2 rfl rfl cw_Rd_met wd843 wd845 (Or.inr rfl) ⟨by decide, by decide⟩ rfl rfl hk wd844 wd847 rfl rfl (Nat.le_of_ble_eq_true rfl) ⟨Nat.le_of_ble_eq_true rfl, Nat.le_of_ble_eq_true rfl⟩ (s_Rd_met6 (ro := false) hk ?_)
  rw [h16]
  refine bp_putI (q := 8) (ci := 0) (j := 8) 3 rfl rfl fl_X_61_0 cl0 hX0.2.1.1 (fun r hr => by cases hr; rfl) (by decide) rfl rfl ?_
  refine bp_nx (X := fun h1 => XI KP Z C S h1 aO na T xs L ps me' c s ∧ bp_K h1 (Z 3) = 12 ∧ bp_I h1 (Z 3) 14 = fa ∧ Pg h1 (zD Z) Ld psd) ⟨hX0.setM, hk, by rw [bp_I_sI, if_neg (fun z => hX0.1.ne 3 43 (by decide) (by decide) (by decide) z.1)]; exact h15, hD.fi (F := fun b => b = Z 43) (bp_Fi.sI rfl) (fun i hi e => by have := hX0.1.1 (30 - i) 43 (by omega) (by decide) e; omega)⟩ (fun h1 ⟨hX1, hk1, h15_, hD1⟩ => ?_)
  refine bp_aload_n (q := 9) 4 rfl rfl rfl rfl ?_
  refine bp_callU (q := 12) (ci := 6) (owner := "BracedPages$Reader") 5 rfl rfl cw_Rd_fault wd849 wd851 (Or.inr rfl) ⟨by decide, by decide⟩ rfl rfl hk1 wd850 wd853 rfl rfl (Nat.le_of_ble_eq_true rfl) ⟨Nat.le_of_ble_eq_true rfl, Nat.le_of_ble_eq_true rfl⟩ (s_Rd_fault6 (ro := false) hk1 ?_)
  rw [h15_]
  refine bp_if_eq (q := 15) (tgt := 20) 6 rfl rfl (by decide) (fun z12 => ?_) (fun z12 => ?_)
  · refine bp_aload_n (q := 21) 10 rfl rfl rfl rfl ?_
    refine bp_getR (x := zP Z 0) (q := 24) (ci := 0) (j := 2) 11 rfl rfl fl_X_24_0 hX1.2.1.1 rfl hX1.2.1.2.2.2.1 ?_
    refine bp_aload_n (q := 25) 12 rfl rfl rfl rfl ?_
    refine bp_getR (x := zD Z 0) (q := 28) (ci := 0) (j := 3) 13 rfl rfl fl_X_28_0 hX1.2.1.1 rfl hX1.2.1.2.2.2.2.1 ?_
    refine bp_callV (q := 31) (ci := 2) 14 rfl rfl cw_Page_copy lk_X_217 rfl hX1.2.2.2.2.2.1.1 wd856 wd857 rfl rfl (Nat.le_of_ble_eq_true rfl) ⟨Nat.le_of_ble_eq_true rfl, Nat.le_of_ble_eq_true rfl⟩ (s_Page_copy hX1.2.2.2.2.2.1 hD1 hX1.PD (fun h3 hP2 f2 => ?_))
    have hX2 := hX1.setP hP2 f2
    refine bp_aload_n (q := 32) 15 rfl rfl rfl rfl ?_
    refine bp_getR (x := zP Z 0) (q := 35) (ci := 0) (j := 2) 16 rfl rfl fl_X_24_0 hX2.2.1.1 rfl hX2.2.1.2.2.2.1 ?_
    refine bp_callV (q := 38) (ci := 2) 17 rfl rfl cw_Page_size lk_X_135 rfl hX2.2.2.2.2.2.1.1 wd865 wd866 rfl rfl (Nat.le_of_ble_eq_true rfl) ⟨Nat.le_of_ble_eq_true rfl, Nat.le_of_ble_eq_true rfl⟩ (s_Page_size (ro := false) hX2.2.2.2.2.2.1 ?_)
    refine bp_iret 18 rfl rfl rfl ⟨_, rfl, ?_⟩
    have q := hQ h3
    rw [if_pos z12, if_pos z12, if_pos z12] at q
    exact q hX2
  · refine bp_aload_n (q := 16) 7 rfl rfl rfl rfl ?_
    refine bp_callU (q := 19) (ci := 6) (owner := "BracedPages$Reader") 8 rfl rfl cw_Rd_fault wd849 wd851 (Or.inr rfl) ⟨by decide, by decide⟩ rfl rfl hk1 wd850 wd853 rfl rfl (Nat.le_of_ble_eq_true rfl) ⟨Nat.le_of_ble_eq_true rfl, Nat.le_of_ble_eq_true rfl⟩ (s_Rd_fault6 (ro := false) hk1 ?_)
    rw [h15_]
    refine bp_iret 9 rfl rfl rfl ⟨_, rfl, ?_⟩
    have q := hQ h1
    rw [if_neg z12, if_neg z12, if_neg z12] at q
    exact q hX1
end X1
