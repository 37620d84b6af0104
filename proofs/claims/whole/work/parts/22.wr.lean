/-! the way of a writer through the page -/
theorem Pg.live {h : bp_H} {P : Nat → Nat} {L : List (Nat × Nat)} {ps : List (Nat × Nat × Nat)} (hP : Pg h P L ps) : ∀ i, i < 8 → bp_K h (P i) ≠ 0 := by
  obtain ⟨k0, r0, r1, r2, r3, r4, sz, ⟨k1, l1⟩, ⟨k2, l2⟩, ⟨k3, l3⟩, hn, hj, hc, hl, lc, ll, hinj⟩ := hP
  intro i hi
  have h8 : i = 0 ∨ i = 1 ∨ i = 2 ∨ i = 3 ∨ i = 4 ∨ i = 5 ∨ i = 6 ∨ i = 7 := by omega
  rcases h8 with e | e | e | e | e | e | e | e <;> subst e
  · rw [k0]; decide
  · rw [k1]; decide
  · rw [k2]; decide
  · rw [k3]; decide
  · rw [hc.1]; decide
  · rw [hc.2.2.2.1]; decide
  · rw [hl.1]; decide
  · rw [hl.2.2.2.1]; decide
theorem Pg.fr {h h' : bp_H} {F : Nat → Prop} {P : Nat → Nat} {L : List (Nat × Nat)} {ps : List (Nat × Nat × Nat)} (hP : Pg h P L ps) (f : bp_Fr F h h') (hF : ∀ i, i < 8 → ¬ F (P i)) : Pg h' P L ps := by
  have lv := hP.live
  have g := fun i hi => f (P i) (lv i hi) (hF i hi)
  obtain ⟨k0, r0, r1, r2, r3, r4, sz, ⟨k1, l1⟩, ⟨k2, l2⟩, ⟨k3, l3⟩, hn, hj, hc, hl, lc, ll, hinj⟩ := hP
  obtain ⟨a1, a2, a3, a4, a5⟩ := g 0 (by decide)
  obtain ⟨b1, b2, b3, -, -⟩ := g 1 (by decide)
  obtain ⟨c1, c2, c3, -, -⟩ := g 2 (by decide)
  obtain ⟨d1, d2, d3, -, -⟩ := g 3 (by decide)
  refine ⟨a1.trans k0, (a5 0).trans r0, (a5 1).trans r1, (a5 2).trans r2, (a5 3).trans r3, (a5 4).trans r4, (a3 5).trans sz, ⟨b1.trans k1, b2.trans l1⟩, ⟨c1.trans k2, c2.trans l2⟩, ⟨d1.trans k3, d2.trans l3⟩, hn, fun j hj' => ?_, hc.fr f (hF 4 (by decide)) (hF 5 (by decide)), hl.fr f (hF 6 (by decide)) (hF 7 (by decide)), (g 5 (by decide)).2.1.trans lc, (g 7 (by decide)).2.1.trans ll, hinj⟩
  obtain ⟨x, y, z⟩ := hj j hj'
  exact ⟨(b3 j).trans x, (c3 j).trans y, (d3 j).trans z⟩
def pst (ps : List (Nat × Nat × Nat)) (p : Nat) : Nat := if p = 0 then 0 else p_e ps (p - 1)
def cdL (L : List (Nat × Nat)) : List Nat := L.map (fun q => q.1)
/-- a page as it always is -/
def okP (L : List (Nat × Nat)) (ps : List (Nat × Nat × Nat)) : Prop := L.length ≤ 400 ∧ ps.length ≤ 16 ∧ (∀ j, j < ps.length → p_a ps j < 3 ∧ p_i ps j < 10 ∧ p_e ps j ≤ L.length ∧ pst ps j ≤ p_e ps j) ∧ ∀ k, k < L.length → (32 ≤ (cdL L).getD k 0 ∧ (cdL L).getD k 0 < 256) ∧ (lkL L).getD k 0 < 6400
theorem okP.lkB {L : List (Nat × Nat)} {ps : List (Nat × Nat × Nat)} (h : okP L ps) : lkB (lkL L) := by
  have e : (lkL L).length = L.length := List.length_map ..
  refine ⟨by rw [e]; have := h.1; omega, fun j hj => ?_⟩
  have := (h.2.2.2 j (by rw [← e]; exact hj)).2
  omega
theorem p_stN {ps : List (Nat × Nat × Nat)} {p : Nat} (hn : ps.length ≤ 16) (hp : p < ps.length) : p_st ps (nI p) = nI (pst ps p) := by
  unfold p_st pst
  by_cases e : p = 0
  · subst e
    rw [if_pos (Or.inl (by decide)), if_pos rfl]; rfl
  · obtain ⟨m, rfl⟩ : ∃ m, p = m + 1 := ⟨p - 1, by omega⟩
    rw [nI_pred, if_neg (fun z => z.elim (nI_pos (by omega)) (nI_ge (by omega) (by omega))), if_neg e, nI_clamp (by omega), Nat.add_sub_cancel]
theorem p_enN {ps : List (Nat × Nat × Nat)} {p : Nat} (hn : ps.length ≤ 16) (hp : p < ps.length) : p_en ps (nI p) = nI (p_e ps p) := by
  unfold p_en
  rw [if_neg (fun z => z.elim (nI_pos (by omega)) (nI_ge hp (by omega))), nI_clamp (by omega)]
def wk1 (fS fL fE : Nat → List Nat) (L : List (Nat × Nat)) (st en k : Nat) : List Nat := (if sr (lkL L) st k then fS ((lkL L).getD k 0) else []) ++ (fL ((cdL L).getD k 0) ++ (if er (lkL L) en k then fE ((lkL L).getD k 0) else []))
def wrun (fS fL fE : Nat → List Nat) (L : List (Nat × Nat)) (st en : Nat) : Nat → Nat → List Nat
  | 0, _ => []
  | n + 1, k => wk1 fS fL fE L st en k ++ wrun fS fL fE L st en n (k + 1)
def wpar (fP : Nat → Nat → List Nat) (fS fL fE : Nat → List Nat) (fN : List Nat) (L : List (Nat × Nat)) (ps : List (Nat × Nat × Nat)) (p : Nat) : List Nat := fP (p_a ps p) (p_i ps p) ++ (wrun fS fL fE L (pst ps p) (p_e ps p) (p_e ps p - pst ps p) (pst ps p) ++ fN)
def wpag (fP : Nat → Nat → List Nat) (fS fL fE : Nat → List Nat) (fN : List Nat) (L : List (Nat × Nat)) (ps : List (Nat × Nat × Nat)) : Nat → Nat → List Nat
  | 0, _ => []
  | n + 1, p => wpar fP fS fL fE fN L ps p ++ wpag fP fS fL fE fN L ps n (p + 1)
section WRP
variable {l : Launch} {G : bp_G} {H0 : Heap} {h : bp_H} {c s : Nat} {P : Nat → Nat} {L : List (Nat × Nat)} {ps : List (Nat × Nat × Nat)} {Q : Option Value → bp_H → Nat → Nat → Prop}
theorem s_Page_alN {ro : Bool} {p : Nat} (hp : p < ps.length) (hP : Pg h P L ps) (hQ : Q (some (.int (nI (p_a ps p)))) h c s) : bp_AM l G H0 (1, 21, ro, ro) M_Page_alignmentOf h c s [.ref (P 0), .int (nI p)] Q := s_Page_alignmentOf hP (by
  have hn := hP.2.2.2.2.2.2.2.2.2.2.1
  rw [if_neg (fun z => z.elim (nI_pos (by omega)) (nI_ge hp (by omega))), nI_clamp (by omega)]; exact hQ)
theorem s_Page_inN {ro : Bool} {p : Nat} (hp : p < ps.length) (hP : Pg h P L ps) (hQ : Q (some (.int (nI (p_i ps p)))) h c s) : bp_AM l G H0 (1, 21, ro, ro) M_Page_indentOf h c s [.ref (P 0), .int (nI p)] Q := s_Page_indentOf hP (by
  have hn := hP.2.2.2.2.2.2.2.2.2.2.1
  rw [if_neg (fun z => z.elim (nI_pos (by omega)) (nI_ge hp (by omega))), nI_clamp (by omega)]; exact hQ)
theorem s_Page_codeN {ro : Bool} {k : Nat} (hk : k < L.length) (hL : L.length ≤ 400) (hP : Pg h P L ps) (hQ : Q (some (.int (nI ((cdL L).getD k 0)))) h c s) : bp_AM l G H0 (1, 21, ro, ro) M_Page_codeAt h c s [.ref (P 0), .int (nI k)] Q := s_Page_codeAt hP (by
  rw [rg_nI (by rw [List.length_map]; exact hk) (by rw [List.length_map]; omega)]; exact hQ)
theorem s_Page_lookN {ro : Bool} {k : Nat} (hk : k < L.length) (hL : L.length ≤ 400) (hP : Pg h P L ps) (hQ : Q (some (.int (nI ((lkL L).getD k 0)))) h c s) : bp_AM l G H0 (1, 21, ro, ro) M_Page_lookAt h c s [.ref (P 0), .int (nI k)] Q := s_Page_lookAt hP (by
  rw [rg_nI (by rw [List.length_map]; exact hk) (by rw [List.length_map]; omega)]; exact hQ)
end WRP
theorem twS_len (k : Nat) : (twS k).length ≤ 30 := by
  have h1 := nd_len (k / 64)
  have h2 := nd_len (k / 8 % 8)
  unfold twS; simp only [List.length_append, List.length_cons, List.length_nil, apply_ite List.length]; (repeat' split) <;> omega
theorem twL_len (k : Nat) : (twL k).length ≤ 6 := by
  have h1 := nd_len k
  unfold twL; simp only [List.length_append, List.length_cons, List.length_nil, apply_ite List.length]; (repeat' split) <;> omega
theorem bwB_len (en : Nat → Nat) (k : Nat) : (bwB en k).length ≤ 30 := by
  have h1 := nd_len (k / 64)
  have h2 := nd_len (en (k / 8 % 8))
  unfold bwB; simp only [List.length_append, List.length_cons, List.length_nil, apply_ite List.length]; (repeat' split) <;> omega
theorem bwS_len {en : Nat → Nat} (hen : ∀ j, j < 8 → en j < 8) (k : Nat) : (bwS en k).length ≤ 40 := by
  have h1 := bwB_len en k
  unfold bwS; simp only [List.length_append, List.length_cons, List.length_nil, apply_ite List.length]; (repeat' split) <;> omega
theorem bwL_len (k : Nat) : (bwL k).length ≤ 4 := by
  unfold bwL; simp only [List.length_append, List.length_cons, List.length_nil, apply_ite List.length]; (repeat' split) <;> omega
section WRT
variable {l : Launch} {G : bp_G} {H0 : Heap} {h : bp_H} {c s tw r a mx c0 s0 : Nat} {P : Nat → Nat} {L : List (Nat × Nat)} {ps : List (Nat × Nat × Nat)} {xs : List Nat} {Q : Option Value → bp_H → Nat → Nat → Prop}
def TwP (mx c0 s0 : Nat) (h : bp_H) (tw r a : Nat) (P : Nat → Nat) (L : List (Nat × Nat)) (ps : List (Nat × Nat × Nat)) (xs : List Nat) (c s : Nat) : Prop := Tw mx c0 s0 h tw r a xs c s ∧ bp_R h tw 0 = some (P 0) ∧ Pg h P L ps ∧ ∀ i, i < 8 → P i ≠ r ∧ P i ≠ a
theorem TwP.step {mx c0 s0 : Nat} {h h' : bp_H} {tw r a a' : Nat} {P : Nat → Nat} {L : List (Nat × Nat)} {ps : List (Nat × Nat × Nat)} {xs xs' : List Nat} {c s c' s' : Nat} (hT : TwP mx c0 s0 h tw r a P L ps xs c s) (hN : Tw mx c0 s0 h' tw r a' xs' c' s') (hF : gF r a h h' a') : TwP mx c0 s0 h' tw r a' P L ps xs' c' s' := by
  obtain ⟨e1, e2, e3, e4⟩ := hT
  have lv := e3.live
  have hR : Rw h r a xs := e1.2.2.1
  obtain ⟨g1, g2, g3, g4, g5⟩ := hF.1 tw (by rw [e1.1]; decide) (fun z => z.elim (fun y => by have := hR.1; rw [← y, e1.1] at this; exact absurd this (by decide)) (fun y => by have := hR.2.2.2.1; rw [← y, e1.1] at this; exact absurd this (by decide)))
  refine ⟨hN, (g5 0).trans e2, e3.fr hF.1 (fun i hi z => z.elim (e4 i hi).1 (e4 i hi).2), fun i hi => ⟨(e4 i hi).1, fun z => ?_⟩⟩
  rcases hF.2.2 with y | y
  · exact (e4 i hi).2 (z.trans y)
  · exact lv i hi (by rw [z]; exact y)
set_option maxRecDepth 100000 in
set_option maxHeartbeats 4000000 in
theorem lp_TW_par {p : Nat} (hok : okP L ps) (hp : p < ps.length) (hmx : mx < 100000) :
    ∀ (n k : Nat) (h : bp_H) (a c s : Nat) (xs : List Nat), p_e ps p - k = n → (pst ps p ≤ k ∧ k < 1000) → TwP mx c0 s0 h tw r a P L ps xs c s → xs.length + (wrun twS twL twE L (pst ps p) (p_e ps p) n k).length + 200 ≤ mx → (∀ h' a' c' s', TwP mx c0 s0 h' tw r a' P L ps (xs ++ (wrun twS twL twE L (pst ps p) (p_e ps p) n k ++ [60, 47, 112, 62])) c' s' → gF r a h h' a' → Q none h' c' s') → bp_A l G H0 (7, 152, false, false) M_Wr_writeParagraph h c s 29 [some (.ref tw), some (.int (nI p)), some (.int (nI k))] [] (fun o h' c' s' => ∃ v, o = .returned v ∧ Q v h' c' s') := by
  have hbd := hok.2.2.1 p hp
  have h400 := hok.1
  have h16 := hok.2.1
  have elk : (lkL L).length = L.length := List.length_map ..
  intro n
  induction n with
  | zero =>
    intro k h a c s xs hn hk hT0 hm hQ
    refine bp_iload_n (q := 30) 15 rfl rfl rfl rfl ?_
    refine bp_aload_n (q := 31) 16 rfl rfl rfl rfl ?_
    refine bp_getR (x := (P 0)) (q := 34) (ci := 8) (j := 0) 17 rfl rfl fl_Wr_7_8 hT0.1.1 rfl hT0.2.1 ?_
    refine bp_iload_n (q := 35) 18 rfl rfl rfl rfl ?_
    refine bp_callV (q := 38) (ci := 2) 19 rfl rfl cw_Page_endOf lk_Wr_53 rfl hT0.2.2.1.1 wd804 wd805 rfl rfl (Nat.le_of_ble_eq_true rfl) ⟨Nat.le_of_ble_eq_true rfl, Nat.le_of_ble_eq_true rfl⟩ (s_Page_endN (ro := false) (p_enN hok.2.1 hp) hT0.2.2.1 ?_)
    refine bp_icmp_ge (q := 41) (tgt := 107) 20 rfl rfl (by decide) (fun z38 => ?_) (fun z38 => ?_)
    · refine bp_aload_n (q := 108) 53 rfl rfl rfl rfl ?_
      refine bp_callU (q := 111) (ci := 8) (owner := "BracedPages$Writer") 54 rfl rfl cw_TW_endParagraph wd1047 wd1049 (Or.inl wd1048) ⟨by decide, by decide⟩ rfl rfl hT0.1.1 wd1055 wd1054 rfl rfl (Nat.le_of_ble_eq_true rfl) ⟨Nat.le_of_ble_eq_true rfl, Nat.le_of_ble_eq_true rfl⟩ (s_TW_endParagraph hT0.1 (by (try simp only [List.length_append, List.length_cons, List.length_nil]); omega) hmx (fun h1 a1 c1 s1 hX1 hF1 => ?_))
      have hT1 := hT0.step hX1 hF1
      exact bp_vret 55 rfl rfl  ⟨_, rfl, hQ _ _ _ _ (by simpa only [wrun, List.append_assoc, List.nil_append] using hT1) hF1⟩
    · exact absurd (nI_le (by omega) (by omega)) z38
  | succ n ih =>
    intro k h a c s xs hn hk hT0 hm hQ
    have hk1 := hk.1
    have hlk := (hok.2.2.2 k (by omega)).2
    have hcd := (hok.2.2.2 k (by omega)).1.2
    have hb1 := twS_len ((lkL L).getD k 0)
    have hb2 := twL_len ((cdL L).getD k 0)
    refine bp_iload_n (q := 30) 15 rfl rfl rfl rfl ?_
    refine bp_aload_n (q := 31) 16 rfl rfl rfl rfl ?_
    refine bp_getR (x := (P 0)) (q := 34) (ci := 8) (j := 0) 17 rfl rfl fl_Wr_7_8 hT0.1.1 rfl hT0.2.1 ?_
    refine bp_iload_n (q := 35) 18 rfl rfl rfl rfl ?_
    refine bp_callV (q := 38) (ci := 2) 19 rfl rfl cw_Page_endOf lk_Wr_53 rfl hT0.2.2.1.1 wd804 wd805 rfl rfl (Nat.le_of_ble_eq_true rfl) ⟨Nat.le_of_ble_eq_true rfl, Nat.le_of_ble_eq_true rfl⟩ (s_Page_endN (ro := false) (p_enN hok.2.1 hp) hT0.2.2.1 ?_)
    refine bp_icmp_ge (q := 41) (tgt := 107) 20 rfl rfl (by decide) (fun z38 => ?_) (fun z38 => ?_)
    · exact absurd z38 (nI_ge (by omega) (by omega))
    · refine bp_aload_n (q := 42) 21 rfl rfl rfl rfl ?_
      refine bp_getR (x := (P 0)) (q := 45) (ci := 8) (j := 0) 22 rfl rfl fl_Wr_7_8 hT0.1.1 rfl hT0.2.1 ?_
      refine bp_iload_n (q := 46) 23 rfl rfl rfl rfl ?_
      refine bp_iload_n (q := 47) 24 rfl rfl rfl rfl ?_
      refine bp_callV (q := 50) (ci := 2) 25 rfl rfl cw_Page_startsRun lk_Wr_56 rfl hT0.2.2.1.1 wd964 wd965 rfl rfl (Nat.le_of_ble_eq_true rfl) ⟨Nat.le_of_ble_eq_true rfl, Nat.le_of_ble_eq_true rfl⟩ (s_Page_startsN (ro := false) hok.lkB (p_stN hok.2.1 hp) hk1 (by rw [elk]; omega) hT0.2.2.1 ?_)
      refine bp_if_eq (q := 53) (tgt := 65) 26 rfl rfl (by decide) (fun z50 => ?_) (fun z50 => ?_)
      · refine bp_aload_n (q := 66) 33 rfl rfl rfl rfl ?_
        refine bp_aload_n (q := 67) 34 rfl rfl rfl rfl ?_
        refine bp_getR (x := (P 0)) (q := 70) (ci := 8) (j := 0) 35 rfl rfl fl_Wr_7_8 hT0.1.1 rfl hT0.2.1 ?_
        refine bp_iload_n (q := 71) 36 rfl rfl rfl rfl ?_
        refine bp_callV (q := 74) (ci := 2) 37 rfl rfl cw_Page_codeAt lk_Wr_66 rfl hT0.2.2.1.1 wd1010 wd1011 rfl rfl (Nat.le_of_ble_eq_true rfl) ⟨Nat.le_of_ble_eq_true rfl, Nat.le_of_ble_eq_true rfl⟩ (s_Page_codeN (ro := false) (by omega) hok.1 hT0.2.2.1 ?_)
        refine bp_callU (q := 77) (ci := 8) (owner := "BracedPages$Writer") 38 rfl rfl cw_TW_writeLetter wd1013 wd1015 (Or.inl wd1014) ⟨by decide, by decide⟩ rfl rfl hT0.1.1 wd1024 wd1023 rfl rfl (Nat.le_of_ble_eq_true rfl) ⟨Nat.le_of_ble_eq_true rfl, Nat.le_of_ble_eq_true rfl⟩ (s_TW_writeLetter hT0.1 hcd (by (try simp only [List.length_append, List.length_cons, List.length_nil]); omega) hmx (fun h1 a1 c1 s1 hX1 hF1 => ?_))
        have hT1 := hT0.step hX1 hF1
        refine bp_aload_n (q := 78) 39 rfl rfl rfl rfl ?_
        refine bp_getR (x := (P 0)) (q := 81) (ci := 8) (j := 0) 40 rfl rfl fl_Wr_7_8 hT1.1.1 rfl hT1.2.1 ?_
        refine bp_iload_n (q := 82) 41 rfl rfl rfl rfl ?_
        refine bp_iload_n (q := 83) 42 rfl rfl rfl rfl ?_
        refine bp_callV (q := 86) (ci := 2) 43 rfl rfl cw_Page_endsRun lk_Wr_72 rfl hT1.2.2.1.1 wd1030 wd1031 rfl rfl (Nat.le_of_ble_eq_true rfl) ⟨Nat.le_of_ble_eq_true rfl, Nat.le_of_ble_eq_true rfl⟩ (s_Page_endsN (ro := false) hok.lkB (p_enN hok.2.1 hp) (by omega) (by rw [elk]; omega) hT1.2.2.1 ?_)
        refine bp_if_eq (q := 89) (tgt := 101) 44 rfl rfl (by decide) (fun z86 => ?_) (fun z86 => ?_)
        · refine bp_iinc (v := nI (k + 1)) (q := 104) 51 rfl rfl rfl (nI_1 k) (by decide) (bp_up2 rfl) ?_
          refine bp_goto (tgt := 29) 52 rfl (by decide) ?_
          have y50 : sr (lkL L) (pst ps p) k = false := bI0.mp z50
          have y86 : er (lkL L) (p_e ps p) k = false := bI0.mp z86
          have e1 : wrun twS twL twE L (pst ps p) (p_e ps p) (n + 1) k = (twL ((cdL L).getD k 0)) ++ wrun twS twL twE L (pst ps p) (p_e ps p) n (k + 1) := by
            rw [wrun, wk1, y50, y86]; simp
          rw [e1] at hm hQ
          rw [List.length_append] at hm
          refine ih (k + 1) _ _ _ _ _ (by omega) (by omega) hT1 (by simp only [List.length_append] at hm ⊢; omega) (fun h' a' c' s' hX hG => hQ h' a' c' s' (by simpa only [List.append_assoc] using hX) (hF1.tr hG))
        · refine bp_aload_n (q := 90) 45 rfl rfl rfl rfl ?_
          refine bp_aload_n (q := 91) 46 rfl rfl rfl rfl ?_
          refine bp_getR (x := (P 0)) (q := 94) (ci := 8) (j := 0) 47 rfl rfl fl_Wr_7_8 hT1.1.1 rfl hT1.2.1 ?_
          refine bp_iload_n (q := 95) 48 rfl rfl rfl rfl ?_
          refine bp_callV (q := 98) (ci := 2) 49 rfl rfl cw_Page_lookAt lk_Wr_60 rfl hT1.2.2.1.1 wd904 wd905 rfl rfl (Nat.le_of_ble_eq_true rfl) ⟨Nat.le_of_ble_eq_true rfl, Nat.le_of_ble_eq_true rfl⟩ (s_Page_lookN (ro := false) (by omega) hok.1 hT1.2.2.1 ?_)
          refine bp_callU (q := 101) (ci := 8) (owner := "BracedPages$Writer") 50 rfl rfl cw_TW_endRun wd1033 wd1035 (Or.inl wd1034) ⟨by decide, by decide⟩ rfl rfl hT1.1.1 wd1040 wd1039 rfl rfl (Nat.le_of_ble_eq_true rfl) ⟨Nat.le_of_ble_eq_true rfl, Nat.le_of_ble_eq_true rfl⟩ (s_TW_endRun hT1.1 hlk (by (try simp only [List.length_append, List.length_cons, List.length_nil]); omega) hmx (fun h2 a2 c2 s2 hX2 hF2 => ?_))
          have hT2 := hT1.step hX2 hF2
          refine bp_iinc (v := nI (k + 1)) (q := 104) 51 rfl rfl rfl (nI_1 k) (by decide) (bp_up2 rfl) ?_
          refine bp_goto (tgt := 29) 52 rfl (by decide) ?_
          have y50 : sr (lkL L) (pst ps p) k = false := bI0.mp z50
          have y86 : er (lkL L) (p_e ps p) k = true := bI1 z86
          have e1 : wrun twS twL twE L (pst ps p) (p_e ps p) (n + 1) k = (twL ((cdL L).getD k 0) ++ twE ((lkL L).getD k 0)) ++ wrun twS twL twE L (pst ps p) (p_e ps p) n (k + 1) := by
            rw [wrun, wk1, y50, y86]; simp
          rw [e1] at hm hQ
          rw [List.length_append] at hm
          refine ih (k + 1) _ _ _ _ _ (by omega) (by omega) hT2 (by simp only [List.length_append] at hm ⊢; omega) (fun h' a' c' s' hX hG => hQ h' a' c' s' (by simpa only [List.append_assoc] using hX) ((hF1.tr hF2).tr hG))
      · refine bp_aload_n (q := 54) 27 rfl rfl rfl rfl ?_
        refine bp_aload_n (q := 55) 28 rfl rfl rfl rfl ?_
        refine bp_getR (x := (P 0)) (q := 58) (ci := 8) (j := 0) 29 rfl rfl fl_Wr_7_8 hT0.1.1 rfl hT0.2.1 ?_
        refine bp_iload_n (q := 59) 30 rfl rfl rfl rfl ?_
        refine bp_callV (q := 62) (ci := 2) 31 rfl rfl cw_Page_lookAt lk_Wr_60 rfl hT0.2.2.1.1 wd904 wd905 rfl rfl (Nat.le_of_ble_eq_true rfl) ⟨Nat.le_of_ble_eq_true rfl, Nat.le_of_ble_eq_true rfl⟩ (s_Page_lookN (ro := false) (by omega) hok.1 hT0.2.2.1 ?_)
        refine bp_callU (q := 65) (ci := 8) (owner := "BracedPages$Writer") 32 rfl rfl cw_TW_startRun wd968 wd970 (Or.inl wd969) ⟨by decide, by decide⟩ rfl rfl hT0.1.1 wd991 wd990 rfl rfl (Nat.le_of_ble_eq_true rfl) ⟨Nat.le_of_ble_eq_true rfl, Nat.le_of_ble_eq_true rfl⟩ (s_TW_startRun hT0.1 hlk (by (try simp only [List.length_append, List.length_cons, List.length_nil]); omega) hmx (fun h1 a1 c1 s1 hX1 hF1 => ?_))
        have hT1 := hT0.step hX1 hF1
        refine bp_aload_n (q := 66) 33 rfl rfl rfl rfl ?_
        refine bp_aload_n (q := 67) 34 rfl rfl rfl rfl ?_
        refine bp_getR (x := (P 0)) (q := 70) (ci := 8) (j := 0) 35 rfl rfl fl_Wr_7_8 hT1.1.1 rfl hT1.2.1 ?_
        refine bp_iload_n (q := 71) 36 rfl rfl rfl rfl ?_
        refine bp_callV (q := 74) (ci := 2) 37 rfl rfl cw_Page_codeAt lk_Wr_66 rfl hT1.2.2.1.1 wd1010 wd1011 rfl rfl (Nat.le_of_ble_eq_true rfl) ⟨Nat.le_of_ble_eq_true rfl, Nat.le_of_ble_eq_true rfl⟩ (s_Page_codeN (ro := false) (by omega) hok.1 hT1.2.2.1 ?_)
        refine bp_callU (q := 77) (ci := 8) (owner := "BracedPages$Writer") 38 rfl rfl cw_TW_writeLetter wd1013 wd1015 (Or.inl wd1014) ⟨by decide, by decide⟩ rfl rfl hT1.1.1 wd1024 wd1023 rfl rfl (Nat.le_of_ble_eq_true rfl) ⟨Nat.le_of_ble_eq_true rfl, Nat.le_of_ble_eq_true rfl⟩ (s_TW_writeLetter hT1.1 hcd (by (try simp only [List.length_append, List.length_cons, List.length_nil]); omega) hmx (fun h2 a2 c2 s2 hX2 hF2 => ?_))
        have hT2 := hT1.step hX2 hF2
        refine bp_aload_n (q := 78) 39 rfl rfl rfl rfl ?_
        refine bp_getR (x := (P 0)) (q := 81) (ci := 8) (j := 0) 40 rfl rfl fl_Wr_7_8 hT2.1.1 rfl hT2.2.1 ?_
        refine bp_iload_n (q := 82) 41 rfl rfl rfl rfl ?_
        refine bp_iload_n (q := 83) 42 rfl rfl rfl rfl ?_
        refine bp_callV (q := 86) (ci := 2) 43 rfl rfl cw_Page_endsRun lk_Wr_72 rfl hT2.2.2.1.1 wd1030 wd1031 rfl rfl (Nat.le_of_ble_eq_true rfl) ⟨Nat.le_of_ble_eq_true rfl, Nat.le_of_ble_eq_true rfl⟩ (s_Page_endsN (ro := false) hok.lkB (p_enN hok.2.1 hp) (by omega) (by rw [elk]; omega) hT2.2.2.1 ?_)
        refine bp_if_eq (q := 89) (tgt := 101) 44 rfl rfl (by decide) (fun z86 => ?_) (fun z86 => ?_)
        · refine bp_iinc (v := nI (k + 1)) (q := 104) 51 rfl rfl rfl (nI_1 k) (by decide) (bp_up2 rfl) ?_
          refine bp_goto (tgt := 29) 52 rfl (by decide) ?_
          have y50 : sr (lkL L) (pst ps p) k = true := bI1 z50
          have y86 : er (lkL L) (p_e ps p) k = false := bI0.mp z86
          have e1 : wrun twS twL twE L (pst ps p) (p_e ps p) (n + 1) k = (twS ((lkL L).getD k 0) ++ twL ((cdL L).getD k 0)) ++ wrun twS twL twE L (pst ps p) (p_e ps p) n (k + 1) := by
            rw [wrun, wk1, y50, y86]; simp
          rw [e1] at hm hQ
          rw [List.length_append] at hm
          refine ih (k + 1) _ _ _ _ _ (by omega) (by omega) hT2 (by simp only [List.length_append] at hm ⊢; omega) (fun h' a' c' s' hX hG => hQ h' a' c' s' (by simpa only [List.append_assoc] using hX) ((hF1.tr hF2).tr hG))
        · refine bp_aload_n (q := 90) 45 rfl rfl rfl rfl ?_
          refine bp_aload_n (q := 91) 46 rfl rfl rfl rfl ?_
          refine bp_getR (x := (P 0)) (q := 94) (ci := 8) (j := 0) 47 rfl rfl fl_Wr_7_8 hT2.1.1 rfl hT2.2.1 ?_
          refine bp_iload_n (q := 95) 48 rfl rfl rfl rfl ?_
          refine bp_callV (q := 98) (ci := 2) 49 rfl rfl cw_Page_lookAt lk_Wr_60 rfl hT2.2.2.1.1 wd904 wd905 rfl rfl (Nat.le_of_ble_eq_true rfl) ⟨Nat.le_of_ble_eq_true rfl, Nat.le_of_ble_eq_true rfl⟩ (s_Page_lookN (ro := false) (by omega) hok.1 hT2.2.2.1 ?_)
          refine bp_callU (q := 101) (ci := 8) (owner := "BracedPages$Writer") 50 rfl rfl cw_TW_endRun wd1033 wd1035 (Or.inl wd1034) ⟨by decide, by decide⟩ rfl rfl hT2.1.1 wd1040 wd1039 rfl rfl (Nat.le_of_ble_eq_true rfl) ⟨Nat.le_of_ble_eq_true rfl, Nat.le_of_ble_eq_true rfl⟩ (s_TW_endRun hT2.1 hlk (by (try simp only [List.length_append, List.length_cons, List.length_nil]); omega) hmx (fun h3 a3 c3 s3 hX3 hF3 => ?_))
          have hT3 := hT2.step hX3 hF3
          refine bp_iinc (v := nI (k + 1)) (q := 104) 51 rfl rfl rfl (nI_1 k) (by decide) (bp_up2 rfl) ?_
          refine bp_goto (tgt := 29) 52 rfl (by decide) ?_
          have y50 : sr (lkL L) (pst ps p) k = true := bI1 z50
          have y86 : er (lkL L) (p_e ps p) k = true := bI1 z86
          have e1 : wrun twS twL twE L (pst ps p) (p_e ps p) (n + 1) k = (twS ((lkL L).getD k 0) ++ twL ((cdL L).getD k 0) ++ twE ((lkL L).getD k 0)) ++ wrun twS twL twE L (pst ps p) (p_e ps p) n (k + 1) := by
            rw [wrun, wk1, y50, y86]; simp
          rw [e1] at hm hQ
          rw [List.length_append] at hm
          refine ih (k + 1) _ _ _ _ _ (by omega) (by omega) hT3 (by simp only [List.length_append] at hm ⊢; omega) (fun h' a' c' s' hX hG => hQ h' a' c' s' (by simpa only [List.append_assoc] using hX) (((hF1.tr hF2).tr hF3).tr hG))
set_option maxRecDepth 100000 in
set_option maxHeartbeats 4000000 in
theorem s_TW_writeParagraph {p : Nat} (hok : okP L ps) (hp : p < ps.length) (hmx : mx < 100000) (hT0 : TwP mx c0 s0 h tw r a P L ps xs c s) (hm : xs.length + (wpar twP twS twL twE [60, 47, 112, 62] L ps p).length + 200 ≤ mx) (hQ : (∀ h' a' c' s', TwP mx c0 s0 h' tw r a' P L ps (xs ++ wpar twP twS twL twE [60, 47, 112, 62] L ps p) c' s' → gF r a h h' a' → Q none h' c' s')) : bp_AM l G H0 (7, 152, false, false) M_Wr_writeParagraph h c s [.ref tw, .int (nI p)] Q := by
  refine bp_of (ls := [some (.ref tw), some (.int (nI p)), none]) (by decide) dt_Wr_writeParagraph (Nat.le_of_ble_eq_true rfl) (fun q hq => hq) false ?_
  have hbd := hok.2.2.1 p hp
  have h400 := hok.1
  refine bp_aload_n (q := 1) 0 rfl rfl rfl rfl ?_
  refine bp_aload_n (q := 2) 1 rfl rfl rfl rfl ?_
  refine bp_getR (x := (P 0)) (q := 5) (ci := 8) (j := 0) 2 rfl rfl fl_Wr_7_8 hT0.1.1 rfl hT0.2.1 ?_
  refine bp_iload_n (q := 6) 3 rfl rfl rfl rfl ?_
  refine bp_callV (q := 9) (ci := 2) 4 rfl rfl cw_Page_alignmentOf lk_Wr_39 rfl hT0.2.2.1.1 wd929 wd930 rfl rfl (Nat.le_of_ble_eq_true rfl) ⟨Nat.le_of_ble_eq_true rfl, Nat.le_of_ble_eq_true rfl⟩ (s_Page_alN (ro := false) hp hT0.2.2.1 ?_)
  refine bp_aload_n (q := 10) 5 rfl rfl rfl rfl ?_
  refine bp_getR (x := (P 0)) (q := 13) (ci := 8) (j := 0) 6 rfl rfl fl_Wr_7_8 hT0.1.1 rfl hT0.2.1 ?_
  refine bp_iload_n (q := 14) 7 rfl rfl rfl rfl ?_
  refine bp_callV (q := 17) (ci := 2) 8 rfl rfl cw_Page_indentOf lk_Wr_43 rfl hT0.2.2.1.1 wd933 wd934 rfl rfl (Nat.le_of_ble_eq_true rfl) ⟨Nat.le_of_ble_eq_true rfl, Nat.le_of_ble_eq_true rfl⟩ (s_Page_inN (ro := false) hp hT0.2.2.1 ?_)
  refine bp_callU (q := 20) (ci := 8) (owner := "BracedPages$Writer") 9 rfl rfl cw_TW_startParagraph wd936 wd938 (Or.inl wd937) ⟨by decide, by decide⟩ rfl rfl hT0.1.1 wd955 wd954 rfl rfl (Nat.le_of_ble_eq_true rfl) ⟨Nat.le_of_ble_eq_true rfl, Nat.le_of_ble_eq_true rfl⟩ (s_TW_startParagraph hT0.1 hbd.1 hbd.2.1 (by (try simp only [List.length_append, List.length_cons, List.length_nil]); omega) hmx (fun h1 a1 c1 s1 hX1 hF1 => ?_))
  have hT1 := hT0.step hX1 hF1
  refine bp_aload_n (q := 21) 10 rfl rfl rfl rfl ?_
  refine bp_getR (x := (P 0)) (q := 24) (ci := 8) (j := 0) 11 rfl rfl fl_Wr_7_8 hT1.1.1 rfl hT1.2.1 ?_
  refine bp_iload_n (q := 25) 12 rfl rfl rfl rfl ?_
  refine bp_callV (q := 28) (ci := 2) 13 rfl rfl cw_Page_startOf lk_Wr_50 rfl hT1.2.2.1.1 wd812 wd813 rfl rfl (Nat.le_of_ble_eq_true rfl) ⟨Nat.le_of_ble_eq_true rfl, Nat.le_of_ble_eq_true rfl⟩ (s_Page_startN (ro := false) (p_stN hok.2.1 hp) hT1.2.2.1 ?_)
  refine bp_istore_n (q := 29) 14 rfl rfl rfl (by decide) (bp_up2 rfl) ?_
  rw [wpar] at hm hQ
  simp only [List.length_append] at hm
  refine lp_TW_par hok hp hmx (p_e ps p - pst ps p) (pst ps p) _ _ _ _ _ rfl ⟨Nat.le_refl _, by omega⟩ hT1 (by simp only [List.length_append]; omega) (fun h' a' c' s' hX hG => hQ h' a' c' s' (by simpa only [List.append_assoc] using hX) (hF1.tr hG))
end WRT
section WRB
variable {l : Launch} {G : bp_G} {H0 : Heap} {h : bp_H} {c s bw r a e mx c0 s0 : Nat} {en : Nat → Nat} {P : Nat → Nat} {L : List (Nat × Nat)} {ps : List (Nat × Nat × Nat)} {xs : List Nat} {Q : Option Value → bp_H → Nat → Nat → Prop}
def BwP (mx c0 s0 : Nat) (h : bp_H) (bw r a e : Nat) (en : Nat → Nat) (P : Nat → Nat) (L : List (Nat × Nat)) (ps : List (Nat × Nat × Nat)) (xs : List Nat) (c s : Nat) : Prop := Bw mx c0 s0 h bw r a e en xs c s ∧ bp_R h bw 1 = some (P 0) ∧ Pg h P L ps ∧ ∀ i, i < 8 → P i ≠ r ∧ P i ≠ a
theorem BwP.step {mx c0 s0 : Nat} {h h' : bp_H} {bw r a e a' : Nat} {en : Nat → Nat} {P : Nat → Nat} {L : List (Nat × Nat)} {ps : List (Nat × Nat × Nat)} {xs xs' : List Nat} {c s c' s' : Nat} (hT : BwP mx c0 s0 h bw r a e en P L ps xs c s) (hN : Bw mx c0 s0 h' bw r a' e en xs' c' s') (hF : gF r a h h' a') : BwP mx c0 s0 h' bw r a' e en P L ps xs' c' s' := by
  obtain ⟨e1, e2, e3, e4⟩ := hT
  have lv := e3.live
  have hR : Rw h r a xs := e1.2.2.1.1
  obtain ⟨g1, g2, g3, g4, g5⟩ := hF.1 bw (by rw [e1.1]; decide) (fun z => z.elim (fun y => by have := hR.1; rw [← y, e1.1] at this; exact absurd this (by decide)) (fun y => by have := hR.2.2.2.1; rw [← y, e1.1] at this; exact absurd this (by decide)))
  refine ⟨hN, (g5 1).trans e2, e3.fr hF.1 (fun i hi z => z.elim (e4 i hi).1 (e4 i hi).2), fun i hi => ⟨(e4 i hi).1, fun z => ?_⟩⟩
  rcases hF.2.2 with y | y
  · exact (e4 i hi).2 (z.trans y)
  · exact lv i hi (by rw [z]; exact y)
set_option maxRecDepth 100000 in
set_option maxHeartbeats 4000000 in
theorem lp_BW_par {p : Nat} (hok : okP L ps) (hen : ∀ j, j < 8 → en j < 8) (hp : p < ps.length) (hmx : mx < 100000) :
    ∀ (n k : Nat) (h : bp_H) (a c s : Nat) (xs : List Nat), p_e ps p - k = n → (pst ps p ≤ k ∧ k < 1000) → BwP mx c0 s0 h bw r a e en P L ps xs c s → xs.length + (wrun (bwS en) bwL (fun _ => [125]) L (pst ps p) (p_e ps p) n k).length + 200 ≤ mx → (∀ h' a' c' s', BwP mx c0 s0 h' bw r a' e en P L ps (xs ++ (wrun (bwS en) bwL (fun _ => [125]) L (pst ps p) (p_e ps p) n k ++ [92, 112, 97, 114])) c' s' → gF r a h h' a' → Q none h' c' s') → bp_A l G H0 (7, 152, false, false) M_Wr_writeParagraph h c s 29 [some (.ref bw), some (.int (nI p)), some (.int (nI k))] [] (fun o h' c' s' => ∃ v, o = .returned v ∧ Q v h' c' s') := by
  have hbd := hok.2.2.1 p hp
  have h400 := hok.1
  have h16 := hok.2.1
  have elk : (lkL L).length = L.length := List.length_map ..
  intro n
  induction n with
  | zero =>
    intro k h a c s xs hn hk hT0 hm hQ
    refine bp_iload_n (q := 30) 15 rfl rfl rfl rfl ?_
    refine bp_aload_n (q := 31) 16 rfl rfl rfl rfl ?_
    refine bp_getR (x := (P 0)) (q := 34) (ci := 7) (j := 1) 17 rfl rfl fl_Wr_7_7 hT0.1.1 rfl hT0.2.1 ?_
    refine bp_iload_n (q := 35) 18 rfl rfl rfl rfl ?_
    refine bp_callV (q := 38) (ci := 2) 19 rfl rfl cw_Page_endOf lk_Wr_53 rfl hT0.2.2.1.1 wd804 wd805 rfl rfl (Nat.le_of_ble_eq_true rfl) ⟨Nat.le_of_ble_eq_true rfl, Nat.le_of_ble_eq_true rfl⟩ (s_Page_endN (ro := false) (p_enN hok.2.1 hp) hT0.2.2.1 ?_)
    refine bp_icmp_ge (q := 41) (tgt := 107) 20 rfl rfl (by decide) (fun z38 => ?_) (fun z38 => ?_)
    · refine bp_aload_n (q := 108) 53 rfl rfl rfl rfl ?_
      refine bp_callU (q := 111) (ci := 7) (owner := "BracedPages$Writer") 54 rfl rfl cw_BW_endParagraph wd1047 wd1049 (Or.inl wd1048) ⟨by decide, by decide⟩ rfl rfl hT0.1.1 wd1051 wd1050 rfl rfl (Nat.le_of_ble_eq_true rfl) ⟨Nat.le_of_ble_eq_true rfl, Nat.le_of_ble_eq_true rfl⟩ (s_BW_endParagraph hT0.1 (by (try simp only [List.length_append, List.length_cons, List.length_nil]); omega) hmx (fun h1 a1 c1 s1 hX1 hF1 => ?_))
      have hT1 := hT0.step hX1 hF1
      exact bp_vret 55 rfl rfl  ⟨_, rfl, hQ _ _ _ _ (by simpa only [wrun, List.append_assoc, List.nil_append] using hT1) hF1⟩
    · exact absurd (nI_le (by omega) (by omega)) z38
  | succ n ih =>
    intro k h a c s xs hn hk hT0 hm hQ
    have hk1 := hk.1
    have hlk := (hok.2.2.2 k (by omega)).2
    have hcd := (hok.2.2.2 k (by omega)).1.2
    have hb1 := bwS_len hen ((lkL L).getD k 0)
    have hb2 := bwL_len ((cdL L).getD k 0)
    refine bp_iload_n (q := 30) 15 rfl rfl rfl rfl ?_
    refine bp_aload_n (q := 31) 16 rfl rfl rfl rfl ?_
    refine bp_getR (x := (P 0)) (q := 34) (ci := 7) (j := 1) 17 rfl rfl fl_Wr_7_7 hT0.1.1 rfl hT0.2.1 ?_
    refine bp_iload_n (q := 35) 18 rfl rfl rfl rfl ?_
    refine bp_callV (q := 38) (ci := 2) 19 rfl rfl cw_Page_endOf lk_Wr_53 rfl hT0.2.2.1.1 wd804 wd805 rfl rfl (Nat.le_of_ble_eq_true rfl) ⟨Nat.le_of_ble_eq_true rfl, Nat.le_of_ble_eq_true rfl⟩ (s_Page_endN (ro := false) (p_enN hok.2.1 hp) hT0.2.2.1 ?_)
    refine bp_icmp_ge (q := 41) (tgt := 107) 20 rfl rfl (by decide) (fun z38 => ?_) (fun z38 => ?_)
    · exact absurd z38 (nI_ge (by omega) (by omega))
    · refine bp_aload_n (q := 42) 21 rfl rfl rfl rfl ?_
      refine bp_getR (x := (P 0)) (q := 45) (ci := 7) (j := 1) 22 rfl rfl fl_Wr_7_7 hT0.1.1 rfl hT0.2.1 ?_
      refine bp_iload_n (q := 46) 23 rfl rfl rfl rfl ?_
      refine bp_iload_n (q := 47) 24 rfl rfl rfl rfl ?_
      refine bp_callV (q := 50) (ci := 2) 25 rfl rfl cw_Page_startsRun lk_Wr_56 rfl hT0.2.2.1.1 wd964 wd965 rfl rfl (Nat.le_of_ble_eq_true rfl) ⟨Nat.le_of_ble_eq_true rfl, Nat.le_of_ble_eq_true rfl⟩ (s_Page_startsN (ro := false) hok.lkB (p_stN hok.2.1 hp) hk1 (by rw [elk]; omega) hT0.2.2.1 ?_)
      refine bp_if_eq (q := 53) (tgt := 65) 26 rfl rfl (by decide) (fun z50 => ?_) (fun z50 => ?_)
      · refine bp_aload_n (q := 66) 33 rfl rfl rfl rfl ?_
        refine bp_aload_n (q := 67) 34 rfl rfl rfl rfl ?_
        refine bp_getR (x := (P 0)) (q := 70) (ci := 7) (j := 1) 35 rfl rfl fl_Wr_7_7 hT0.1.1 rfl hT0.2.1 ?_
        refine bp_iload_n (q := 71) 36 rfl rfl rfl rfl ?_
        refine bp_callV (q := 74) (ci := 2) 37 rfl rfl cw_Page_codeAt lk_Wr_66 rfl hT0.2.2.1.1 wd1010 wd1011 rfl rfl (Nat.le_of_ble_eq_true rfl) ⟨Nat.le_of_ble_eq_true rfl, Nat.le_of_ble_eq_true rfl⟩ (s_Page_codeN (ro := false) (by omega) hok.1 hT0.2.2.1 ?_)
        refine bp_callU (q := 77) (ci := 7) (owner := "BracedPages$Writer") 38 rfl rfl cw_BW_writeLetter wd1013 wd1015 (Or.inl wd1014) ⟨by decide, by decide⟩ rfl rfl hT0.1.1 wd1017 wd1016 rfl rfl (Nat.le_of_ble_eq_true rfl) ⟨Nat.le_of_ble_eq_true rfl, Nat.le_of_ble_eq_true rfl⟩ (s_BW_writeLetter hT0.1 hcd (by (try simp only [List.length_append, List.length_cons, List.length_nil]); omega) hmx (fun h1 a1 c1 s1 hX1 hF1 => ?_))
        have hT1 := hT0.step hX1 hF1
        refine bp_aload_n (q := 78) 39 rfl rfl rfl rfl ?_
        refine bp_getR (x := (P 0)) (q := 81) (ci := 7) (j := 1) 40 rfl rfl fl_Wr_7_7 hT1.1.1 rfl hT1.2.1 ?_
        refine bp_iload_n (q := 82) 41 rfl rfl rfl rfl ?_
        refine bp_iload_n (q := 83) 42 rfl rfl rfl rfl ?_
        refine bp_callV (q := 86) (ci := 2) 43 rfl rfl cw_Page_endsRun lk_Wr_72 rfl hT1.2.2.1.1 wd1030 wd1031 rfl rfl (Nat.le_of_ble_eq_true rfl) ⟨Nat.le_of_ble_eq_true rfl, Nat.le_of_ble_eq_true rfl⟩ (s_Page_endsN (ro := false) hok.lkB (p_enN hok.2.1 hp) (by omega) (by rw [elk]; omega) hT1.2.2.1 ?_)
        refine bp_if_eq (q := 89) (tgt := 101) 44 rfl rfl (by decide) (fun z86 => ?_) (fun z86 => ?_)
        · refine bp_iinc (v := nI (k + 1)) (q := 104) 51 rfl rfl rfl (nI_1 k) (by decide) (bp_up2 rfl) ?_
          refine bp_goto (tgt := 29) 52 rfl (by decide) ?_
          have y50 : sr (lkL L) (pst ps p) k = false := bI0.mp z50
          have y86 : er (lkL L) (p_e ps p) k = false := bI0.mp z86
          have e1 : wrun (bwS en) bwL (fun _ => [125]) L (pst ps p) (p_e ps p) (n + 1) k = (bwL ((cdL L).getD k 0)) ++ wrun (bwS en) bwL (fun _ => [125]) L (pst ps p) (p_e ps p) n (k + 1) := by
            rw [wrun, wk1, y50, y86]; simp
          rw [e1] at hm hQ
          rw [List.length_append] at hm
          refine ih (k + 1) _ _ _ _ _ (by omega) (by omega) hT1 (by simp only [List.length_append] at hm ⊢; omega) (fun h' a' c' s' hX hG => hQ h' a' c' s' (by simpa only [List.append_assoc] using hX) (hF1.tr hG))
        · refine bp_aload_n (q := 90) 45 rfl rfl rfl rfl ?_
          refine bp_aload_n (q := 91) 46 rfl rfl rfl rfl ?_
          refine bp_getR (x := (P 0)) (q := 94) (ci := 7) (j := 1) 47 rfl rfl fl_Wr_7_7 hT1.1.1 rfl hT1.2.1 ?_
          refine bp_iload_n (q := 95) 48 rfl rfl rfl rfl ?_
          refine bp_callV (q := 98) (ci := 2) 49 rfl rfl cw_Page_lookAt lk_Wr_60 rfl hT1.2.2.1.1 wd904 wd905 rfl rfl (Nat.le_of_ble_eq_true rfl) ⟨Nat.le_of_ble_eq_true rfl, Nat.le_of_ble_eq_true rfl⟩ (s_Page_lookN (ro := false) (by omega) hok.1 hT1.2.2.1 ?_)
          refine bp_callU (q := 101) (ci := 7) (owner := "BracedPages$Writer") 50 rfl rfl cw_BW_endRun wd1033 wd1035 (Or.inl wd1034) ⟨by decide, by decide⟩ rfl rfl hT1.1.1 wd1037 wd1036 rfl rfl (Nat.le_of_ble_eq_true rfl) ⟨Nat.le_of_ble_eq_true rfl, Nat.le_of_ble_eq_true rfl⟩ (s_BW_endRun hT1.1 (by (try simp only [List.length_append, List.length_cons, List.length_nil]); omega) hmx (fun h2 a2 c2 s2 hX2 hF2 => ?_))
          have hT2 := hT1.step hX2 hF2
          refine bp_iinc (v := nI (k + 1)) (q := 104) 51 rfl rfl rfl (nI_1 k) (by decide) (bp_up2 rfl) ?_
          refine bp_goto (tgt := 29) 52 rfl (by decide) ?_
          have y50 : sr (lkL L) (pst ps p) k = false := bI0.mp z50
          have y86 : er (lkL L) (p_e ps p) k = true := bI1 z86
          have e1 : wrun (bwS en) bwL (fun _ => [125]) L (pst ps p) (p_e ps p) (n + 1) k = (bwL ((cdL L).getD k 0) ++ (fun _ => [125]) ((lkL L).getD k 0)) ++ wrun (bwS en) bwL (fun _ => [125]) L (pst ps p) (p_e ps p) n (k + 1) := by
            rw [wrun, wk1, y50, y86]; simp
          rw [e1] at hm hQ
          rw [List.length_append] at hm
          refine ih (k + 1) _ _ _ _ _ (by omega) (by omega) hT2 (by simp only [List.length_append] at hm ⊢; omega) (fun h' a' c' s' hX hG => hQ h' a' c' s' (by simpa only [List.append_assoc] using hX) ((hF1.tr hF2).tr hG))
      · refine bp_aload_n (q := 54) 27 rfl rfl rfl rfl ?_
        refine bp_aload_n (q := 55) 28 rfl rfl rfl rfl ?_
        refine bp_getR (x := (P 0)) (q := 58) (ci := 7) (j := 1) 29 rfl rfl fl_Wr_7_7 hT0.1.1 rfl hT0.2.1 ?_
        refine bp_iload_n (q := 59) 30 rfl rfl rfl rfl ?_
        refine bp_callV (q := 62) (ci := 2) 31 rfl rfl cw_Page_lookAt lk_Wr_60 rfl hT0.2.2.1.1 wd904 wd905 rfl rfl (Nat.le_of_ble_eq_true rfl) ⟨Nat.le_of_ble_eq_true rfl, Nat.le_of_ble_eq_true rfl⟩ (s_Page_lookN (ro := false) (by omega) hok.1 hT0.2.2.1 ?_)
        refine bp_callU (q := 65) (ci := 7) (owner := "BracedPages$Writer") 32 rfl rfl cw_BW_startRun wd968 wd970 (Or.inl wd969) ⟨by decide, by decide⟩ rfl rfl hT0.1.1 wd972 wd971 rfl rfl (Nat.le_of_ble_eq_true rfl) ⟨Nat.le_of_ble_eq_true rfl, Nat.le_of_ble_eq_true rfl⟩ (s_BW_startRun hT0.1 hlk hen (by (try simp only [List.length_append, List.length_cons, List.length_nil]); omega) hmx (fun h1 a1 c1 s1 hX1 hF1 => ?_))
        have hT1 := hT0.step hX1 hF1
        refine bp_aload_n (q := 66) 33 rfl rfl rfl rfl ?_
        refine bp_aload_n (q := 67) 34 rfl rfl rfl rfl ?_
        refine bp_getR (x := (P 0)) (q := 70) (ci := 7) (j := 1) 35 rfl rfl fl_Wr_7_7 hT1.1.1 rfl hT1.2.1 ?_
        refine bp_iload_n (q := 71) 36 rfl rfl rfl rfl ?_
        refine bp_callV (q := 74) (ci := 2) 37 rfl rfl cw_Page_codeAt lk_Wr_66 rfl hT1.2.2.1.1 wd1010 wd1011 rfl rfl (Nat.le_of_ble_eq_true rfl) ⟨Nat.le_of_ble_eq_true rfl, Nat.le_of_ble_eq_true rfl⟩ (s_Page_codeN (ro := false) (by omega) hok.1 hT1.2.2.1 ?_)
        refine bp_callU (q := 77) (ci := 7) (owner := "BracedPages$Writer") 38 rfl rfl cw_BW_writeLetter wd1013 wd1015 (Or.inl wd1014) ⟨by decide, by decide⟩ rfl rfl hT1.1.1 wd1017 wd1016 rfl rfl (Nat.le_of_ble_eq_true rfl) ⟨Nat.le_of_ble_eq_true rfl, Nat.le_of_ble_eq_true rfl⟩ (s_BW_writeLetter hT1.1 hcd (by (try simp only [List.length_append, List.length_cons, List.length_nil]); omega) hmx (fun h2 a2 c2 s2 hX2 hF2 => ?_))
        have hT2 := hT1.step hX2 hF2
        refine bp_aload_n (q := 78) 39 rfl rfl rfl rfl ?_
        refine bp_getR (x := (P 0)) (q := 81) (ci := 7) (j := 1) 40 rfl rfl fl_Wr_7_7 hT2.1.1 rfl hT2.2.1 ?_
        refine bp_iload_n (q := 82) 41 rfl rfl rfl rfl ?_
        refine bp_iload_n (q := 83) 42 rfl rfl rfl rfl ?_
        refine bp_callV (q := 86) (ci := 2) 43 rfl rfl cw_Page_endsRun lk_Wr_72 rfl hT2.2.2.1.1 wd1030 wd1031 rfl rfl (Nat.le_of_ble_eq_true rfl) ⟨Nat.le_of_ble_eq_true rfl, Nat.le_of_ble_eq_true rfl⟩ (s_Page_endsN (ro := false) hok.lkB (p_enN hok.2.1 hp) (by omega) (by rw [elk]; omega) hT2.2.2.1 ?_)
        refine bp_if_eq (q := 89) (tgt := 101) 44 rfl rfl (by decide) (fun z86 => ?_) (fun z86 => ?_)
        · refine bp_iinc (v := nI (k + 1)) (q := 104) 51 rfl rfl rfl (nI_1 k) (by decide) (bp_up2 rfl) ?_
          refine bp_goto (tgt := 29) 52 rfl (by decide) ?_
          have y50 : sr (lkL L) (pst ps p) k = true := bI1 z50
          have y86 : er (lkL L) (p_e ps p) k = false := bI0.mp z86
          have e1 : wrun (bwS en) bwL (fun _ => [125]) L (pst ps p) (p_e ps p) (n + 1) k = ((bwS en) ((lkL L).getD k 0) ++ bwL ((cdL L).getD k 0)) ++ wrun (bwS en) bwL (fun _ => [125]) L (pst ps p) (p_e ps p) n (k + 1) := by
            rw [wrun, wk1, y50, y86]; simp
          rw [e1] at hm hQ
          rw [List.length_append] at hm
          refine ih (k + 1) _ _ _ _ _ (by omega) (by omega) hT2 (by simp only [List.length_append] at hm ⊢; omega) (fun h' a' c' s' hX hG => hQ h' a' c' s' (by simpa only [List.append_assoc] using hX) ((hF1.tr hF2).tr hG))
        · refine bp_aload_n (q := 90) 45 rfl rfl rfl rfl ?_
          refine bp_aload_n (q := 91) 46 rfl rfl rfl rfl ?_
          refine bp_getR (x := (P 0)) (q := 94) (ci := 7) (j := 1) 47 rfl rfl fl_Wr_7_7 hT2.1.1 rfl hT2.2.1 ?_
          refine bp_iload_n (q := 95) 48 rfl rfl rfl rfl ?_
          refine bp_callV (q := 98) (ci := 2) 49 rfl rfl cw_Page_lookAt lk_Wr_60 rfl hT2.2.2.1.1 wd904 wd905 rfl rfl (Nat.le_of_ble_eq_true rfl) ⟨Nat.le_of_ble_eq_true rfl, Nat.le_of_ble_eq_true rfl⟩ (s_Page_lookN (ro := false) (by omega) hok.1 hT2.2.2.1 ?_)
          refine bp_callU (q := 101) (ci := 7) (owner := "BracedPages$Writer") 50 rfl rfl cw_BW_endRun wd1033 wd1035 (Or.inl wd1034) ⟨by decide, by decide⟩ rfl rfl hT2.1.1 wd1037 wd1036 rfl rfl (Nat.le_of_ble_eq_true rfl) ⟨Nat.le_of_ble_eq_true rfl, Nat.le_of_ble_eq_true rfl⟩ (s_BW_endRun hT2.1 (by (try simp only [List.length_append, List.length_cons, List.length_nil]); omega) hmx (fun h3 a3 c3 s3 hX3 hF3 => ?_))
          have hT3 := hT2.step hX3 hF3
          refine bp_iinc (v := nI (k + 1)) (q := 104) 51 rfl rfl rfl (nI_1 k) (by decide) (bp_up2 rfl) ?_
          refine bp_goto (tgt := 29) 52 rfl (by decide) ?_
          have y50 : sr (lkL L) (pst ps p) k = true := bI1 z50
          have y86 : er (lkL L) (p_e ps p) k = true := bI1 z86
          have e1 : wrun (bwS en) bwL (fun _ => [125]) L (pst ps p) (p_e ps p) (n + 1) k = ((bwS en) ((lkL L).getD k 0) ++ bwL ((cdL L).getD k 0) ++ (fun _ => [125]) ((lkL L).getD k 0)) ++ wrun (bwS en) bwL (fun _ => [125]) L (pst ps p) (p_e ps p) n (k + 1) := by
            rw [wrun, wk1, y50, y86]; simp
          rw [e1] at hm hQ
          rw [List.length_append] at hm
          refine ih (k + 1) _ _ _ _ _ (by omega) (by omega) hT3 (by simp only [List.length_append] at hm ⊢; omega) (fun h' a' c' s' hX hG => hQ h' a' c' s' (by simpa only [List.append_assoc] using hX) (((hF1.tr hF2).tr hF3).tr hG))
set_option maxRecDepth 100000 in
set_option maxHeartbeats 4000000 in
theorem s_BW_writeParagraph {p : Nat} (hok : okP L ps) (hen : ∀ j, j < 8 → en j < 8) (hp : p < ps.length) (hmx : mx < 100000) (hT0 : BwP mx c0 s0 h bw r a e en P L ps xs c s) (hm : xs.length + (wpar bwP (bwS en) bwL (fun _ => [125]) [92, 112, 97, 114] L ps p).length + 200 ≤ mx) (hQ : (∀ h' a' c' s', BwP mx c0 s0 h' bw r a' e en P L ps (xs ++ wpar bwP (bwS en) bwL (fun _ => [125]) [92, 112, 97, 114] L ps p) c' s' → gF r a h h' a' → Q none h' c' s')) : bp_AM l G H0 (7, 152, false, false) M_Wr_writeParagraph h c s [.ref bw, .int (nI p)] Q := by
  refine bp_of (ls := [some (.ref bw), some (.int (nI p)), none]) (by decide) dt_Wr_writeParagraph (Nat.le_of_ble_eq_true rfl) (fun q hq => hq) false ?_
  have hbd := hok.2.2.1 p hp
  have h400 := hok.1
  refine bp_aload_n (q := 1) 0 rfl rfl rfl rfl ?_
  refine bp_aload_n (q := 2) 1 rfl rfl rfl rfl ?_
  refine bp_getR (x := (P 0)) (q := 5) (ci := 7) (j := 1) 2 rfl rfl fl_Wr_7_7 hT0.1.1 rfl hT0.2.1 ?_
  refine bp_iload_n (q := 6) 3 rfl rfl rfl rfl ?_
  refine bp_callV (q := 9) (ci := 2) 4 rfl rfl cw_Page_alignmentOf lk_Wr_39 rfl hT0.2.2.1.1 wd929 wd930 rfl rfl (Nat.le_of_ble_eq_true rfl) ⟨Nat.le_of_ble_eq_true rfl, Nat.le_of_ble_eq_true rfl⟩ (s_Page_alN (ro := false) hp hT0.2.2.1 ?_)
  refine bp_aload_n (q := 10) 5 rfl rfl rfl rfl ?_
  refine bp_getR (x := (P 0)) (q := 13) (ci := 7) (j := 1) 6 rfl rfl fl_Wr_7_7 hT0.1.1 rfl hT0.2.1 ?_
  refine bp_iload_n (q := 14) 7 rfl rfl rfl rfl ?_
  refine bp_callV (q := 17) (ci := 2) 8 rfl rfl cw_Page_indentOf lk_Wr_43 rfl hT0.2.2.1.1 wd933 wd934 rfl rfl (Nat.le_of_ble_eq_true rfl) ⟨Nat.le_of_ble_eq_true rfl, Nat.le_of_ble_eq_true rfl⟩ (s_Page_inN (ro := false) hp hT0.2.2.1 ?_)
  refine bp_callU (q := 20) (ci := 7) (owner := "BracedPages$Writer") 9 rfl rfl cw_BW_startParagraph wd936 wd938 (Or.inl wd937) ⟨by decide, by decide⟩ rfl rfl hT0.1.1 wd940 wd939 rfl rfl (Nat.le_of_ble_eq_true rfl) ⟨Nat.le_of_ble_eq_true rfl, Nat.le_of_ble_eq_true rfl⟩ (s_BW_startParagraph hT0.1 hbd.1 hbd.2.1 (by (try simp only [List.length_append, List.length_cons, List.length_nil]); omega) hmx (fun h1 a1 c1 s1 hX1 hF1 => ?_))
  have hT1 := hT0.step hX1 hF1
  refine bp_aload_n (q := 21) 10 rfl rfl rfl rfl ?_
  refine bp_getR (x := (P 0)) (q := 24) (ci := 7) (j := 1) 11 rfl rfl fl_Wr_7_7 hT1.1.1 rfl hT1.2.1 ?_
  refine bp_iload_n (q := 25) 12 rfl rfl rfl rfl ?_
  refine bp_callV (q := 28) (ci := 2) 13 rfl rfl cw_Page_startOf lk_Wr_50 rfl hT1.2.2.1.1 wd812 wd813 rfl rfl (Nat.le_of_ble_eq_true rfl) ⟨Nat.le_of_ble_eq_true rfl, Nat.le_of_ble_eq_true rfl⟩ (s_Page_startN (ro := false) (p_stN hok.2.1 hp) hT1.2.2.1 ?_)
  refine bp_istore_n (q := 29) 14 rfl rfl rfl (by decide) (bp_up2 rfl) ?_
  rw [wpar] at hm hQ
  simp only [List.length_append] at hm
  refine lp_BW_par hok hen hp hmx (p_e ps p - pst ps p) (pst ps p) _ _ _ _ _ rfl ⟨Nat.le_refl _, by omega⟩ hT1 (by simp only [List.length_append]; omega) (fun h' a' c' s' hX hG => hQ h' a' c' s' (by simpa only [List.append_assoc] using hX) (hF1.tr hG))
end WRB
