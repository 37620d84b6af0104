/-! the braced writer: its object bw, its row r, its entries e with the numbers en -/
def Bw (mx c0 s0 : Nat) (h : bp_H) (bw r a e : Nat) (en : Nat → Nat) (xs : List Nat) (c s : Nat) : Prop := bp_K h bw = 13 ∧ bp_R h bw 2 = some r ∧ RG mx c0 s0 h r a xs c s ∧ bp_R h bw 0 = some e ∧ bp_K h e = 1 ∧ bp_L h e = 8 ∧ e ≠ a ∧ ∀ j, j < 8 → bp_I h e j = nI (en j)
theorem Bw.step {mx c0 s0 : Nat} {h h' : bp_H} {bw r a a' e : Nat} {en : Nat → Nat} {xs xs' : List Nat} {c s c' s' : Nat} (hT : Bw mx c0 s0 h bw r a e en xs c s) (hG : RG mx c0 s0 h' r a' xs' c' s') (hF : gF r a h h' a') : Bw mx c0 s0 h' bw r a' e en xs' c' s' := by
  obtain ⟨e1, e2, ⟨e3, -⟩, e4, e5, e6, e7, e8⟩ := hT
  obtain ⟨g1, g2, g3, g4, g5⟩ := hF.1 bw (by rw [e1]; decide) (fun z => z.elim (fun y => by have := e3.1; rw [← y, e1] at this; exact absurd this (by decide)) (fun y => by have := e3.2.2.2.1; rw [← y, e1] at this; exact absurd this (by decide)))
  obtain ⟨i1, i2, i3, i4, i5⟩ := hF.1 e (by rw [e5]; decide) (fun z => z.elim (fun y => by have := e3.1; rw [← y, e5] at this; exact absurd this (by decide)) e7)
  refine ⟨g1.trans e1, (g5 2).trans e2, hG, (g5 0).trans e4, i1.trans e5, i2.trans e6, fun z => ?_, fun j hj => (i3 j).trans (e8 j hj)⟩
  rcases hF.2.2 with y | y
  · exact e7 (z.trans y)
  · rw [← z, e5] at y; exact absurd y (by decide)
section BW
variable {l : Launch} {G : bp_G} {H0 : Heap} {h : bp_H} {c s bw r a e mx c0 s0 : Nat} {en : Nat → Nat} {xs : List Nat} {Q : Option Value → bp_H → Nat → Nat → Prop}
set_option maxRecDepth 100000 in
set_option maxHeartbeats 4000000 in
theorem s_BW_style {i k b : Nat} {t : String × Nat × String × List Int32} (hT0 : Bw mx c0 s0 h bw r a e en xs c s) (hS : bp_S[i]? = some t) (htl : (sT t).length ≤ 20) (hk : k < 6400) (hb : b = 1 ∨ b = 2 ∨ b = 4) (hm : xs.length + 60 ≤ mx) (hmx : mx < 100000) (hQ : ∀ h' a' c' s', Bw mx c0 s0 h' bw r a' e en (xs ++ (if sb (k % 8) b then sT t else [])) c' s' → gF r a h h' a' → Q none h' c' s') : bp_AM l G H0 (5, 107, false, false) M_BW_writeStyleWord h c s [.ref bw, .ref (G.2.2.2.1 i), .int (nI k), .int (nI b)] Q := by
  refine bp_of (ls := [some (.ref bw), some (.ref (G.2.2.2.1 i)), some (.int (nI k)), some (.int (nI b))]) (by decide) dt_BW_writeStyleWord (Nat.le_of_ble_eq_true rfl) (fun q hq => hq) false ?_
  refine bp_iload_n (q := 1) 0 rfl rfl rfl rfl ?_
  refine bp_callS (q := 4) 1 rfl rfl cw_X_styleOf lk_BW_90 wd981 rfl rfl (Nat.le_of_ble_eq_true rfl) ⟨Nat.le_of_ble_eq_true rfl, Nat.le_of_ble_eq_true rfl⟩ (s_X_styleOf (ro := false) hk ?_)
  refine bp_iload_n (q := 5) 2 rfl rfl rfl rfl ?_
  refine bp_iand (q := 6) 3 rfl rfl ?_
  refine bp_if_eq (q := 9) (tgt := 17) 4 rfl rfl (by decide) (fun z6 => ?_) (fun z6 => ?_)
  · refine bp_vret 9 rfl rfl  ⟨_, rfl, ?_⟩
    have e := (sb_and (k % 8) (by omega) b (by rcases hb with e | e | e <;> omega) hb).mp z6
    exact hQ _ _ _ _ (by rw [e, if_neg (by decide), List.append_nil]; exact hT0) gF.rf
  · refine bp_aload_n (q := 10) 5 rfl rfl rfl rfl ?_
    refine bp_getR (x := r) (q := 13) (ci := 7) (j := 2) 6 rfl rfl fl_BW_15_7 hT0.1 rfl hT0.2.1 ?_
    refine bp_aload_n (q := 14) 7 rfl rfl rfl rfl ?_
    refine bp_callV (q := 17) (ci := 1) 8 rfl rfl cw_Row_putText lk_BW_51 rfl hT0.2.2.1.1.1 wd916 wd917 rfl rfl (Nat.le_of_ble_eq_true rfl) ⟨Nat.le_of_ble_eq_true rfl, Nat.le_of_ble_eq_true rfl⟩ (s_Row_putText hS hT0.2.2.1 (by (try simp only [List.length_append, List.length_cons, List.length_nil]); omega) hmx (fun h1 a1 c1 s1 hA1 hF1 => ?_))
    have hT1 := hT0.step hA1 hF1
    refine bp_vret 9 rfl rfl  ⟨_, rfl, ?_⟩
    have e : sb (k % 8) b = true := by cases hh : sb (k % 8) b with | true => rfl | false => exact absurd ((sb_and (k % 8) (by omega) b (by rcases hb with e | e | e <;> omega) hb).mpr hh) z6
    exact hQ _ _ _ _ (by rw [e, if_pos rfl]; exact hT1) hF1
set_option maxRecDepth 100000 in
set_option maxHeartbeats 4000000 in
theorem s_BW_number {i n u : Nat} {t : String × Nat × String × List Int32} (hT0 : Bw mx c0 s0 h bw r a e en xs c s) (hS : bp_S[i]? = some t) (htl : (sT t).length ≤ 20) (hn : n < 1000) (hu : u < 1000) (hm : xs.length + 60 ≤ mx) (hmx : mx < 100000) (hQ : ∀ h' a' c' s', Bw mx c0 s0 h' bw r a' e en (xs ++ (if n = u then [] else sT t ++ nd n)) c' s' → gF r a h h' a' → Q none h' c' s') : bp_AM l G H0 (5, 107, false, false) M_BW_writeNumberWord h c s [.ref bw, .ref (G.2.2.2.1 i), .int (nI n), .int (nI u)] Q := by
  refine bp_of (ls := [some (.ref bw), some (.ref (G.2.2.2.1 i)), some (.int (nI n)), some (.int (nI u))]) (by decide) dt_BW_writeNumberWord (Nat.le_of_ble_eq_true rfl) (fun q hq => hq) false ?_
  have hnd := nd_len n
  refine bp_iload_n (q := 1) 0 rfl rfl rfl rfl ?_
  refine bp_iload_n (q := 2) 1 rfl rfl rfl rfl ?_
  refine bp_icmp_eq (q := 5) (tgt := 21) 2 rfl rfl (by decide) (fun z2 => ?_) (fun z2 => ?_)
  · exact bp_vret 11 rfl rfl  ⟨_, rfl, hQ _ _ _ _ (by rw [if_pos ((nI_eq_iff (by omega) (by omega)).mp z2), List.append_nil]; exact hT0) gF.rf⟩
  · refine bp_aload_n (q := 6) 3 rfl rfl rfl rfl ?_
    refine bp_getR (x := r) (q := 9) (ci := 7) (j := 2) 4 rfl rfl fl_BW_15_7 hT0.1 rfl hT0.2.1 ?_
    refine bp_aload_n (q := 10) 5 rfl rfl rfl rfl ?_
    refine bp_callV (q := 13) (ci := 1) 6 rfl rfl cw_Row_putText lk_BW_51 rfl hT0.2.2.1.1.1 wd916 wd917 rfl rfl (Nat.le_of_ble_eq_true rfl) ⟨Nat.le_of_ble_eq_true rfl, Nat.le_of_ble_eq_true rfl⟩ (s_Row_putText hS hT0.2.2.1 (by (try simp only [List.length_append, List.length_cons, List.length_nil]); omega) hmx (fun h1 a1 c1 s1 hA1 hF1 => ?_))
    have hT1 := hT0.step hA1 hF1
    refine bp_aload_n (q := 14) 7 rfl rfl rfl rfl ?_
    refine bp_getR (x := r) (q := 17) (ci := 7) (j := 2) 8 rfl rfl fl_BW_15_7 hT1.1 rfl hT1.2.1 ?_
    refine bp_iload_n (q := 18) 9 rfl rfl rfl rfl ?_
    refine bp_callV (q := 21) (ci := 1) 10 rfl rfl cw_Row_putNumber lk_BW_93 rfl hT1.2.2.1.1.1 wd951 wd952 rfl rfl (Nat.le_of_ble_eq_true rfl) ⟨Nat.le_of_ble_eq_true rfl, Nat.le_of_ble_eq_true rfl⟩ (s_Row_putNumber (n := n) (by omega) hT1.2.2.1 (by (try simp only [List.length_append, List.length_cons, List.length_nil]); omega) hmx (fun h2 a2 c2 s2 hA2 hF2 => ?_))
    have hT2 := hT1.step hA2 hF2
    exact bp_vret 11 rfl rfl  ⟨_, rfl, hQ _ _ _ _ (by rw [if_neg (fun e => z2 (by rw [e]))]; simpa only [List.append_assoc] using hT2) (hF1.tr hF2)⟩
def bwP (al ind : Nat) : List Nat := [92, 112, 97, 114, 100] ++ ((if al = 0 then [] else if al = 1 then [92, 113, 99] else [92, 113, 114]) ++ (if ind = 0 then [] else [92, 108, 105] ++ nd ind))
def bwL (k : Nat) : List Nat := if 127 ≤ k then [92, 39, hxD (k / 16), hxD (k % 16)] else if k = 123 ∨ k = 125 ∨ k = 92 then [92, k] else [k]
def bwB (en : Nat → Nat) (k : Nat) : List Nat := (if sb (k % 8) 1 then [92, 98] else []) ++ ((if sb (k % 8) 2 then [92, 105] else []) ++ ((if sb (k % 8) 4 then [92, 117, 108] else []) ++ ((if k / 64 = 12 then [] else [92, 102, 115] ++ nd (k / 64)) ++ (if en (k / 8 % 8) = 0 then [] else [92, 99, 102] ++ nd (en (k / 8 % 8))))))
def bwS (en : Nat → Nat) (k : Nat) : List Nat := [123] ++ (bwB en k ++ if (bwB en k).length = 0 then [] else [32])
set_option maxRecDepth 100000 in
set_option maxHeartbeats 4000000 in
theorem s_BW_endRun {x : Int32} (hT0 : Bw mx c0 s0 h bw r a e en xs c s)  (hm : xs.length + 60 ≤ mx) (hmx : mx < 100000) (hQ : ∀ h' a' c' s', Bw mx c0 s0 h' bw r a' e en (xs ++ [125]) c' s' → gF r a h h' a' → Q none h' c' s') : bp_AM l G H0 (4, 84, false, false) M_BW_endRun h c s [.ref bw, .int x] Q := by
  refine bp_of (ls := [some (.ref bw), some (.int x)]) (by decide) dt_BW_endRun (Nat.le_of_ble_eq_true rfl) (fun q hq => hq) false ?_
  refine bp_aload_n (q := 1) 0 rfl rfl rfl rfl ?_
  refine bp_getR (x := r) (q := 4) (ci := 7) (j := 2) 1 rfl rfl fl_BW_15_7 hT0.1 rfl hT0.2.1 ?_
  refine bp_bipush (v := 125) (q := 6) 2 rfl rfl (by decide) ?_
  refine bp_callV (q := 9) (ci := 1) 3 rfl rfl cw_Row_put lk_BW_19 rfl hT0.2.2.1.1.1 wd485 wd486 rfl rfl (Nat.le_of_ble_eq_true rfl) ⟨Nat.le_of_ble_eq_true rfl, Nat.le_of_ble_eq_true rfl⟩ (s_Row_putg (v := 125) rfl hT0.2.2.1 (by (try simp only [List.length_append, List.length_cons, List.length_nil]); omega) hmx (fun h1 a1 c1 s1 hA1 hF1 => ?_))
  have hT1 := hT0.step hA1 hF1
  exact bp_vret 4 rfl rfl  ⟨_, rfl, hQ _ _ _ _ hT1 hF1⟩
set_option maxRecDepth 100000 in
set_option maxHeartbeats 4000000 in
theorem s_BW_endPage  (hT0 : Bw mx c0 s0 h bw r a e en xs c s)  (hm : xs.length + 60 ≤ mx) (hmx : mx < 100000) (hQ : ∀ h' a' c' s', Bw mx c0 s0 h' bw r a' e en (xs ++ [125]) c' s' → gF r a h h' a' → Q none h' c' s') : bp_AM l G H0 (4, 84, false, false) M_BW_endPage h c s [.ref bw] Q := by
  refine bp_of (ls := [some (.ref bw)]) (by decide) dt_BW_endPage (Nat.le_of_ble_eq_true rfl) (fun q hq => hq) false ?_
  refine bp_aload_n (q := 1) 0 rfl rfl rfl rfl ?_
  refine bp_getR (x := r) (q := 4) (ci := 7) (j := 2) 1 rfl rfl fl_BW_15_7 hT0.1 rfl hT0.2.1 ?_
  refine bp_bipush (v := 125) (q := 6) 2 rfl rfl (by decide) ?_
  refine bp_callV (q := 9) (ci := 1) 3 rfl rfl cw_Row_put lk_BW_19 rfl hT0.2.2.1.1.1 wd485 wd486 rfl rfl (Nat.le_of_ble_eq_true rfl) ⟨Nat.le_of_ble_eq_true rfl, Nat.le_of_ble_eq_true rfl⟩ (s_Row_putg (v := 125) rfl hT0.2.2.1 (by (try simp only [List.length_append, List.length_cons, List.length_nil]); omega) hmx (fun h1 a1 c1 s1 hA1 hF1 => ?_))
  have hT1 := hT0.step hA1 hF1
  exact bp_vret 4 rfl rfl  ⟨_, rfl, hQ _ _ _ _ hT1 hF1⟩
set_option maxRecDepth 100000 in
set_option maxHeartbeats 4000000 in
theorem s_BW_endParagraph  (hT0 : Bw mx c0 s0 h bw r a e en xs c s)  (hm : xs.length + 60 ≤ mx) (hmx : mx < 100000) (hQ : ∀ h' a' c' s', Bw mx c0 s0 h' bw r a' e en (xs ++ [92, 112, 97, 114]) c' s' → gF r a h h' a' → Q none h' c' s') : bp_AM l G H0 (5, 107, false, false) M_BW_endParagraph h c s [.ref bw] Q := by
  refine bp_of (ls := [some (.ref bw)]) (by decide) dt_BW_endParagraph (Nat.le_of_ble_eq_true rfl) (fun q hq => hq) false ?_
  refine bp_aload_n (q := 1) 0 rfl rfl rfl rfl ?_
  refine bp_getR (x := r) (q := 4) (ci := 7) (j := 2) 1 rfl rfl fl_BW_15_7 hT0.1 rfl hT0.2.1 ?_
  refine bp_ldcs hs52 (q := 6) 2 rfl rfl rfl rfl ?_
  refine bp_callV (q := 9) (ci := 1) 3 rfl rfl cw_Row_putText lk_BW_51 rfl hT0.2.2.1.1.1 wd916 wd917 rfl rfl (Nat.le_of_ble_eq_true rfl) ⟨Nat.le_of_ble_eq_true rfl, Nat.le_of_ble_eq_true rfl⟩ (s_Row_putText hs52 hT0.2.2.1 (by (try simp only [List.length_append, List.length_cons, List.length_nil, st52]); omega) hmx (fun h1 a1 c1 s1 hA1 hF1 => ?_))
  rw [st52] at hA1
  have hT1 := hT0.step hA1 hF1
  exact bp_vret 4 rfl rfl  ⟨_, rfl, hQ _ _ _ _ hT1 hF1⟩
theorem hx_un : ∀ k, k < 256 → (nI k >>> ((4 : Int32) &&& 31)) &&& 15 = nI (k / 16) ∧ nI k &&& 15 = nI (k % 16) := by decide +kernel
set_option maxRecDepth 100000 in
set_option maxHeartbeats 4000000 in
theorem s_BW_writeLetter {k : Nat} (hT0 : Bw mx c0 s0 h bw r a e en xs c s) (hk : k < 256) (hm : xs.length + 60 ≤ mx) (hmx : mx < 100000) (hQ : ∀ h' a' c' s', Bw mx c0 s0 h' bw r a' e en (xs ++ bwL k) c' s' → gF r a h h' a' → Q none h' c' s') : bp_AM l G H0 (5, 107, false, false) M_BW_writeLetter h c s [.ref bw, .int (nI k)] Q := by
  refine bp_of (ls := [some (.ref bw), some (.int (nI k))]) (by decide) dt_BW_writeLetter (Nat.le_of_ble_eq_true rfl) (fun q hq => hq) false ?_
  obtain ⟨hx1, hx2⟩ := hx_un k hk
  refine bp_iload_n (q := 1) 0 rfl rfl rfl rfl ?_
  refine bp_bipush (v := 127) (q := 3) 1 rfl rfl (by decide) ?_
  refine bp_icmp_lt (q := 6) (tgt := 46) 2 rfl rfl (by decide) (fun z3 => ?_) (fun z3 => ?_)
  · refine bp_iload_n (q := 47) 24 rfl rfl rfl rfl ?_
    refine bp_bipush (v := 123) (q := 49) 25 rfl rfl (by decide) ?_
    refine bp_icmp_eq (q := 52) (tgt := 64) 26 rfl rfl (by decide) (fun z49 => ?_) (fun z49 => ?_)
    · refine bp_aload_n (q := 65) 33 rfl rfl rfl rfl ?_
      refine bp_getR (x := r) (q := 68) (ci := 7) (j := 2) 34 rfl rfl fl_BW_15_7 hT0.1 rfl hT0.2.1 ?_
      refine bp_bipush (v := 92) (q := 70) 35 rfl rfl (by decide) ?_
      refine bp_callV (q := 73) (ci := 1) 36 rfl rfl cw_Row_put lk_BW_19 rfl hT0.2.2.1.1.1 wd485 wd486 rfl rfl (Nat.le_of_ble_eq_true rfl) ⟨Nat.le_of_ble_eq_true rfl, Nat.le_of_ble_eq_true rfl⟩ (s_Row_putg (v := 92) rfl hT0.2.2.1 (by (try simp only [List.length_append, List.length_cons, List.length_nil]); omega) hmx (fun h1 a1 c1 s1 hA1 hF1 => ?_))
      have hT1 := hT0.step hA1 hF1
      refine bp_aload_n (q := 74) 37 rfl rfl rfl rfl ?_
      refine bp_getR (x := r) (q := 77) (ci := 7) (j := 2) 38 rfl rfl fl_BW_15_7 hT1.1 rfl hT1.2.1 ?_
      refine bp_iload_n (q := 78) 39 rfl rfl rfl rfl ?_
      refine bp_callV (q := 81) (ci := 1) 40 rfl rfl cw_Row_put lk_BW_19 rfl hT1.2.2.1.1.1 wd485 wd486 rfl rfl (Nat.le_of_ble_eq_true rfl) ⟨Nat.le_of_ble_eq_true rfl, Nat.le_of_ble_eq_true rfl⟩ (s_Row_putg (v := k) rfl hT1.2.2.1 (by (try simp only [List.length_append, List.length_cons, List.length_nil]); omega) hmx (fun h2 a2 c2 s2 hA2 hF2 => ?_))
      have hT2 := hT1.step hA2 hF2
      refine bp_vret 41 rfl rfl  ⟨_, rfl, ?_⟩
      have y3 : k < 127 := (nI_lt_iff (b := 127) (by omega) (by decide)).mp z3
      have y49 : k = 123 := (nI_eq_iff (b := 123) (by omega) (by omega)).mp z49
      refine hQ _ _ _ _ ?_ (hF1.tr hF2)
      rw [bwL, if_neg (by omega), if_pos (by omega)]
      simpa only [List.append_assoc, List.cons_append, List.nil_append] using hT2
    · refine bp_iload_n (q := 53) 27 rfl rfl rfl rfl ?_
      refine bp_bipush (v := 125) (q := 55) 28 rfl rfl (by decide) ?_
      refine bp_icmp_eq (q := 58) (tgt := 64) 29 rfl rfl (by decide) (fun z55 => ?_) (fun z55 => ?_)
      · refine bp_aload_n (q := 65) 33 rfl rfl rfl rfl ?_
        refine bp_getR (x := r) (q := 68) (ci := 7) (j := 2) 34 rfl rfl fl_BW_15_7 hT0.1 rfl hT0.2.1 ?_
        refine bp_bipush (v := 92) (q := 70) 35 rfl rfl (by decide) ?_
        refine bp_callV (q := 73) (ci := 1) 36 rfl rfl cw_Row_put lk_BW_19 rfl hT0.2.2.1.1.1 wd485 wd486 rfl rfl (Nat.le_of_ble_eq_true rfl) ⟨Nat.le_of_ble_eq_true rfl, Nat.le_of_ble_eq_true rfl⟩ (s_Row_putg (v := 92) rfl hT0.2.2.1 (by (try simp only [List.length_append, List.length_cons, List.length_nil]); omega) hmx (fun h1 a1 c1 s1 hA1 hF1 => ?_))
        have hT1 := hT0.step hA1 hF1
        refine bp_aload_n (q := 74) 37 rfl rfl rfl rfl ?_
        refine bp_getR (x := r) (q := 77) (ci := 7) (j := 2) 38 rfl rfl fl_BW_15_7 hT1.1 rfl hT1.2.1 ?_
        refine bp_iload_n (q := 78) 39 rfl rfl rfl rfl ?_
        refine bp_callV (q := 81) (ci := 1) 40 rfl rfl cw_Row_put lk_BW_19 rfl hT1.2.2.1.1.1 wd485 wd486 rfl rfl (Nat.le_of_ble_eq_true rfl) ⟨Nat.le_of_ble_eq_true rfl, Nat.le_of_ble_eq_true rfl⟩ (s_Row_putg (v := k) rfl hT1.2.2.1 (by (try simp only [List.length_append, List.length_cons, List.length_nil]); omega) hmx (fun h2 a2 c2 s2 hA2 hF2 => ?_))
        have hT2 := hT1.step hA2 hF2
        refine bp_vret 41 rfl rfl  ⟨_, rfl, ?_⟩
        have y3 : k < 127 := (nI_lt_iff (b := 127) (by omega) (by decide)).mp z3
        have y49 : ¬ (k = 123) := fun e => z49 (by rw [e]; rfl)
        have y55 : k = 125 := (nI_eq_iff (b := 125) (by omega) (by omega)).mp z55
        refine hQ _ _ _ _ ?_ (hF1.tr hF2)
        rw [bwL, if_neg (by omega), if_pos (by omega)]
        simpa only [List.append_assoc, List.cons_append, List.nil_append] using hT2
      · refine bp_iload_n (q := 59) 30 rfl rfl rfl rfl ?_
        refine bp_bipush (v := 92) (q := 61) 31 rfl rfl (by decide) ?_
        refine bp_icmp_ne (q := 64) (tgt := 73) 32 rfl rfl (by decide) (fun z61 => ?_) (fun z61 => ?_)
        · refine bp_aload_n (q := 74) 37 rfl rfl rfl rfl ?_
          refine bp_getR (x := r) (q := 77) (ci := 7) (j := 2) 38 rfl rfl fl_BW_15_7 hT0.1 rfl hT0.2.1 ?_
          refine bp_iload_n (q := 78) 39 rfl rfl rfl rfl ?_
          refine bp_callV (q := 81) (ci := 1) 40 rfl rfl cw_Row_put lk_BW_19 rfl hT0.2.2.1.1.1 wd485 wd486 rfl rfl (Nat.le_of_ble_eq_true rfl) ⟨Nat.le_of_ble_eq_true rfl, Nat.le_of_ble_eq_true rfl⟩ (s_Row_putg (v := k) rfl hT0.2.2.1 (by (try simp only [List.length_append, List.length_cons, List.length_nil]); omega) hmx (fun h1 a1 c1 s1 hA1 hF1 => ?_))
          have hT1 := hT0.step hA1 hF1
          refine bp_vret 41 rfl rfl  ⟨_, rfl, ?_⟩
          have y3 : k < 127 := (nI_lt_iff (b := 127) (by omega) (by decide)).mp z3
          have y49 : ¬ (k = 123) := fun e => z49 (by rw [e]; rfl)
          have y55 : ¬ (k = 125) := fun e => z55 (by rw [e]; rfl)
          have y61 : ¬ (k = 92) := fun e => z61 (by rw [e]; rfl)
          refine hQ _ _ _ _ ?_ hF1
          rw [bwL, if_neg (by omega), if_neg (by omega)]
          simpa only [List.append_assoc, List.cons_append, List.nil_append] using hT1
        · refine bp_aload_n (q := 65) 33 rfl rfl rfl rfl ?_
          refine bp_getR (x := r) (q := 68) (ci := 7) (j := 2) 34 rfl rfl fl_BW_15_7 hT0.1 rfl hT0.2.1 ?_
          refine bp_bipush (v := 92) (q := 70) 35 rfl rfl (by decide) ?_
          refine bp_callV (q := 73) (ci := 1) 36 rfl rfl cw_Row_put lk_BW_19 rfl hT0.2.2.1.1.1 wd485 wd486 rfl rfl (Nat.le_of_ble_eq_true rfl) ⟨Nat.le_of_ble_eq_true rfl, Nat.le_of_ble_eq_true rfl⟩ (s_Row_putg (v := 92) rfl hT0.2.2.1 (by (try simp only [List.length_append, List.length_cons, List.length_nil]); omega) hmx (fun h1 a1 c1 s1 hA1 hF1 => ?_))
          have hT1 := hT0.step hA1 hF1
          refine bp_aload_n (q := 74) 37 rfl rfl rfl rfl ?_
          refine bp_getR (x := r) (q := 77) (ci := 7) (j := 2) 38 rfl rfl fl_BW_15_7 hT1.1 rfl hT1.2.1 ?_
          refine bp_iload_n (q := 78) 39 rfl rfl rfl rfl ?_
          refine bp_callV (q := 81) (ci := 1) 40 rfl rfl cw_Row_put lk_BW_19 rfl hT1.2.2.1.1.1 wd485 wd486 rfl rfl (Nat.le_of_ble_eq_true rfl) ⟨Nat.le_of_ble_eq_true rfl, Nat.le_of_ble_eq_true rfl⟩ (s_Row_putg (v := k) rfl hT1.2.2.1 (by (try simp only [List.length_append, List.length_cons, List.length_nil]); omega) hmx (fun h2 a2 c2 s2 hA2 hF2 => ?_))
          have hT2 := hT1.step hA2 hF2
          refine bp_vret 41 rfl rfl  ⟨_, rfl, ?_⟩
          have y3 : k < 127 := (nI_lt_iff (b := 127) (by omega) (by decide)).mp z3
          have y49 : ¬ (k = 123) := fun e => z49 (by rw [e]; rfl)
          have y55 : ¬ (k = 125) := fun e => z55 (by rw [e]; rfl)
          have y61 : k = 92 := (nI_eq_iff (b := 92) (by omega) (by omega)).mp z61
          refine hQ _ _ _ _ ?_ (hF1.tr hF2)
          rw [bwL, if_neg (by omega), if_pos (by omega)]
          simpa only [List.append_assoc, List.cons_append, List.nil_append] using hT2
  · refine bp_aload_n (q := 7) 3 rfl rfl rfl rfl ?_
    refine bp_getR (x := r) (q := 10) (ci := 7) (j := 2) 4 rfl rfl fl_BW_15_7 hT0.1 rfl hT0.2.1 ?_
    refine bp_ldcs hs43 (q := 12) 5 rfl rfl rfl rfl ?_
    refine bp_callV (q := 15) (ci := 1) 6 rfl rfl cw_Row_putText lk_BW_51 rfl hT0.2.2.1.1.1 wd916 wd917 rfl rfl (Nat.le_of_ble_eq_true rfl) ⟨Nat.le_of_ble_eq_true rfl, Nat.le_of_ble_eq_true rfl⟩ (s_Row_putText hs43 hT0.2.2.1 (by (try simp only [List.length_append, List.length_cons, List.length_nil, st43]); omega) hmx (fun h1 a1 c1 s1 hA1 hF1 => ?_))
    rw [st43] at hA1
    have hT1 := hT0.step hA1 hF1
    refine bp_aload_n (q := 16) 7 rfl rfl rfl rfl ?_
    refine bp_getR (x := r) (q := 19) (ci := 7) (j := 2) 8 rfl rfl fl_BW_15_7 hT1.1 rfl hT1.2.1 ?_
    refine bp_iload_n (q := 20) 9 rfl rfl rfl rfl ?_
    refine bp_iconst (v := 4) (q := 21) 10 rfl rfl (by decide) ?_
    refine bp_ishr (q := 22) 11 rfl rfl ?_
    refine bp_bipush (v := 15) (q := 24) 12 rfl rfl (by decide) ?_
    refine bp_iand (q := 25) 13 rfl rfl ?_
    rw [hx1]
    refine bp_callS (q := 28) 14 rfl rfl cw_BW_hexDigit lk_BW_98 wd1021 rfl rfl (Nat.le_of_ble_eq_true rfl) ⟨Nat.le_of_ble_eq_true rfl, Nat.le_of_ble_eq_true rfl⟩ (s_BW_hexDigit (ro := false) (k := k / 16) (by omega) ?_)
    refine bp_callV (q := 31) (ci := 1) 15 rfl rfl cw_Row_put lk_BW_19 rfl hT1.2.2.1.1.1 wd485 wd486 rfl rfl (Nat.le_of_ble_eq_true rfl) ⟨Nat.le_of_ble_eq_true rfl, Nat.le_of_ble_eq_true rfl⟩ (s_Row_putg (v := hxD (k / 16)) rfl hT1.2.2.1 (by (try simp only [List.length_append, List.length_cons, List.length_nil]); omega) hmx (fun h2 a2 c2 s2 hA2 hF2 => ?_))
    have hT2 := hT1.step hA2 hF2
    refine bp_aload_n (q := 32) 16 rfl rfl rfl rfl ?_
    refine bp_getR (x := r) (q := 35) (ci := 7) (j := 2) 17 rfl rfl fl_BW_15_7 hT2.1 rfl hT2.2.1 ?_
    refine bp_iload_n (q := 36) 18 rfl rfl rfl rfl ?_
    refine bp_bipush (v := 15) (q := 38) 19 rfl rfl (by decide) ?_
    refine bp_iand (q := 39) 20 rfl rfl ?_
    rw [hx2]
    refine bp_callS (q := 42) 21 rfl rfl cw_BW_hexDigit lk_BW_98 wd1021 rfl rfl (Nat.le_of_ble_eq_true rfl) ⟨Nat.le_of_ble_eq_true rfl, Nat.le_of_ble_eq_true rfl⟩ (s_BW_hexDigit (ro := false) (k := k % 16) (by omega) ?_)
    refine bp_callV (q := 45) (ci := 1) 22 rfl rfl cw_Row_put lk_BW_19 rfl hT2.2.2.1.1.1 wd485 wd486 rfl rfl (Nat.le_of_ble_eq_true rfl) ⟨Nat.le_of_ble_eq_true rfl, Nat.le_of_ble_eq_true rfl⟩ (s_Row_putg (v := hxD (k % 16)) rfl hT2.2.2.1 (by (try simp only [List.length_append, List.length_cons, List.length_nil]); omega) hmx (fun h3 a3 c3 s3 hA3 hF3 => ?_))
    have hT3 := hT2.step hA3 hF3
    refine bp_vret 23 rfl rfl  ⟨_, rfl, ?_⟩
    have y3 : ¬ (k < 127) := fun e => z3 ((nI_lt_iff (b := 127) (by omega) (by decide)).mpr e)
    refine hQ _ _ _ _ ?_ ((hF1.tr hF2).tr hF3)
    rw [bwL, if_pos (by omega)]
    simpa only [List.append_assoc, List.cons_append, List.nil_append] using hT3
set_option maxRecDepth 100000 in
set_option maxHeartbeats 4000000 in
theorem s_BW_startParagraph {al ind : Nat} (hT0 : Bw mx c0 s0 h bw r a e en xs c s) (hal : al < 3) (hind : ind < 10) (hm : xs.length + 100 ≤ mx) (hmx : mx < 100000) (hQ : ∀ h' a' c' s', Bw mx c0 s0 h' bw r a' e en (xs ++ bwP al ind) c' s' → gF r a h h' a' → Q none h' c' s') : bp_AM l G H0 (6, 130, false, false) M_BW_startParagraph h c s [.ref bw, .int (nI al), .int (nI ind)] Q := by
  refine bp_of (ls := [some (.ref bw), some (.int (nI al)), some (.int (nI ind))]) (by decide) dt_BW_startParagraph (Nat.le_of_ble_eq_true rfl) (fun q hq => hq) false ?_
  have hnd := nd_len ind
  refine bp_aload_n (q := 1) 0 rfl rfl rfl rfl ?_
  refine bp_getR (x := r) (q := 4) (ci := 7) (j := 2) 1 rfl rfl fl_BW_15_7 hT0.1 rfl hT0.2.1 ?_
  refine bp_ldcs hs28 (q := 6) 2 rfl rfl rfl rfl ?_
  refine bp_callV (q := 9) (ci := 1) 3 rfl rfl cw_Row_putText lk_BW_51 rfl hT0.2.2.1.1.1 wd916 wd917 rfl rfl (Nat.le_of_ble_eq_true rfl) ⟨Nat.le_of_ble_eq_true rfl, Nat.le_of_ble_eq_true rfl⟩ (s_Row_putText hs28 hT0.2.2.1 (by (try simp only [List.length_append, List.length_cons, List.length_nil, st28]); omega) hmx (fun h1 a1 c1 s1 hA1 hF1 => ?_))
  rw [st28] at hA1
  have hT1 := hT0.step hA1 hF1
  refine bp_iload_n (q := 10) 4 rfl rfl rfl rfl ?_
  refine bp_if_eq (q := 13) (tgt := 32) 5 rfl rfl (by decide) (fun z10 => ?_) (fun z10 => ?_)
  · refine bp_aload_n (q := 33) 15 rfl rfl rfl rfl ?_
    refine bp_ldcs hs31 (q := 35) 16 rfl rfl rfl rfl ?_
    refine bp_iload_n (q := 36) 17 rfl rfl rfl rfl ?_
    refine bp_iconst (v := 0) (q := 37) 18 rfl rfl (by decide) ?_
    refine bp_callV (q := 40) (ci := 7) 19 rfl rfl cw_BW_writeNumberWord lk_BW_67 rfl hT1.1 wd948 wd37 rfl rfl (Nat.le_of_ble_eq_true rfl) ⟨Nat.le_of_ble_eq_true rfl, Nat.le_of_ble_eq_true rfl⟩ (s_BW_number (n := ind) (u := 0) hT1 hs31 (by rw [st31]; decide) (by omega) (by omega) (by (try simp only [List.length_append, List.length_cons, List.length_nil, apply_ite List.length]); (repeat' split) <;> omega) hmx (fun h2 a2 c2 s2 hT2 hF2 => ?_))
    rw [st31] at hT2
    refine bp_vret 20 rfl rfl  ⟨_, rfl, ?_⟩
    have y10 : al = 0 := (nI_eq_iff (b := 0) (by omega) (by omega)).mp z10
    refine hQ _ _ _ _ ?_ (hF1.tr hF2)
    rw [bwP, if_pos y10]
    simpa only [List.append_assoc, List.nil_append] using hT2
  · refine bp_aload_n (q := 14) 6 rfl rfl rfl rfl ?_
    refine bp_getR (x := r) (q := 17) (ci := 7) (j := 2) 7 rfl rfl fl_BW_15_7 hT1.1 rfl hT1.2.1 ?_
    refine bp_iload_n (q := 18) 8 rfl rfl rfl rfl ?_
    refine bp_iconst (v := 1) (q := 19) 9 rfl rfl (by decide) ?_
    refine bp_icmp_ne (q := 22) (tgt := 27) 10 rfl rfl (by decide) (fun z19 => ?_) (fun z19 => ?_)
    · refine bp_ldcs hs30 (q := 29) 13 rfl rfl rfl rfl ?_
      refine bp_callV (q := 32) (ci := 1) 14 rfl rfl cw_Row_putText lk_BW_51 rfl hT1.2.2.1.1.1 wd916 wd917 rfl rfl (Nat.le_of_ble_eq_true rfl) ⟨Nat.le_of_ble_eq_true rfl, Nat.le_of_ble_eq_true rfl⟩ (s_Row_putText hs30 hT1.2.2.1 (by (try simp only [List.length_append, List.length_cons, List.length_nil, st30]); omega) hmx (fun h2 a2 c2 s2 hA2 hF2 => ?_))
      rw [st30] at hA2
      have hT2 := hT1.step hA2 hF2
      refine bp_aload_n (q := 33) 15 rfl rfl rfl rfl ?_
      refine bp_ldcs hs31 (q := 35) 16 rfl rfl rfl rfl ?_
      refine bp_iload_n (q := 36) 17 rfl rfl rfl rfl ?_
      refine bp_iconst (v := 0) (q := 37) 18 rfl rfl (by decide) ?_
      refine bp_callV (q := 40) (ci := 7) 19 rfl rfl cw_BW_writeNumberWord lk_BW_67 rfl hT2.1 wd948 wd37 rfl rfl (Nat.le_of_ble_eq_true rfl) ⟨Nat.le_of_ble_eq_true rfl, Nat.le_of_ble_eq_true rfl⟩ (s_BW_number (n := ind) (u := 0) hT2 hs31 (by rw [st31]; decide) (by omega) (by omega) (by (try simp only [List.length_append, List.length_cons, List.length_nil, apply_ite List.length]); (repeat' split) <;> omega) hmx (fun h3 a3 c3 s3 hT3 hF3 => ?_))
      rw [st31] at hT3
      refine bp_vret 20 rfl rfl  ⟨_, rfl, ?_⟩
      have y10 : ¬ (al = 0) := fun e => z10 (by rw [e]; rfl)
      have y19 : ¬ (al = 1) := fun e => z19 (by rw [e]; rfl)
      refine hQ _ _ _ _ ?_ ((hF1.tr hF2).tr hF3)
      rw [bwP, if_neg y10, if_neg y19]
      simpa only [List.append_assoc, List.nil_append] using hT3
    · refine bp_ldcs hs29 (q := 24) 11 rfl rfl rfl rfl ?_
      refine bp_goto (tgt := 29) 12 rfl (by decide) ?_
      refine bp_callV (q := 32) (ci := 1) 14 rfl rfl cw_Row_putText lk_BW_51 rfl hT1.2.2.1.1.1 wd916 wd917 rfl rfl (Nat.le_of_ble_eq_true rfl) ⟨Nat.le_of_ble_eq_true rfl, Nat.le_of_ble_eq_true rfl⟩ (s_Row_putText hs29 hT1.2.2.1 (by (try simp only [List.length_append, List.length_cons, List.length_nil, st29]); omega) hmx (fun h2 a2 c2 s2 hA2 hF2 => ?_))
      rw [st29] at hA2
      have hT2 := hT1.step hA2 hF2
      refine bp_aload_n (q := 33) 15 rfl rfl rfl rfl ?_
      refine bp_ldcs hs31 (q := 35) 16 rfl rfl rfl rfl ?_
      refine bp_iload_n (q := 36) 17 rfl rfl rfl rfl ?_
      refine bp_iconst (v := 0) (q := 37) 18 rfl rfl (by decide) ?_
      refine bp_callV (q := 40) (ci := 7) 19 rfl rfl cw_BW_writeNumberWord lk_BW_67 rfl hT2.1 wd948 wd37 rfl rfl (Nat.le_of_ble_eq_true rfl) ⟨Nat.le_of_ble_eq_true rfl, Nat.le_of_ble_eq_true rfl⟩ (s_BW_number (n := ind) (u := 0) hT2 hs31 (by rw [st31]; decide) (by omega) (by omega) (by (try simp only [List.length_append, List.length_cons, List.length_nil, apply_ite List.length]); (repeat' split) <;> omega) hmx (fun h3 a3 c3 s3 hT3 hF3 => ?_))
      rw [st31] at hT3
      refine bp_vret 20 rfl rfl  ⟨_, rfl, ?_⟩
      have y10 : ¬ (al = 0) := fun e => z10 (by rw [e]; rfl)
      have y19 : al = 1 := (nI_eq_iff (b := 1) (by omega) (by omega)).mp z19
      refine hQ _ _ _ _ ?_ ((hF1.tr hF2).tr hF3)
      rw [bwP, if_neg y10, if_pos y19]
      simpa only [List.append_assoc, List.nil_append] using hT3
set_option maxRecDepth 100000 in
set_option maxHeartbeats 4000000 in
theorem s_BW_startRun {k : Nat} (hT0 : Bw mx c0 s0 h bw r a e en xs c s) (hk : k < 6400) (hen : ∀ j, j < 8 → en j < 8) (hm : xs.length + 100 ≤ mx) (hmx : mx < 100000) (hQ : ∀ h' a' c' s', Bw mx c0 s0 h' bw r a' e en (xs ++ bwS en k) c' s' → gF r a h h' a' → Q none h' c' s') : bp_AM l G H0 (6, 130, false, false) M_BW_startRun h c s [.ref bw, .int (nI k)] Q := by
  refine bp_of (ls := [some (.ref bw), some (.int (nI k)), none]) (by decide) dt_BW_startRun (Nat.le_of_ble_eq_true rfl) (fun q hq => hq) false ?_
  have hnd1 := nd_len (k / 64)
  have hnd2 := nd_len (en (k / 8 % 8))
  have hen1 := hen (k / 8 % 8) (by omega)
  refine bp_aload_n (q := 1) 0 rfl rfl rfl rfl ?_
  refine bp_getR (x := r) (q := 4) (ci := 7) (j := 2) 1 rfl rfl fl_BW_15_7 hT0.1 rfl hT0.2.1 ?_
  refine bp_bipush (v := 123) (q := 6) 2 rfl rfl (by decide) ?_
  refine bp_callV (q := 9) (ci := 1) 3 rfl rfl cw_Row_put lk_BW_19 rfl hT0.2.2.1.1.1 wd485 wd486 rfl rfl (Nat.le_of_ble_eq_true rfl) ⟨Nat.le_of_ble_eq_true rfl, Nat.le_of_ble_eq_true rfl⟩ (s_Row_putg (v := 123) rfl hT0.2.2.1 (by (try simp only [List.length_append, List.length_cons, List.length_nil, apply_ite List.length]); (repeat' split) <;> omega) hmx (fun h1 a1 c1 s1 hA1 hF1 => ?_))
  have hT1 := hT0.step hA1 hF1
  refine bp_aload_n (q := 10) 4 rfl rfl rfl rfl ?_
  refine bp_getR (x := r) (q := 13) (ci := 7) (j := 2) 5 rfl rfl fl_BW_15_7 hT1.1 rfl hT1.2.1 ?_
  refine bp_callV (q := 16) (ci := 1) 6 rfl rfl cw_Row_size lk_BW_71 rfl hT1.2.2.1.1.1 wd455 wd456 rfl rfl (Nat.le_of_ble_eq_true rfl) ⟨Nat.le_of_ble_eq_true rfl, Nat.le_of_ble_eq_true rfl⟩ (s_Row_size (ro := false) hT1.2.2.1.1 ?_)
  refine bp_istore_n (q := 17) 7 rfl rfl rfl (by decide) (bp_up2 rfl) ?_
  refine bp_aload_n (q := 18) 8 rfl rfl rfl rfl ?_
  refine bp_ldcs hs33 (q := 20) 9 rfl rfl rfl rfl ?_
  refine bp_iload_n (q := 21) 10 rfl rfl rfl rfl ?_
  refine bp_iconst (v := 1) (q := 22) 11 rfl rfl (by decide) ?_
  refine bp_callV (q := 25) (ci := 7) 12 rfl rfl cw_BW_writeStyleWord lk_BW_76 rfl hT1.1 wd978 wd38 rfl rfl (Nat.le_of_ble_eq_true rfl) ⟨Nat.le_of_ble_eq_true rfl, Nat.le_of_ble_eq_true rfl⟩ (s_BW_style (b := 1) hT1 hs33 (by rw [st33]; decide) hk (by decide) (by (try simp only [List.length_append, List.length_cons, List.length_nil, apply_ite List.length]); (repeat' split) <;> omega) hmx (fun h2 a2 c2 s2 hT2 hF2 => ?_))
  rw [st33] at hT2
  refine bp_aload_n (q := 26) 13 rfl rfl rfl rfl ?_
  refine bp_ldcs hs34 (q := 28) 14 rfl rfl rfl rfl ?_
  refine bp_iload_n (q := 29) 15 rfl rfl rfl rfl ?_
  refine bp_iconst (v := 2) (q := 30) 16 rfl rfl (by decide) ?_
  refine bp_callV (q := 33) (ci := 7) 17 rfl rfl cw_BW_writeStyleWord lk_BW_76 rfl hT2.1 wd978 wd38 rfl rfl (Nat.le_of_ble_eq_true rfl) ⟨Nat.le_of_ble_eq_true rfl, Nat.le_of_ble_eq_true rfl⟩ (s_BW_style (b := 2) hT2 hs34 (by rw [st34]; decide) hk (by decide) (by (try simp only [List.length_append, List.length_cons, List.length_nil, apply_ite List.length]); (repeat' split) <;> omega) hmx (fun h3 a3 c3 s3 hT3 hF3 => ?_))
  rw [st34] at hT3
  refine bp_aload_n (q := 34) 18 rfl rfl rfl rfl ?_
  refine bp_ldcs hs35 (q := 36) 19 rfl rfl rfl rfl ?_
  refine bp_iload_n (q := 37) 20 rfl rfl rfl rfl ?_
  refine bp_iconst (v := 4) (q := 38) 21 rfl rfl (by decide) ?_
  refine bp_callV (q := 41) (ci := 7) 22 rfl rfl cw_BW_writeStyleWord lk_BW_76 rfl hT3.1 wd978 wd38 rfl rfl (Nat.le_of_ble_eq_true rfl) ⟨Nat.le_of_ble_eq_true rfl, Nat.le_of_ble_eq_true rfl⟩ (s_BW_style (b := 4) hT3 hs35 (by rw [st35]; decide) hk (by decide) (by (try simp only [List.length_append, List.length_cons, List.length_nil, apply_ite List.length]); (repeat' split) <;> omega) hmx (fun h4 a4 c4 s4 hT4 hF4 => ?_))
  rw [st35] at hT4
  refine bp_aload_n (q := 42) 23 rfl rfl rfl rfl ?_
  refine bp_ldcs hs36 (q := 44) 24 rfl rfl rfl rfl ?_
  refine bp_iload_n (q := 45) 25 rfl rfl rfl rfl ?_
  refine bp_callS (q := 48) 26 rfl rfl cw_X_sizeOf lk_BW_85 wd987 rfl rfl (Nat.le_of_ble_eq_true rfl) ⟨Nat.le_of_ble_eq_true rfl, Nat.le_of_ble_eq_true rfl⟩ (s_X_sizeOf (ro := false) hk ?_)
  refine bp_bipush (v := 12) (q := 50) 27 rfl rfl (by decide) ?_
  refine bp_callV (q := 53) (ci := 7) 28 rfl rfl cw_BW_writeNumberWord lk_BW_67 rfl hT4.1 wd948 wd37 rfl rfl (Nat.le_of_ble_eq_true rfl) ⟨Nat.le_of_ble_eq_true rfl, Nat.le_of_ble_eq_true rfl⟩ (s_BW_number (n := k / 64) (u := 12) hT4 hs36 (by rw [st36]; decide) (by omega) (by omega) (by (try simp only [List.length_append, List.length_cons, List.length_nil, apply_ite List.length]); (repeat' split) <;> omega) hmx (fun h5 a5 c5 s5 hT5 hF5 => ?_))
  rw [st36] at hT5
  refine bp_aload_n (q := 54) 29 rfl rfl rfl rfl ?_
  refine bp_ldcs hs37 (q := 56) 30 rfl rfl rfl rfl ?_
  refine bp_aload_n (q := 57) 31 rfl rfl rfl rfl ?_
  refine bp_getR (x := e) (q := 60) (ci := 7) (j := 0) 32 rfl rfl fl_BW_9_7 hT5.1 rfl hT5.2.2.2.1 ?_
  refine bp_iload_n (q := 61) 33 rfl rfl rfl rfl ?_
  refine bp_callS (q := 64) 34 rfl rfl cw_X_colourOf lk_BW_46 wd908 rfl rfl (Nat.le_of_ble_eq_true rfl) ⟨Nat.le_of_ble_eq_true rfl, Nat.le_of_ble_eq_true rfl⟩ (s_X_colourOf (ro := false) hk ?_)
  refine bp_iald (q := 65) 35 rfl rfl hT5.2.2.2.2.1 (by rw [hT5.2.2.2.2.2.1]; exact vp_in_nI (by omega) (by decide)) ?_
  rw [nI_clamp (show k / 8 % 8 < 2 ^ 31 by omega), hT5.2.2.2.2.2.2.2 (k / 8 % 8) (by omega)]
  refine bp_iconst (v := 0) (q := 66) 36 rfl rfl (by decide) ?_
  refine bp_callV (q := 69) (ci := 7) 37 rfl rfl cw_BW_writeNumberWord lk_BW_67 rfl hT5.1 wd948 wd37 rfl rfl (Nat.le_of_ble_eq_true rfl) ⟨Nat.le_of_ble_eq_true rfl, Nat.le_of_ble_eq_true rfl⟩ (s_BW_number (n := en (k / 8 % 8)) (u := 0) hT5 hs37 (by rw [st37]; decide) (by omega) (by omega) (by (try simp only [List.length_append, List.length_cons, List.length_nil, apply_ite List.length]); (repeat' split) <;> omega) hmx (fun h6 a6 c6 s6 hT6 hF6 => ?_))
  rw [st37] at hT6
  refine bp_aload_n (q := 70) 38 rfl rfl rfl rfl ?_
  refine bp_getR (x := r) (q := 73) (ci := 7) (j := 2) 39 rfl rfl fl_BW_15_7 hT6.1 rfl hT6.2.1 ?_
  refine bp_callV (q := 76) (ci := 1) 40 rfl rfl cw_Row_size lk_BW_71 rfl hT6.2.2.1.1.1 wd455 wd456 rfl rfl (Nat.le_of_ble_eq_true rfl) ⟨Nat.le_of_ble_eq_true rfl, Nat.le_of_ble_eq_true rfl⟩ (s_Row_size (ro := false) hT6.2.2.1.1 ?_)
  refine bp_iload_n (q := 77) 41 rfl rfl rfl rfl ?_
  refine bp_icmp_le (q := 80) (tgt := 89) 42 rfl rfl (by decide) (fun z77 => ?_) (fun z77 => ?_)
  · refine bp_vret 47 rfl rfl  ⟨_, rfl, ?_⟩
    have hl0 : (bwB en k).length < 1000 := by unfold bwB; simp only [List.length_append, List.length_cons, List.length_nil, apply_ite List.length]; (repeat' split) <;> omega
    have e1 : xs ++ [123] ++ (if sb (k % 8) 1 then [92, 98] else []) ++ (if sb (k % 8) 2 then [92, 105] else []) ++ (if sb (k % 8) 4 then [92, 117, 108] else []) ++ (if k / 64 = 12 then [] else [92, 102, 115] ++ nd (k / 64)) ++ (if en (k / 8 % 8) = 0 then [] else [92, 99, 102] ++ nd (en (k / 8 % 8))) = xs ++ [123] ++ bwB en k := by simp only [bwB, List.append_assoc]
    rw [e1] at z77
    have y := (nI_le_iff (by simp only [List.length_append, List.length_cons, List.length_nil]; omega) (by simp only [List.length_append, List.length_cons, List.length_nil]; omega)).mp z77
    rw [List.length_append (as := xs ++ [123])] at y
    refine hQ _ _ _ _ ?_ (((((hF1.tr hF2).tr hF3).tr hF4).tr hF5).tr hF6)
    rw [e1] at hT6
    rw [bwS, if_pos (by omega), List.append_nil, ← List.append_assoc]
    exact hT6
  · refine bp_aload_n (q := 81) 43 rfl rfl rfl rfl ?_
    refine bp_getR (x := r) (q := 84) (ci := 7) (j := 2) 44 rfl rfl fl_BW_15_7 hT6.1 rfl hT6.2.1 ?_
    refine bp_bipush (v := 32) (q := 86) 45 rfl rfl (by decide) ?_
    refine bp_callV (q := 89) (ci := 1) 46 rfl rfl cw_Row_put lk_BW_19 rfl hT6.2.2.1.1.1 wd485 wd486 rfl rfl (Nat.le_of_ble_eq_true rfl) ⟨Nat.le_of_ble_eq_true rfl, Nat.le_of_ble_eq_true rfl⟩ (s_Row_putg (v := 32) rfl hT6.2.2.1 (by (try simp only [List.length_append, List.length_cons, List.length_nil, apply_ite List.length]); (repeat' split) <;> omega) hmx (fun h7 a7 c7 s7 hA7 hF7 => ?_))
    have hT7 := hT6.step hA7 hF7
    refine bp_vret 47 rfl rfl  ⟨_, rfl, ?_⟩
    have hl0 : (bwB en k).length < 1000 := by unfold bwB; simp only [List.length_append, List.length_cons, List.length_nil, apply_ite List.length]; (repeat' split) <;> omega
    have e1 : xs ++ [123] ++ (if sb (k % 8) 1 then [92, 98] else []) ++ (if sb (k % 8) 2 then [92, 105] else []) ++ (if sb (k % 8) 4 then [92, 117, 108] else []) ++ (if k / 64 = 12 then [] else [92, 102, 115] ++ nd (k / 64)) ++ (if en (k / 8 % 8) = 0 then [] else [92, 99, 102] ++ nd (en (k / 8 % 8))) = xs ++ [123] ++ bwB en k := by simp only [bwB, List.append_assoc]
    rw [e1] at z77
    have y : ¬ (bwB en k).length = 0 := fun y => z77 (nI_le (by rw [List.length_append (as := xs ++ [123])]; omega) (by simp only [List.length_append, List.length_cons, List.length_nil]; omega))
    refine hQ _ _ _ _ ?_ ((((((hF1.tr hF2).tr hF3).tr hF4).tr hF5).tr hF6).tr hF7)
    rw [e1] at hT7
    rw [bwS, if_neg y, ← List.append_assoc, ← List.append_assoc]
    exact hT7
end BW
