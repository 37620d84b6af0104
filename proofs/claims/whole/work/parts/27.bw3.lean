/-! the table of the braced form -/
def cnT (k : Nat) : List Nat := if k = 1 then [114, 101, 100] else if k = 2 then [103, 114, 101, 101, 110] else if k = 3 then [98, 108, 117, 101] else if k = 4 then [99, 121, 97, 110] else if k = 5 then [109, 97, 103, 101, 110, 116, 97] else if k = 6 then [121, 101, 108, 108, 111, 119] else if k = 7 then [119, 104, 105, 116, 101] else [98, 108, 97, 99, 107]
theorem cn_S {k : Nat} (hk : k < 8) : ∃ t, bp_S[cnI k]? = some t ∧ sT t = cnT k ∧ (cnT k).length ≤ 7 := by
  have h8 : k = 0 ∨ k = 1 ∨ k = 2 ∨ k = 3 ∨ k = 4 ∨ k = 5 ∨ k = 6 ∨ k = 7 := by omega
  rcases h8 with e | e | e | e | e | e | e | e <;> subst e
  · exact ⟨sr7, hs7, st7, by decide⟩
  · exact ⟨sr0, hs0, st0, by decide⟩
  · exact ⟨sr1, hs1, st1, by decide⟩
  · exact ⟨sr2, hs2, st2, by decide⟩
  · exact ⟨sr3, hs3, st3, by decide⟩
  · exact ⟨sr4, hs4, st4, by decide⟩
  · exact ⟨sr5, hs5, st5, by decide⟩
  · exact ⟨sr6, hs6, st6, by decide⟩
def btab (en : Nat → Nat) : Nat → Nat → List Nat
  | 0, _ => []
  | n + 1, k => (if en k = 0 then [] else cnT k ++ [59]) ++ btab en n (k + 1)
def bwT (en : Nat → Nat) : List Nat := [123, 92, 99, 111, 108, 111, 114, 116, 98, 108, 59] ++ (btab en 7 1 ++ [125])
section BW3
variable {l : Launch} {G : bp_G} {H0 : Heap} {h : bp_H} {c s bw r a e mx c0 s0 : Nat} {en : Nat → Nat} {xs : List Nat} {Q : Option Value → bp_H → Nat → Nat → Prop}
set_option maxRecDepth 100000 in
set_option maxHeartbeats 4000000 in
theorem lp_BW_table (hen : ∀ j, j < 8 → en j < 8) (hmx : mx < 100000) :
    ∀ (n k : Nat) (h : bp_H) (a c s : Nat) (xs : List Nat), n + k = 8 → Bw mx c0 s0 h bw r a e en xs c s → xs.length + 10 * n + 10 ≤ mx → (∀ h' a' c' s', Bw mx c0 s0 h' bw r a' e en (xs ++ (btab en n k ++ [125])) c' s' → gF r a h h' a' → Q none h' c' s') → bp_A l G H0 (5, 107, false, false) M_BW_writeTable h c s 11 [some (.ref bw), some (.int (nI k))] [] (fun o h' c' s' => ∃ v, o = .returned v ∧ Q v h' c' s') := by
  intro n
  induction n with
  | zero =>
    intro k h a c s xs hn hT0 hm hQ
    refine bp_iload_n (q := 12) 6 rfl rfl rfl rfl ?_
    refine bp_bipush (v := 7) (q := 14) 7 rfl rfl (by decide) ?_
    refine bp_icmp_gt (q := 17) (tgt := 52) 8 rfl rfl (by decide) (fun z14 => ?_) (fun z14 => ?_)
    · refine bp_aload_n (q := 53) 25 rfl rfl rfl rfl ?_
      refine bp_getR (x := r) (q := 56) (ci := 7) (j := 2) 26 rfl rfl fl_BW_15_7 hT0.1 rfl hT0.2.1 ?_
      refine bp_bipush (v := 125) (q := 58) 27 rfl rfl (by decide) ?_
      refine bp_callV (q := 61) (ci := 1) 28 rfl rfl cw_Row_put lk_BW_19 rfl hT0.2.2.1.1.1 wd485 wd486 rfl rfl (Nat.le_of_ble_eq_true rfl) ⟨Nat.le_of_ble_eq_true rfl, Nat.le_of_ble_eq_true rfl⟩ (s_Row_putg (v := 125) rfl hT0.2.2.1 (by omega) hmx (fun h1 a1 c1 s1 hA1 hF1 => ?_))
      have hT1 := hT0.step hA1 hF1
      exact bp_vret 29 rfl rfl  ⟨_, rfl, hQ _ _ _ _ (by simpa only [btab, List.nil_append] using hT1) hF1⟩
    · exact absurd (nI_lt (a := 7) (by omega) (by omega)) z14
  | succ n ih =>
    intro k h a c s xs hn hT0 hm hQ
    have hek := hen k (by omega)
    obtain ⟨tk, hSt, eT, hTl⟩ := cn_S (k := k) (by omega)
    refine bp_iload_n (q := 12) 6 rfl rfl rfl rfl ?_
    refine bp_bipush (v := 7) (q := 14) 7 rfl rfl (by decide) ?_
    refine bp_icmp_gt (q := 17) (tgt := 52) 8 rfl rfl (by decide) (fun z14 => ?_) (fun z14 => ?_)
    · exact absurd z14 (nI_nlt (a := 7) (by omega) (by omega))
    · refine bp_aload_n (q := 18) 9 rfl rfl rfl rfl ?_
      refine bp_getR (x := e) (q := 21) (ci := 7) (j := 0) 10 rfl rfl fl_BW_9_7 hT0.1 rfl hT0.2.2.2.1 ?_
      refine bp_iload_n (q := 22) 11 rfl rfl rfl rfl ?_
      refine bp_iald (q := 23) 12 rfl rfl hT0.2.2.2.2.1 (by rw [hT0.2.2.2.2.2.1]; exact vp_in_nI (by omega) (by decide)) ?_
      rw [nI_clamp (show k < 2 ^ 31 by omega), hT0.2.2.2.2.2.2.2 k (by omega)]
      refine bp_if_eq (q := 26) (tgt := 46) 13 rfl rfl (by decide) (fun z23 => ?_) (fun z23 => ?_)
      · refine bp_iinc (v := nI (k + 1)) (q := 49) 23 rfl rfl rfl (nI_1 k) (by decide) (bp_up1 rfl) ?_
        refine bp_goto (tgt := 11) 24 rfl (by decide) ?_
        have y : en k = 0 := (nI_eq_iff (b := 0) (by omega) (by omega)).mp z23
        rw [btab, if_pos y, List.nil_append] at hQ
        exact ih (k + 1) _ _ _ _ _ (by omega) hT0 (by omega) hQ
      · refine bp_aload_n (q := 27) 14 rfl rfl rfl rfl ?_
        refine bp_getR (x := r) (q := 30) (ci := 7) (j := 2) 15 rfl rfl fl_BW_15_7 hT0.1 rfl hT0.2.1 ?_
        refine bp_iload_n (q := 31) 16 rfl rfl rfl rfl ?_
        refine bp_callS (q := 34) 17 rfl rfl cw_X_colourName lk_BW_55 wd514 rfl rfl (Nat.le_of_ble_eq_true rfl) ⟨Nat.le_of_ble_eq_true rfl, Nat.le_of_ble_eq_true rfl⟩ (s_X_colourName (ro := false) (k := k) (by omega) ?_)
        refine bp_callV (q := 37) (ci := 1) 18 rfl rfl cw_Row_putText lk_BW_51 rfl hT0.2.2.1.1.1 wd916 wd917 rfl rfl (Nat.le_of_ble_eq_true rfl) ⟨Nat.le_of_ble_eq_true rfl, Nat.le_of_ble_eq_true rfl⟩ (s_Row_putText hSt hT0.2.2.1 (by rw [eT]; omega) hmx (fun h1 a1 c1 s1 hA1 hF1 => ?_))
        have hT1 := hT0.step hA1 hF1
        refine bp_aload_n (q := 38) 19 rfl rfl rfl rfl ?_
        refine bp_getR (x := r) (q := 41) (ci := 7) (j := 2) 20 rfl rfl fl_BW_15_7 hT1.1 rfl hT1.2.1 ?_
        refine bp_bipush (v := 59) (q := 43) 21 rfl rfl (by decide) ?_
        refine bp_callV (q := 46) (ci := 1) 22 rfl rfl cw_Row_put lk_BW_19 rfl hT1.2.2.1.1.1 wd485 wd486 rfl rfl (Nat.le_of_ble_eq_true rfl) ⟨Nat.le_of_ble_eq_true rfl, Nat.le_of_ble_eq_true rfl⟩ (s_Row_putg (v := 59) rfl hT1.2.2.1 (by simp only [List.length_append, eT]; omega) hmx (fun h2 a2 c2 s2 hA2 hF2 => ?_))
        have hT2 := hT1.step hA2 hF2
        refine bp_iinc (v := nI (k + 1)) (q := 49) 23 rfl rfl rfl (nI_1 k) (by decide) (bp_up1 rfl) ?_
        refine bp_goto (tgt := 11) 24 rfl (by decide) ?_
        have y : ¬ en k = 0 := fun y => z23 (by rw [y]; rfl)
        rw [btab, if_neg y] at hQ
        rw [eT] at hT2
        exact ih (k + 1) _ _ _ _ _ (by omega) hT2 (by simp only [List.length_append, List.length_cons, List.length_nil]; omega) (fun h' a' c' s' hX hG => hQ h' a' c' s' (by simpa only [List.append_assoc] using hX) ((hF1.tr hF2).tr hG))
set_option maxRecDepth 100000 in
set_option maxHeartbeats 4000000 in
theorem s_BW_writeTable  (hT0 : Bw mx c0 s0 h bw r a e en xs c s) (hen : ∀ j, j < 8 → en j < 8) (hm : xs.length + 150 ≤ mx) (hmx : mx < 100000) (hQ : ∀ h' a' c' s', Bw mx c0 s0 h' bw r a' e en (xs ++ bwT en) c' s' → gF r a h h' a' → Q none h' c' s') : bp_AM l G H0 (5, 107, false, false) M_BW_writeTable h c s [.ref bw] Q := by
  refine bp_of (ls := [some (.ref bw), none]) (by decide) dt_BW_writeTable (Nat.le_of_ble_eq_true rfl) (fun q hq => hq) false ?_
  refine bp_aload_n (q := 1) 0 rfl rfl rfl rfl ?_
  refine bp_getR (x := r) (q := 4) (ci := 7) (j := 2) 1 rfl rfl fl_BW_15_7 hT0.1 rfl hT0.2.1 ?_
  refine bp_ldcs hs27 (q := 6) 2 rfl rfl rfl rfl ?_
  refine bp_callV (q := 9) (ci := 1) 3 rfl rfl cw_Row_putText lk_BW_51 rfl hT0.2.2.1.1.1 wd916 wd917 rfl rfl (Nat.le_of_ble_eq_true rfl) ⟨Nat.le_of_ble_eq_true rfl, Nat.le_of_ble_eq_true rfl⟩ (s_Row_putText hs27 hT0.2.2.1 (by (try simp only [List.length_append, List.length_cons, List.length_nil, st27]); omega) hmx (fun h1 a1 c1 s1 hA1 hF1 => ?_))
  rw [st27] at hA1
  have hT1 := hT0.step hA1 hF1
  refine bp_iconst (v := 1) (q := 10) 4 rfl rfl (by decide) ?_
  refine bp_istore_n (q := 11) 5 rfl rfl rfl (by decide) (bp_up1 rfl) ?_
  exact lp_BW_table hen hmx 7 1 _ _ _ _ _ rfl hT1 (by simp only [List.length_append, List.length_cons, List.length_nil]; omega) (fun h' a' c' s' hX hG => hQ h' a' c' s' (by simpa only [bwT, List.append_assoc] using hX) (hF1.tr hG))
end BW3
