/-! texts, numbers and words in rows -/
theorem take_snoc (ys : List Nat) {i : Nat} (h : i < ys.length) : ys.take i ++ [ys.getD i 0] = ys.take (i + 1) := by
  rw [List.take_succ, List.getD_eq_getElem?_getD, List.getElem?_eq_getElem h]
  rfl
section ROWT
variable {l : Launch} {G : bp_G} {H0 : Heap} {h : bp_H} {c s r a mx c0 s0 i : Nat} {xs : List Nat} {t : String × Nat × String × List Int32} {Q : Option Value → bp_H → Nat → Nat → Prop}
set_option maxRecDepth 100000 in
set_option maxHeartbeats 4000000 in
theorem lp_Row_putText (hS : bp_S[i]? = some t) (hm : xs.length + (sT t).length ≤ mx) (hmx : mx < 100000) (hQ : ∀ h' a' c' s', RG mx c0 s0 h' r a' (xs ++ sT t) c' s' → gF r a h h' a' → Q none h' c' s') :
    ∀ (n j : Nat) (h1 : bp_H) (a1 c1 s1 : Nat), n + j = (sT t).length → RG mx c0 s0 h1 r a1 (xs ++ (sT t).take j) c1 s1 → gF r a h h1 a1 → bp_A l G H0 (4, 85, false, false) M_Row_putText h1 c1 s1 2 [some (.ref r), some (.ref (G.2.2.2.1 i)), some (.int (nI j))] [] (fun o h' c' s' => ∃ v, o = .returned v ∧ Q v h' c' s') := by
  have hsh := sT_short hS
  intro n
  induction n with
  | zero =>
    intro j h1 a1 c1 s1 hj hA hF
    refine bp_iload_n (q := 3) 2 rfl rfl rfl rfl ?_
    refine bp_aload_n (q := 4) 3 rfl rfl rfl rfl ?_
    refine bp_callVS (q := 7) hS 4 rfl rfl cw_JS_length lk_Row_25 wd529 wd530 rfl rfl (Nat.le_of_ble_eq_true rfl) ⟨Nat.le_of_ble_eq_true rfl, Nat.le_of_ble_eq_true rfl⟩ (s_JS_length (ro := false) hS ?_)
    refine bp_icmp_ge (q := 10) (tgt := 25) 5 rfl rfl (by decide) (fun z7 => ?_) (fun z7 => ?_)
    · exact bp_vret 13 rfl rfl  ⟨_, rfl, hQ h1 a1 c1 s1 (by rw [List.take_of_length_le (by omega)] at hA; exact hA) hF⟩
    · exfalso
      exact z7 ((nI_le_iff (by omega) (by omega)).mpr (by omega))
  | succ n ih =>
    intro j h1 a1 c1 s1 hnj hA hF
    have hj : j < (sT t).length := by omega
    have hlen : (xs ++ (sT t).take j).length < mx := by rw [List.length_append, List.length_take]; omega
    refine bp_iload_n (q := 3) 2 rfl rfl rfl rfl ?_
    refine bp_aload_n (q := 4) 3 rfl rfl rfl rfl ?_
    refine bp_callVS (q := 7) hS 4 rfl rfl cw_JS_length lk_Row_25 wd529 wd530 rfl rfl (Nat.le_of_ble_eq_true rfl) ⟨Nat.le_of_ble_eq_true rfl, Nat.le_of_ble_eq_true rfl⟩ (s_JS_length (ro := false) hS ?_)
    refine bp_icmp_ge (q := 10) (tgt := 25) 5 rfl rfl (by decide) (fun z7 => ?_) (fun z7 => ?_)
    · exfalso
      have := (nI_le_iff (by omega) (by omega)).mp z7
      omega
    · refine bp_aload_n (q := 11) 6 rfl rfl rfl rfl ?_
      refine bp_aload_n (q := 12) 7 rfl rfl rfl rfl ?_
      refine bp_iload_n (q := 13) 8 rfl rfl rfl rfl ?_
      refine bp_callVS (q := 16) hS 9 rfl rfl cw_JS_charAt lk_Row_31 wd539 wd540 rfl rfl (Nat.le_of_ble_eq_true rfl) ⟨Nat.le_of_ble_eq_true rfl, Nat.le_of_ble_eq_true rfl⟩ (s_JS_charAt (ro := false) hS hj ?_)
      refine bp_callV (q := 19) (ci := 1) 10 rfl rfl cw_Row_put lk_Row_35 rfl hA.1.1 wd485 wd486 rfl rfl (Nat.le_of_ble_eq_true rfl) ⟨Nat.le_of_ble_eq_true rfl, Nat.le_of_ble_eq_true rfl⟩ (s_Row_putg (v := (sT t).getD j 0) rfl hA hlen hmx (fun h2 a2 c2 s2 hA2 hF2 => ?_))
      refine bp_iinc (v := nI (j + 1)) (q := 22) 11 rfl rfl rfl (nI_1 j) (by decide) (bp_up2 rfl) ?_
      refine bp_goto (tgt := 2) 12 rfl (by decide) ?_
      exact ih (j + 1) h2 a2 c2 s2 (by omega) (by rw [← take_snoc _ hj, ← List.append_assoc]; exact hA2) (hF.tr hF2)
set_option maxRecDepth 100000 in
set_option maxHeartbeats 4000000 in
theorem s_Row_putText  (hS : bp_S[i]? = some t) (hG : RG mx c0 s0 h r a xs c s) (hm : xs.length + (sT t).length ≤ mx) (hmx : mx < 100000) (hQ : ∀ h' a' c' s', RG mx c0 s0 h' r a' (xs ++ sT t) c' s' → gF r a h h' a' → Q none h' c' s') : bp_AM l G H0 (4, 85, false, false) M_Row_putText h c s [.ref r, .ref (G.2.2.2.1 i)] Q := by
  refine bp_of (ls := [some (.ref r), some (.ref (G.2.2.2.1 i)), none]) (by decide) dt_Row_putText (Nat.le_of_ble_eq_true rfl) (fun q hq => hq) false ?_
  refine bp_iconst (v := 0) (q := 1) 0 rfl rfl (by decide) ?_
  refine bp_istore_n (q := 2) 1 rfl rfl rfl (by decide) (bp_up2 rfl) ?_
  exact lp_Row_putText hS hm hmx hQ (sT t).length 0 h a c s rfl (by rw [List.take_zero, List.append_nil]; exact hG) gF.rf
def nd (n : Nat) : List Nat := (if 100 ≤ n then [48 + n / 100 % 10] else []) ++ ((if 10 ≤ n then [48 + n / 10 % 10] else []) ++ [48 + n % 10])
theorem nd_d : ∀ n, n < 1000 → (48 : Int32) + (nI n / 100 - nI n / 100 / 10 * 10) = nI (48 + n / 100 % 10) ∧ (48 : Int32) + (nI n / 10 - nI n / 10 / 10 * 10) = nI (48 + n / 10 % 10) ∧ (48 : Int32) + (nI n - nI n / 10 * 10) = nI (48 + n % 10) ∧ (nI n < 100 ↔ n < 100) ∧ (nI n < 10 ↔ n < 10) := by decide +kernel
theorem nd_len (n : Nat) : (nd n).length ≤ 3 := by unfold nd; split <;> split <;> simp
set_option maxRecDepth 100000 in
set_option maxHeartbeats 4000000 in
theorem s_Row_putNumber {n : Nat} (hn : n < 1000) (hG : RG mx c0 s0 h r a xs c s) (hm : xs.length + 3 ≤ mx) (hmx : mx < 100000) (hQ : ∀ h' a' c' s', RG mx c0 s0 h' r a' (xs ++ nd n) c' s' → gF r a h h' a' → Q none h' c' s') : bp_AM l G H0 (4, 84, false, false) M_Row_putNumber h c s [.ref r, .int (nI n)] Q := by
  refine bp_of (ls := [some (.ref r), some (.int (nI n))]) (by decide) dt_Row_putNumber (Nat.le_of_ble_eq_true rfl) (fun q hq => hq) false ?_
  obtain ⟨d1, d2, d3, e100, e10⟩ := nd_d n hn
  by_cases c100 : 100 ≤ n
  · have c10 : 10 ≤ n := by omega
    refine bp_iload_n (q := 1) 0 rfl rfl rfl rfl ?_
    refine bp_bipush (v := 100) (q := 3) 1 rfl rfl (by decide) ?_
    refine bp_icmp_lt (q := 6) (tgt := 20) 2 rfl rfl (by decide) (fun z3 => ?_) (fun z3 => ?_)
    · exact absurd (e100.mp z3) (by omega)
    · refine bp_aload_n (q := 7) 3 rfl rfl rfl rfl ?_
      refine bp_bipush (v := 48) (q := 9) 4 rfl rfl (by decide) ?_
      refine bp_iload_n (q := 10) 5 rfl rfl rfl rfl ?_
      refine bp_bipush (v := 100) (q := 12) 6 rfl rfl (by decide) ?_
      refine bp_idiv (q := 13) 7 rfl rfl (by decide) ?_
      refine bp_bipush (v := 10) (q := 15) 8 rfl rfl (by decide) ?_
      refine bp_irem (q := 16) 9 rfl rfl (by decide) ?_
      refine bp_iadd (q := 17) 10 rfl rfl ?_
      refine bp_callV (q := 20) (ci := 1) 11 rfl rfl cw_Row_put lk_Row_35 rfl hG.1.1 wd485 wd486 rfl rfl (Nat.le_of_ble_eq_true rfl) ⟨Nat.le_of_ble_eq_true rfl, Nat.le_of_ble_eq_true rfl⟩ (s_Row_putg d1 hG (by (try simp only [List.length_append, List.length_cons, List.length_nil]); omega) hmx (fun h1 a1 c1 s1 hA1 hF1 => ?_))
      refine bp_iload_n (q := 21) 12 rfl rfl rfl rfl ?_
      refine bp_bipush (v := 10) (q := 23) 13 rfl rfl (by decide) ?_
      refine bp_icmp_lt (q := 26) (tgt := 40) 14 rfl rfl (by decide) (fun z23 => ?_) (fun z23 => ?_)
      · exact absurd (e10.mp z23) (by omega)
      · refine bp_aload_n (q := 27) 15 rfl rfl rfl rfl ?_
        refine bp_bipush (v := 48) (q := 29) 16 rfl rfl (by decide) ?_
        refine bp_iload_n (q := 30) 17 rfl rfl rfl rfl ?_
        refine bp_bipush (v := 10) (q := 32) 18 rfl rfl (by decide) ?_
        refine bp_idiv (q := 33) 19 rfl rfl (by decide) ?_
        refine bp_bipush (v := 10) (q := 35) 20 rfl rfl (by decide) ?_
        refine bp_irem (q := 36) 21 rfl rfl (by decide) ?_
        refine bp_iadd (q := 37) 22 rfl rfl ?_
        refine bp_callV (q := 40) (ci := 1) 23 rfl rfl cw_Row_put lk_Row_35 rfl hA1.1.1 wd485 wd486 rfl rfl (Nat.le_of_ble_eq_true rfl) ⟨Nat.le_of_ble_eq_true rfl, Nat.le_of_ble_eq_true rfl⟩ (s_Row_putg d2 hA1 (by (try simp only [List.length_append, List.length_cons, List.length_nil]); omega) hmx (fun h2 a2 c2 s2 hA2 hF2 => ?_))
        refine bp_aload_n (q := 41) 24 rfl rfl rfl rfl ?_
        refine bp_bipush (v := 48) (q := 43) 25 rfl rfl (by decide) ?_
        refine bp_iload_n (q := 44) 26 rfl rfl rfl rfl ?_
        refine bp_bipush (v := 10) (q := 46) 27 rfl rfl (by decide) ?_
        refine bp_irem (q := 47) 28 rfl rfl (by decide) ?_
        refine bp_iadd (q := 48) 29 rfl rfl ?_
        refine bp_callV (q := 51) (ci := 1) 30 rfl rfl cw_Row_put lk_Row_35 rfl hA2.1.1 wd485 wd486 rfl rfl (Nat.le_of_ble_eq_true rfl) ⟨Nat.le_of_ble_eq_true rfl, Nat.le_of_ble_eq_true rfl⟩ (s_Row_putg d3 hA2 (by (try simp only [List.length_append, List.length_cons, List.length_nil]); omega) hmx (fun h3 a3 c3 s3 hA3 hF3 => ?_))
        exact bp_vret 31 rfl rfl  ⟨_, rfl, hQ _ _ _ _ (by simpa only [nd, c100, c10, if_true, if_false, List.append_assoc, List.nil_append, List.cons_append] using hA3) ((hF1.tr hF2).tr hF3)⟩
  · by_cases c10 : 10 ≤ n
    · skip
      refine bp_iload_n (q := 1) 0 rfl rfl rfl rfl ?_
      refine bp_bipush (v := 100) (q := 3) 1 rfl rfl (by decide) ?_
      refine bp_icmp_lt (q := 6) (tgt := 20) 2 rfl rfl (by decide) (fun z3 => ?_) (fun z3 => ?_)
      · refine bp_iload_n (q := 21) 12 rfl rfl rfl rfl ?_
        refine bp_bipush (v := 10) (q := 23) 13 rfl rfl (by decide) ?_
        refine bp_icmp_lt (q := 26) (tgt := 40) 14 rfl rfl (by decide) (fun z23 => ?_) (fun z23 => ?_)
        · exact absurd (e10.mp z23) (by omega)
        · refine bp_aload_n (q := 27) 15 rfl rfl rfl rfl ?_
          refine bp_bipush (v := 48) (q := 29) 16 rfl rfl (by decide) ?_
          refine bp_iload_n (q := 30) 17 rfl rfl rfl rfl ?_
          refine bp_bipush (v := 10) (q := 32) 18 rfl rfl (by decide) ?_
          refine bp_idiv (q := 33) 19 rfl rfl (by decide) ?_
          refine bp_bipush (v := 10) (q := 35) 20 rfl rfl (by decide) ?_
          refine bp_irem (q := 36) 21 rfl rfl (by decide) ?_
          refine bp_iadd (q := 37) 22 rfl rfl ?_
          refine bp_callV (q := 40) (ci := 1) 23 rfl rfl cw_Row_put lk_Row_35 rfl hG.1.1 wd485 wd486 rfl rfl (Nat.le_of_ble_eq_true rfl) ⟨Nat.le_of_ble_eq_true rfl, Nat.le_of_ble_eq_true rfl⟩ (s_Row_putg d2 hG (by (try simp only [List.length_append, List.length_cons, List.length_nil]); omega) hmx (fun h1 a1 c1 s1 hA1 hF1 => ?_))
          refine bp_aload_n (q := 41) 24 rfl rfl rfl rfl ?_
          refine bp_bipush (v := 48) (q := 43) 25 rfl rfl (by decide) ?_
          refine bp_iload_n (q := 44) 26 rfl rfl rfl rfl ?_
          refine bp_bipush (v := 10) (q := 46) 27 rfl rfl (by decide) ?_
          refine bp_irem (q := 47) 28 rfl rfl (by decide) ?_
          refine bp_iadd (q := 48) 29 rfl rfl ?_
          refine bp_callV (q := 51) (ci := 1) 30 rfl rfl cw_Row_put lk_Row_35 rfl hA1.1.1 wd485 wd486 rfl rfl (Nat.le_of_ble_eq_true rfl) ⟨Nat.le_of_ble_eq_true rfl, Nat.le_of_ble_eq_true rfl⟩ (s_Row_putg d3 hA1 (by (try simp only [List.length_append, List.length_cons, List.length_nil]); omega) hmx (fun h2 a2 c2 s2 hA2 hF2 => ?_))
          exact bp_vret 31 rfl rfl  ⟨_, rfl, hQ _ _ _ _ (by simpa only [nd, c100, c10, if_true, if_false, List.append_assoc, List.nil_append, List.cons_append] using hA2) (hF1.tr hF2)⟩
      · exact absurd (e100.mpr (by omega)) z3
    · skip
      refine bp_iload_n (q := 1) 0 rfl rfl rfl rfl ?_
      refine bp_bipush (v := 100) (q := 3) 1 rfl rfl (by decide) ?_
      refine bp_icmp_lt (q := 6) (tgt := 20) 2 rfl rfl (by decide) (fun z3 => ?_) (fun z3 => ?_)
      · refine bp_iload_n (q := 21) 12 rfl rfl rfl rfl ?_
        refine bp_bipush (v := 10) (q := 23) 13 rfl rfl (by decide) ?_
        refine bp_icmp_lt (q := 26) (tgt := 40) 14 rfl rfl (by decide) (fun z23 => ?_) (fun z23 => ?_)
        · refine bp_aload_n (q := 41) 24 rfl rfl rfl rfl ?_
          refine bp_bipush (v := 48) (q := 43) 25 rfl rfl (by decide) ?_
          refine bp_iload_n (q := 44) 26 rfl rfl rfl rfl ?_
          refine bp_bipush (v := 10) (q := 46) 27 rfl rfl (by decide) ?_
          refine bp_irem (q := 47) 28 rfl rfl (by decide) ?_
          refine bp_iadd (q := 48) 29 rfl rfl ?_
          refine bp_callV (q := 51) (ci := 1) 30 rfl rfl cw_Row_put lk_Row_35 rfl hG.1.1 wd485 wd486 rfl rfl (Nat.le_of_ble_eq_true rfl) ⟨Nat.le_of_ble_eq_true rfl, Nat.le_of_ble_eq_true rfl⟩ (s_Row_putg d3 hG (by (try simp only [List.length_append, List.length_cons, List.length_nil]); omega) hmx (fun h1 a1 c1 s1 hA1 hF1 => ?_))
          exact bp_vret 31 rfl rfl  ⟨_, rfl, hQ _ _ _ _ (by simpa only [nd, c100, c10, if_true, if_false, List.append_assoc, List.nil_append, List.cons_append] using hA1) hF1⟩
        · exact absurd (e10.mpr (by omega)) z23
      · exact absurd (e100.mpr (by omega)) z3
def spl (xs : List Nat) (u v : Nat) (ys : List Nat) : Bool := decide (v ≤ xs.length) && (decide (v = u + ys.length) && decide ((xs.drop u).take ys.length = ys))
def bI (b : Bool) : Int32 := if b then 1 else 0
theorem drop_get {xs ys : List Nat} {u j : Nat} (e : (xs.drop u).take ys.length = ys) (hj : j < ys.length) : xs.getD (u + j) 0 = ys.getD j 0 := by
  have h := congrArg (fun z : List Nat => z.getD j 0) e
  simp only [List.getD_eq_getElem?_getD, List.getElem?_take, hj, if_true, List.getElem?_drop] at h
  rw [List.getD_eq_getElem?_getD, List.getD_eq_getElem?_getD]
  exact h
theorem drop_take_snoc {xs : List Nat} {u j : Nat} (h : u + j < xs.length) : (xs.drop u).take j ++ [xs.getD (u + j) 0] = (xs.drop u).take (j + 1) := by
  have hl : j < (xs.drop u).length := by rw [List.length_drop]; omega
  rw [← take_snoc _ hl]
  congr 2
  rw [List.getD_eq_getElem?_getD, List.getD_eq_getElem?_getD, List.getElem?_drop]
set_option maxRecDepth 100000 in
set_option maxHeartbeats 4000000 in
theorem lp_Row_spells {ro : Bool} {u : Nat} {v : Int32} (hS : bp_S[i]? = some t) (hR : Rw h r a xs) (hb : ∀ j, j < xs.length → xs.getD j 0 < 1000000) (hv : u + (sT t).length ≤ xs.length) (hQ : Q (some (.int (bI (decide ((xs.drop u).take (sT t).length = sT t))))) h c s) :
    ∀ (n j : Nat), n + j = (sT t).length → (xs.drop u).take j = (sT t).take j → bp_A l G H0 (4, 85, ro, ro) M_Row_spells h c s 27 [some (.ref r), some (.int (nI u)), some (.int v), some (.ref (G.2.2.2.1 i)), some (.int (nI j))] [] (fun o h' c' s' => ∃ v, o = .returned v ∧ Q v h' c' s') := by
  have hsh := sT_short hS
  have hlen := hR.len
  intro n
  induction n with
  | zero =>
    intro j hnj htk
    refine bp_iload (q := 29) 16 rfl rfl rfl ?_
    refine bp_aload_n (q := 30) 17 rfl rfl rfl rfl ?_
    refine bp_callVS (q := 33) hS 18 rfl rfl cw_JS_length lk_Row_25 wd529 wd530 rfl rfl (Nat.le_of_ble_eq_true rfl) ⟨Nat.le_of_ble_eq_true rfl, Nat.le_of_ble_eq_true rfl⟩ (s_JS_length (ro := ro) hS ?_)
    refine bp_icmp_ge (q := 36) (tgt := 62) 19 rfl rfl (by decide) (fun z33 => ?_) (fun z33 => ?_)
    · refine bp_iconst (v := 1) (q := 63) 34 rfl rfl (by decide) ?_
      refine bp_iret 35 rfl rfl (by first | rfl | assumption) ⟨_, rfl, ?_⟩
      rw [show j = (sT t).length by omega, List.take_of_length_le (Nat.le_refl _)] at htk
      rw [decide_eq_true htk] at hQ
      exact hQ
    · exfalso
      exact z33 ((nI_le_iff (by omega) (by omega)).mpr (by omega))
  | succ n ih =>
    intro j hnj htk
    have hj : j < (sT t).length := by omega
    have hcl : (nI u + nI j).toNatClampNeg = u + j := by rw [nI_add]; exact nI_clamp (by omega)
    have hin : vp_in (nI u + nI j) (bp_L h a) := by rw [nI_add]; exact vp_in_nI (by have := hR.2.2.2.2.1; omega) (by have := hR.2.2.2.2.2.1; omega)
    have hval : bp_I h a (nI u + nI j).toNatClampNeg = nI (xs.getD (u + j) 0) := by rw [hcl]; exact hR.2.2.2.2.2.2 _ (by omega)
    refine bp_iload (q := 29) 16 rfl rfl rfl ?_
    refine bp_aload_n (q := 30) 17 rfl rfl rfl rfl ?_
    refine bp_callVS (q := 33) hS 18 rfl rfl cw_JS_length lk_Row_25 wd529 wd530 rfl rfl (Nat.le_of_ble_eq_true rfl) ⟨Nat.le_of_ble_eq_true rfl, Nat.le_of_ble_eq_true rfl⟩ (s_JS_length (ro := ro) hS ?_)
    refine bp_icmp_ge (q := 36) (tgt := 62) 19 rfl rfl (by decide) (fun z33 => ?_) (fun z33 => ?_)
    · exfalso
      have := (nI_le_iff (by omega) (by omega)).mp z33
      omega
    · refine bp_aload_n (q := 37) 20 rfl rfl rfl rfl ?_
      refine bp_getR (x := a) (q := 40) (ci := 1) (j := 0) 21 rfl rfl fl_Row_9_1 hR.1 rfl hR.2.1 ?_
      refine bp_iload_n (q := 41) 22 rfl rfl rfl rfl ?_
      refine bp_iload (q := 43) 23 rfl rfl rfl ?_
      refine bp_iadd (q := 44) 24 rfl rfl ?_
      refine bp_iald (q := 45) 25 rfl rfl hR.2.2.2.1 hin ?_
      refine bp_aload_n (q := 46) 26 rfl rfl rfl rfl ?_
      refine bp_iload (q := 48) 27 rfl rfl rfl ?_
      refine bp_callVS (q := 51) hS 28 rfl rfl cw_JS_charAt lk_Row_31 wd539 wd540 rfl rfl (Nat.le_of_ble_eq_true rfl) ⟨Nat.le_of_ble_eq_true rfl, Nat.le_of_ble_eq_true rfl⟩ (s_JS_charAt (ro := ro) hS hj ?_)
      refine bp_icmp_eq (q := 54) (tgt := 56) 29 rfl rfl (by decide) (fun z51 => ?_) (fun z51 => ?_)
      · have hxy : xs.getD (u + j) 0 = (sT t).getD j 0 := by
          rw [hval] at z51
          exact (nI_eq (by have := hb (u + j) (by omega); omega) (by have := (sT_get hS hj).2; omega)).mp z51
        refine bp_iinc (v := nI (j + 1)) (q := 59) 32 rfl rfl rfl (nI_1 j) (by decide) (bp_up4 rfl) ?_
        refine bp_goto (tgt := 27) 33 rfl (by decide) ?_
        exact ih (j + 1) (by omega) (by rw [← drop_take_snoc (by omega), ← take_snoc _ hj, htk, hxy])
      · refine bp_iconst (v := 0) (q := 55) 30 rfl rfl (by decide) ?_
        refine bp_iret 31 rfl rfl (by first | rfl | assumption) ⟨_, rfl, ?_⟩
        have hne : (xs.drop u).take (sT t).length ≠ sT t := fun e => z51 (by rw [hval, drop_get e hj])
        rw [decide_eq_false hne] at hQ
        exact hQ
set_option maxRecDepth 100000 in
set_option maxHeartbeats 4000000 in
theorem s_Row_spells {ro : Bool} {u v : Nat} (hS : bp_S[i]? = some t) (hR : Rw h r a xs) (hb : ∀ j, j < xs.length → xs.getD j 0 < 1000000) (hu : u < 1000000) (hv : v < 1000000) (hQ : Q (some (.int (bI (spl xs u v (sT t))))) h c s) : bp_AM l G H0 (4, 85, ro, ro) M_Row_spells h c s [.ref r, .int (nI u), .int (nI v), .ref (G.2.2.2.1 i)] Q := by
  refine bp_of (ls := [some (.ref r), some (.int (nI u)), some (.int (nI v)), some (.ref (G.2.2.2.1 i)), none]) (by decide) dt_Row_spells (Nat.le_of_ble_eq_true rfl) (fun q hq => hq) ro ?_
  have hsh := sT_short hS
  have hlen := hR.len
  refine bp_iload_n (q := 1) 0 rfl rfl rfl rfl ?_
  refine bp_if_lt (q := 4) (tgt := 22) 1 rfl rfl (by decide) (fun z1 => ?_) (fun z1 => ?_)
  · exact absurd z1 (nI_pos (by omega))
  · refine bp_iload_n (q := 5) 2 rfl rfl rfl rfl ?_
    refine bp_aload_n (q := 6) 3 rfl rfl rfl rfl ?_
    refine bp_getI (q := 9) (ci := 1) (j := 1) 4 rfl rfl fl_Row_15_1 hR.1 rfl ?_
    refine bp_icmp_gt (q := 12) (tgt := 22) 5 rfl rfl (by decide) (fun z9 => ?_) (fun z9 => ?_)
    · refine bp_iconst (v := 0) (q := 23) 12 rfl rfl (by decide) ?_
      refine bp_iret 13 rfl rfl (by first | rfl | assumption) ⟨_, rfl, ?_⟩
      rw [hR.2.2.1] at z9
      rw [spl, decide_eq_false (fun q => absurd z9 (nI_nlt q (by omega))), Bool.false_and] at hQ
      exact hQ
    · refine bp_iload_n (q := 13) 6 rfl rfl rfl rfl ?_
      refine bp_iload_n (q := 14) 7 rfl rfl rfl rfl ?_
      refine bp_isub (q := 15) 8 rfl rfl ?_
      refine bp_aload_n (q := 16) 9 rfl rfl rfl rfl ?_
      refine bp_callVS (q := 19) hS 10 rfl rfl cw_JS_length lk_Row_25 wd529 wd530 rfl rfl (Nat.le_of_ble_eq_true rfl) ⟨Nat.le_of_ble_eq_true rfl, Nat.le_of_ble_eq_true rfl⟩ (s_JS_length (ro := ro) hS ?_)
      refine bp_icmp_eq (q := 22) (tgt := 24) 11 rfl rfl (by decide) (fun z19 => ?_) (fun z19 => ?_)
      · refine bp_iconst (v := 0) (q := 25) 14 rfl rfl (by decide) ?_
        refine bp_istore (q := 27) 15 rfl rfl (by decide) (bp_up4 rfl) ?_
        obtain rfl : v = u + (sT t).length := by
          have e : nI v = nI (u + (sT t).length) := by
            have e2 : nI v = nI (sT t).length + nI u := by rw [← z19]; exact (Int32.sub_add_cancel _ _).symm
            rw [e2, nI_add, Nat.add_comm]
          exact (nI_eq (by omega) (by omega)).mp e
        have hvl : u + (sT t).length ≤ xs.length := by
          rw [hR.2.2.1] at z9
          exact Nat.not_lt.mp (fun q => z9 (nI_lt q (by omega)))
        refine lp_Row_spells hS hR hb hvl ?_ (sT t).length 0 rfl rfl
        rw [spl, decide_eq_true hvl, decide_eq_true rfl, Bool.true_and, Bool.true_and] at hQ
        exact hQ
      · refine bp_iconst (v := 0) (q := 23) 12 rfl rfl (by decide) ?_
        refine bp_iret 13 rfl rfl (by first | rfl | assumption) ⟨_, rfl, ?_⟩
        have hne : v ≠ u + (sT t).length := fun e => z19 (by rw [e, ← nI_add, Int32.add_comm]; exact Int32.add_sub_cancel _ _)
        rw [spl, decide_eq_false hne, Bool.false_and, Bool.and_false] at hQ
        exact hQ
end ROWT
