/-! runs -/
def lkL (L : List (Nat × Nat)) : List Nat := L.map (fun q => q.2)
def sr (lk : List Nat) (st k : Nat) : Bool := decide (k = st) || decide (lk.getD k 0 ≠ lk.getD (k - 1) 0)
def er (lk : List Nat) (en k : Nat) : Bool := decide (k + 1 = en) || decide (lk.getD k 0 ≠ lk.getD (k + 1) 0)
theorem rg_nI {xs : List Nat} {j : Nat} (hj : j < xs.length) (hl : xs.length < 1000000) : rg xs (nI j) = nI (xs.getD j 0) := by
  rw [rg, if_neg (nI_pos (by omega)), if_neg (nI_ge hj (by omega)), nI_clamp (by omega)]
def lkB (lk : List Nat) : Prop := lk.length < 1000000 ∧ ∀ j, j < lk.length → lk.getD j 0 < 1000000
theorem sr_eq {lk : List Nat} {x : Int32} {st k : Nat} (hb : lkB lk) (hx : x = nI st) (h1 : st ≤ k) (h2 : k < lk.length) : (if nI k = x ∨ rg lk (nI k) ≠ rg lk (nI k - 1) then (1 : Int32) else 0) = bI (sr lk st k) := by
  subst hx
  have hl := hb.1
  by_cases e : k = st
  · subst e
    rw [if_pos (Or.inl rfl)]
    simp [sr, bI]
  · obtain ⟨m, rfl⟩ : ∃ m, k = m + 1 := ⟨k - 1, by omega⟩
    rw [nI_pred, rg_nI h2 hl, rg_nI (by omega) hl]
    have e1 : ¬ nI (m + 1) = nI st := fun z => e ((nI_eq (by omega) (by omega)).mp z)
    by_cases e2 : lk.getD (m + 1) 0 = lk.getD m 0
    · rw [if_neg (fun z => z.elim e1 (fun y => y (by rw [e2])))]
      simp only [sr, decide_eq_false e, Nat.add_sub_cancel, e2, bI]
      simp
    · rw [if_pos (Or.inr (fun z => e2 ((nI_eq (by have := hb.2 _ h2; omega) (by have := hb.2 m (by omega); omega)).mp z)))]
      simp only [sr, Nat.add_sub_cancel, decide_eq_true e2, Bool.or_true, bI, if_true]
theorem er_eq {lk : List Nat} {x : Int32} {en k : Nat} (hb : lkB lk) (hx : x = nI en) (h1 : k < en) (h2 : en ≤ lk.length) : (if nI k = x - 1 ∨ rg lk (nI k) ≠ rg lk (nI k + 1) then (1 : Int32) else 0) = bI (er lk en k) := by
  subst hx
  have hl := hb.1
  obtain ⟨e0, rfl⟩ : ∃ m, en = m + 1 := ⟨en - 1, by omega⟩
  rw [nI_pred, nI_1]
  by_cases e : k = e0
  · subst e
    rw [if_pos (Or.inl rfl)]
    simp [er, bI]
  · rw [rg_nI (by omega) hl, rg_nI (by omega) hl]
    have e1 : ¬ nI k = nI e0 := fun z => e ((nI_eq (by omega) (by omega)).mp z)
    have e3 : ¬ k + 1 = e0 + 1 := by omega
    by_cases e2 : lk.getD k 0 = lk.getD (k + 1) 0
    · rw [if_neg (fun z => z.elim e1 (fun y => y (by rw [e2])))]
      simp only [er, decide_eq_false e3, e2, bI]
      simp
    · rw [if_pos (Or.inr (fun z => e2 ((nI_eq (by have := hb.2 k (by omega); omega) (by have := hb.2 (k + 1) (by omega); omega)).mp z)))]
      simp only [er, decide_eq_true e2, Bool.or_true, bI, if_true]
theorem bI0 {b : Bool} : bI b = 0 ↔ b = false := by cases b <;> decide
def rcn (lk : List Nat) (st : Nat) : Nat → Nat → Nat
  | 0, _ => 0
  | n + 1, k => (if sr lk st k then 1 else 0) + rcn lk st n (k + 1)
def fro (lk : List Nat) (st : Nat) (r : Int32) : Nat → Nat → Nat → Int32
  | 0, _, _ => -1
  | n + 1, k, cnt => if sr lk st k then (if nI cnt = r then nI k else fro lk st r n (k + 1) (cnt + 1)) else fro lk st r n (k + 1) cnt
def rln (lk : List Nat) (f : Nat) : Nat → Nat → Nat
  | 0, m => m
  | n + 1, m => if lk.getD (f + m) 0 = lk.getD f 0 then rln lk f n (m + 1) else m
section PAGE3
variable {l : Launch} {G : bp_G} {H0 : Heap} {h : bp_H} {c s : Nat} {P : Nat → Nat} {L : List (Nat × Nat)} {ps : List (Nat × Nat × Nat)} {Q : Option Value → bp_H → Nat → Nat → Prop}
theorem s_Page_enI {ro : Bool} {i : Int32} (hP : Pg h P L ps) (hQ : Q (some (.int (p_en ps i))) h c s) : bp_AM l G H0 (1, 21, ro, ro) M_Page_endOf h c s [.ref (P 0), .int i] Q := s_Page_endOf hP hQ
theorem s_Page_endN {ro : Bool} {i : Int32} {en : Nat} (hen : p_en ps i = nI en) (hP : Pg h P L ps) (hQ : Q (some (.int (nI en))) h c s) : bp_AM l G H0 (1, 21, ro, ro) M_Page_endOf h c s [.ref (P 0), .int i] Q := s_Page_endOf hP (by rw [← hen] at hQ; exact hQ)
theorem s_Page_startN {ro : Bool} {i : Int32} {st : Nat} (hst : p_st ps i = nI st) (hP : Pg h P L ps) (hQ : Q (some (.int (nI st))) h c s) : bp_AM l G H0 (1, 21, ro, ro) M_Page_startOf h c s [.ref (P 0), .int i] Q := s_Page_startOf hP (by rw [hst]; exact hQ)
set_option maxRecDepth 100000 in
set_option maxHeartbeats 4000000 in
theorem s_Page_startsRun {ro : Bool} {p i : Int32} (hP : Pg h P L ps) (hQ : Q (some (.int (if i = p_st ps p ∨ rg (L.map (fun q => q.2)) i ≠ rg (L.map (fun q => q.2)) (i - 1) then 1 else 0))) h c s) : bp_AM l G H0 (2, 42, ro, ro) M_Page_startsRun h c s [.ref (P 0), .int p, .int i] Q := by
  refine bp_of (ls := [some (.ref (P 0)), some (.int p), some (.int i)]) (by decide) dt_Page_startsRun (Nat.le_of_ble_eq_true rfl) (fun q hq => hq) ro ?_
  obtain ⟨k0, r0, r1, r2, r3, r4, sz, ⟨k1, l1⟩, ⟨k2, l2⟩, ⟨k3, l3⟩, hn, hj, hc, hl, lc, ll, hinj⟩ := id hP
  refine bp_iload_n (q := 1) 0 rfl rfl rfl rfl ?_
  refine bp_aload_n (q := 2) 1 rfl rfl rfl rfl ?_
  refine bp_iload_n (q := 3) 2 rfl rfl rfl rfl ?_
  refine bp_callV (q := 6) (ci := 2) 3 rfl rfl cw_Page_startOf lk_Page_58 rfl k0 wd812 wd813 rfl rfl (Nat.le_of_ble_eq_true rfl) ⟨Nat.le_of_ble_eq_true rfl, Nat.le_of_ble_eq_true rfl⟩ (s_Page_startOf (ro := ro) hP ?_)
  refine bp_icmp_eq (q := 9) (tgt := 30) 4 rfl rfl (by decide) (fun z6 => ?_) (fun z6 => ?_)
  · refine bp_iconst (v := 1) (q := 31) 16 rfl rfl (by decide) ?_
    refine bp_goto (tgt := 35) 17 rfl (by decide) ?_
    refine bp_iret 19 rfl rfl (by first | rfl | assumption) ⟨_, rfl, ?_⟩
    rw [if_pos (Or.inl z6)] at hQ
    exact hQ
  · refine bp_aload_n (q := 10) 5 rfl rfl rfl rfl ?_
    refine bp_getR (x := (P 6)) (q := 13) (ci := 2) (j := 4) 6 rfl rfl fl_Page_30_2 k0 rfl r4 ?_
    refine bp_iload_n (q := 14) 7 rfl rfl rfl rfl ?_
    refine bp_callV (q := 17) (ci := 1) 8 rfl rfl cw_Row_get lk_Page_44 rfl hl.1 wd438 wd439 rfl rfl (Nat.le_of_ble_eq_true rfl) ⟨Nat.le_of_ble_eq_true rfl, Nat.le_of_ble_eq_true rfl⟩ (s_Row_get (ro := ro) hl ?_)
    refine bp_aload_n (q := 18) 9 rfl rfl rfl rfl ?_
    refine bp_getR (x := (P 6)) (q := 21) (ci := 2) (j := 4) 10 rfl rfl fl_Page_30_2 k0 rfl r4 ?_
    refine bp_iload_n (q := 22) 11 rfl rfl rfl rfl ?_
    refine bp_iconst (v := 1) (q := 23) 12 rfl rfl (by decide) ?_
    refine bp_isub (q := 24) 13 rfl rfl ?_
    refine bp_callV (q := 27) (ci := 1) 14 rfl rfl cw_Row_get lk_Page_44 rfl hl.1 wd438 wd439 rfl rfl (Nat.le_of_ble_eq_true rfl) ⟨Nat.le_of_ble_eq_true rfl, Nat.le_of_ble_eq_true rfl⟩ (s_Row_get (ro := ro) hl ?_)
    refine bp_icmp_eq (q := 30) (tgt := 34) 15 rfl rfl (by decide) (fun z27 => ?_) (fun z27 => ?_)
    · refine bp_iconst (v := 0) (q := 35) 18 rfl rfl (by decide) ?_
      refine bp_iret 19 rfl rfl (by first | rfl | assumption) ⟨_, rfl, ?_⟩
      rw [if_neg (fun z => z.elim z6 (fun y => y z27))] at hQ
      exact hQ
    · refine bp_iconst (v := 1) (q := 31) 16 rfl rfl (by decide) ?_
      refine bp_goto (tgt := 35) 17 rfl (by decide) ?_
      refine bp_iret 19 rfl rfl (by first | rfl | assumption) ⟨_, rfl, ?_⟩
      rw [if_pos (Or.inr z27)] at hQ
      exact hQ
set_option maxRecDepth 100000 in
set_option maxHeartbeats 4000000 in
theorem s_Page_endsRun {ro : Bool} {p i : Int32} (hP : Pg h P L ps) (hQ : Q (some (.int (if i = p_en ps p - 1 ∨ rg (L.map (fun q => q.2)) i ≠ rg (L.map (fun q => q.2)) (i + 1) then 1 else 0))) h c s) : bp_AM l G H0 (2, 42, ro, ro) M_Page_endsRun h c s [.ref (P 0), .int p, .int i] Q := by
  refine bp_of (ls := [some (.ref (P 0)), some (.int p), some (.int i)]) (by decide) dt_Page_endsRun (Nat.le_of_ble_eq_true rfl) (fun q hq => hq) ro ?_
  obtain ⟨k0, r0, r1, r2, r3, r4, sz, ⟨k1, l1⟩, ⟨k2, l2⟩, ⟨k3, l3⟩, hn, hj, hc, hl, lc, ll, hinj⟩ := id hP
  refine bp_iload_n (q := 1) 0 rfl rfl rfl rfl ?_
  refine bp_aload_n (q := 2) 1 rfl rfl rfl rfl ?_
  refine bp_iload_n (q := 3) 2 rfl rfl rfl rfl ?_
  refine bp_callV (q := 6) (ci := 2) 3 rfl rfl cw_Page_endOf lk_Page_65 rfl k0 wd804 wd805 rfl rfl (Nat.le_of_ble_eq_true rfl) ⟨Nat.le_of_ble_eq_true rfl, Nat.le_of_ble_eq_true rfl⟩ (s_Page_enI (ro := ro) hP ?_)
  refine bp_iconst (v := 1) (q := 7) 4 rfl rfl (by decide) ?_
  refine bp_isub (q := 8) 5 rfl rfl ?_
  refine bp_icmp_eq (q := 11) (tgt := 32) 6 rfl rfl (by decide) (fun z8 => ?_) (fun z8 => ?_)
  · refine bp_iconst (v := 1) (q := 33) 18 rfl rfl (by decide) ?_
    refine bp_goto (tgt := 37) 19 rfl (by decide) ?_
    refine bp_iret 21 rfl rfl (by first | rfl | assumption) ⟨_, rfl, ?_⟩
    rw [if_pos (Or.inl z8)] at hQ
    exact hQ
  · refine bp_aload_n (q := 12) 7 rfl rfl rfl rfl ?_
    refine bp_getR (x := (P 6)) (q := 15) (ci := 2) (j := 4) 8 rfl rfl fl_Page_30_2 k0 rfl r4 ?_
    refine bp_iload_n (q := 16) 9 rfl rfl rfl rfl ?_
    refine bp_callV (q := 19) (ci := 1) 10 rfl rfl cw_Row_get lk_Page_44 rfl hl.1 wd438 wd439 rfl rfl (Nat.le_of_ble_eq_true rfl) ⟨Nat.le_of_ble_eq_true rfl, Nat.le_of_ble_eq_true rfl⟩ (s_Row_get (ro := ro) hl ?_)
    refine bp_aload_n (q := 20) 11 rfl rfl rfl rfl ?_
    refine bp_getR (x := (P 6)) (q := 23) (ci := 2) (j := 4) 12 rfl rfl fl_Page_30_2 k0 rfl r4 ?_
    refine bp_iload_n (q := 24) 13 rfl rfl rfl rfl ?_
    refine bp_iconst (v := 1) (q := 25) 14 rfl rfl (by decide) ?_
    refine bp_iadd (q := 26) 15 rfl rfl ?_
    refine bp_callV (q := 29) (ci := 1) 16 rfl rfl cw_Row_get lk_Page_44 rfl hl.1 wd438 wd439 rfl rfl (Nat.le_of_ble_eq_true rfl) ⟨Nat.le_of_ble_eq_true rfl, Nat.le_of_ble_eq_true rfl⟩ (s_Row_get (ro := ro) hl ?_)
    refine bp_icmp_eq (q := 32) (tgt := 36) 17 rfl rfl (by decide) (fun z29 => ?_) (fun z29 => ?_)
    · refine bp_iconst (v := 0) (q := 37) 20 rfl rfl (by decide) ?_
      refine bp_iret 21 rfl rfl (by first | rfl | assumption) ⟨_, rfl, ?_⟩
      rw [if_neg (fun z => z.elim z8 (fun y => y z29))] at hQ
      exact hQ
    · refine bp_iconst (v := 1) (q := 33) 18 rfl rfl (by decide) ?_
      refine bp_goto (tgt := 37) 19 rfl (by decide) ?_
      refine bp_iret 21 rfl rfl (by first | rfl | assumption) ⟨_, rfl, ?_⟩
      rw [if_pos (Or.inr z29)] at hQ
      exact hQ
theorem s_Page_startsN {ro : Bool} {p : Int32} {st k : Nat} (hb : lkB (lkL L)) (hst : p_st ps p = nI st) (h1 : st ≤ k) (h2 : k < (lkL L).length) (hP : Pg h P L ps) (hQ : Q (some (.int (bI (sr (lkL L) st k)))) h c s) : bp_AM l G H0 (2, 42, ro, ro) M_Page_startsRun h c s [.ref (P 0), .int p, .int (nI k)] Q := s_Page_startsRun hP (by rw [← sr_eq hb hst h1 h2] at hQ; exact hQ)
theorem s_Page_endsN {ro : Bool} {p : Int32} {en k : Nat} (hb : lkB (lkL L)) (hen : p_en ps p = nI en) (h1 : k < en) (h2 : en ≤ (lkL L).length) (hP : Pg h P L ps) (hQ : Q (some (.int (bI (er (lkL L) en k)))) h c s) : bp_AM l G H0 (2, 42, ro, ro) M_Page_endsRun h c s [.ref (P 0), .int p, .int (nI k)] Q := s_Page_endsRun hP (by rw [← er_eq hb hen h1 h2] at hQ; exact hQ)
set_option maxRecDepth 100000 in
set_option maxHeartbeats 4000000 in
theorem lp_Page_runsOf {ro : Bool} {p : Int32} {st en : Nat} (hb : lkB (lkL L)) (hst : p_st ps p = nI st) (hen : p_en ps p = nI en) (hel : en ≤ (lkL L).length) (hP : Pg h P L ps) (hbk : st < 1000000) :
    ∀ (n k cnt : Nat), en - k = n → (st ≤ k ∧ k < 1000000) → Q (some (.int (nI (cnt + rcn (lkL L) st n k)))) h c s → bp_A l G H0 (3, 64, ro, ro) M_Page_runsOf h c s 8 [some (.ref (P 0)), some (.int p), some (.int (nI cnt)), some (.int (nI k))] [] (fun o h' c' s' => ∃ v, o = .returned v ∧ Q v h' c' s') := by
  obtain ⟨k0, r0, r1, r2, r3, r4, sz, ⟨k1, l1⟩, ⟨k2, l2⟩, ⟨k3, l3⟩, hn, hj, hc, hl, lc, ll, hinj⟩ := id hP
  have hlb := hb.1
  intro n
  induction n with
  | zero =>
    intro k cnt hnk h1 hQ
    refine bp_iload_n (q := 9) 6 rfl rfl rfl rfl ?_
    refine bp_aload_n (q := 10) 7 rfl rfl rfl rfl ?_
    refine bp_iload_n (q := 11) 8 rfl rfl rfl rfl ?_
    refine bp_callV (q := 14) (ci := 2) 9 rfl rfl cw_Page_endOf lk_Page_65 rfl k0 wd804 wd805 rfl rfl (Nat.le_of_ble_eq_true rfl) ⟨Nat.le_of_ble_eq_true rfl, Nat.le_of_ble_eq_true rfl⟩ (s_Page_endN (ro := ro) hen hP ?_)
    refine bp_icmp_ge (q := 17) (tgt := 35) 10 rfl rfl (by decide) (fun z14 => ?_) (fun z14 => ?_)
    · refine bp_iload_n (q := 36) 19 rfl rfl rfl rfl ?_
      exact bp_iret 20 rfl rfl rfl ⟨_, rfl, hQ⟩
    · exact absurd (nI_le (by omega) (by omega)) z14
  | succ n ih =>
    intro k cnt hnk h1' hQ
    have h1 := h1'.1
    refine bp_iload_n (q := 9) 6 rfl rfl rfl rfl ?_
    refine bp_aload_n (q := 10) 7 rfl rfl rfl rfl ?_
    refine bp_iload_n (q := 11) 8 rfl rfl rfl rfl ?_
    refine bp_callV (q := 14) (ci := 2) 9 rfl rfl cw_Page_endOf lk_Page_65 rfl k0 wd804 wd805 rfl rfl (Nat.le_of_ble_eq_true rfl) ⟨Nat.le_of_ble_eq_true rfl, Nat.le_of_ble_eq_true rfl⟩ (s_Page_endN (ro := ro) hen hP ?_)
    refine bp_icmp_ge (q := 17) (tgt := 35) 10 rfl rfl (by decide) (fun z14 => ?_) (fun z14 => ?_)
    · exact absurd z14 (nI_ge (by omega) (by omega))
    · refine bp_aload_n (q := 18) 11 rfl rfl rfl rfl ?_
      refine bp_iload_n (q := 19) 12 rfl rfl rfl rfl ?_
      refine bp_iload_n (q := 20) 13 rfl rfl rfl rfl ?_
      refine bp_callV (q := 23) (ci := 2) 14 rfl rfl cw_Page_startsRun lk_Page_68 rfl k0 wd964 wd965 rfl rfl (Nat.le_of_ble_eq_true rfl) ⟨Nat.le_of_ble_eq_true rfl, Nat.le_of_ble_eq_true rfl⟩ (s_Page_startsN (ro := ro) hb hst h1 (by omega) hP ?_)
      refine bp_if_eq (q := 26) (tgt := 29) 15 rfl rfl (by decide) (fun z23 => ?_) (fun z23 => ?_)
      · refine bp_iinc (v := nI (k + 1)) (q := 32) 17 rfl rfl rfl (nI_1 k) (by decide) (bp_up3 rfl) ?_
        refine bp_goto (tgt := 8) 18 rfl (by decide) ?_
        have e := bI0.mp z23
        rw [rcn, e] at hQ
        exact ih (k + 1) cnt (by omega) (by omega) (by simpa using hQ)
      · refine bp_iinc (v := nI (cnt + 1)) (q := 29) 16 rfl rfl rfl (nI_1 cnt) (by decide) (bp_up2 rfl) ?_
        refine bp_iinc (v := nI (k + 1)) (q := 32) 17 rfl rfl rfl (nI_1 k) (by decide) (bp_up3 rfl) ?_
        refine bp_goto (tgt := 8) 18 rfl (by decide) ?_
        have e : sr (lkL L) st k = true := by cases hh : sr (lkL L) st k with | true => rfl | false => exact absurd (bI0.mpr hh) z23
        rw [rcn, e, if_pos rfl, ← Nat.add_assoc] at hQ
        exact ih (k + 1) (cnt + 1) (by omega) (by omega) hQ
set_option maxRecDepth 100000 in
set_option maxHeartbeats 4000000 in
theorem s_Page_runsOf {ro : Bool}  {p : Int32} {st en : Nat} (hb : lkB (lkL L)) (hst : p_st ps p = nI st) (hen : p_en ps p = nI en) (hel : en ≤ (lkL L).length) (hP : Pg h P L ps) (hbk : st < 1000000) (hQ : Q (some (.int (nI (rcn (lkL L) st (en - st) st)))) h c s) : bp_AM l G H0 (3, 64, ro, ro) M_Page_runsOf h c s [.ref (P 0), .int p] Q := by
  refine bp_of (ls := [some (.ref (P 0)), some (.int p), none, none]) (by decide) dt_Page_runsOf (Nat.le_of_ble_eq_true rfl) (fun q hq => hq) ro ?_
  obtain ⟨k0, r0, r1, r2, r3, r4, sz, ⟨k1, l1⟩, ⟨k2, l2⟩, ⟨k3, l3⟩, hn, hj, hc, hl, lc, ll, hinj⟩ := id hP
  refine bp_iconst (v := 0) (q := 1) 0 rfl rfl (by decide) ?_
  refine bp_istore_n (q := 2) 1 rfl rfl rfl (by decide) (bp_up2 rfl) ?_
  refine bp_aload_n (q := 3) 2 rfl rfl rfl rfl ?_
  refine bp_iload_n (q := 4) 3 rfl rfl rfl rfl ?_
  refine bp_callV (q := 7) (ci := 2) 4 rfl rfl cw_Page_startOf lk_Page_58 rfl k0 wd812 wd813 rfl rfl (Nat.le_of_ble_eq_true rfl) ⟨Nat.le_of_ble_eq_true rfl, Nat.le_of_ble_eq_true rfl⟩ (s_Page_startN (ro := ro) hst hP ?_)
  refine bp_istore_n (q := 8) 5 rfl rfl rfl (by decide) (bp_up3 rfl) ?_
  exact lp_Page_runsOf hb hst hen hel hP hbk (en - st) st 0 rfl ⟨Nat.le_refl _, hbk⟩ (by rw [Nat.zero_add]; exact hQ)
set_option maxRecDepth 100000 in
set_option maxHeartbeats 4000000 in
theorem lp_Page_firstOfRun {ro : Bool} {r : Int32} {p : Int32} {st en : Nat} (hb : lkB (lkL L)) (hst : p_st ps p = nI st) (hen : p_en ps p = nI en) (hel : en ≤ (lkL L).length) (hP : Pg h P L ps) (hbk : st < 1000000) :
    ∀ (n k cnt : Nat) (run : Int32), en - k = n → (st ≤ k ∧ k < 1000000) → run + 1 = nI cnt → Q (some (.int (fro (lkL L) st r n k cnt))) h c s → bp_A l G H0 (3, 64, ro, ro) M_Page_firstOfRun h c s 9 [some (.ref (P 0)), some (.int p), some (.int r), some (.int run), some (.int (nI k))] [] (fun o h' c' s' => ∃ v, o = .returned v ∧ Q v h' c' s') := by
  obtain ⟨k0, r0, r1, r2, r3, r4, sz, ⟨k1, l1⟩, ⟨k2, l2⟩, ⟨k3, l3⟩, hn, hj, hc, hl, lc, ll, hinj⟩ := id hP
  have hlb := hb.1
  intro n
  induction n with
  | zero =>
    intro k cnt run hnk h1 hrun hQ
    refine bp_iload (q := 11) 6 rfl rfl rfl ?_
    refine bp_aload_n (q := 12) 7 rfl rfl rfl rfl ?_
    refine bp_iload_n (q := 13) 8 rfl rfl rfl rfl ?_
    refine bp_callV (q := 16) (ci := 2) 9 rfl rfl cw_Page_endOf lk_Page_65 rfl k0 wd804 wd805 rfl rfl (Nat.le_of_ble_eq_true rfl) ⟨Nat.le_of_ble_eq_true rfl, Nat.le_of_ble_eq_true rfl⟩ (s_Page_endN (ro := ro) hen hP ?_)
    refine bp_icmp_ge (q := 19) (tgt := 46) 10 rfl rfl (by decide) (fun z16 => ?_) (fun z16 => ?_)
    · refine bp_iconst (v := -1) (q := 47) 24 rfl rfl (by decide) ?_
      exact bp_iret 25 rfl rfl rfl ⟨_, rfl, hQ⟩
    · exact absurd (nI_le (by omega) (by omega)) z16
  | succ n ih =>
    intro k cnt run hnk h1' hrun hQ
    have h1 := h1'.1
    refine bp_iload (q := 11) 6 rfl rfl rfl ?_
    refine bp_aload_n (q := 12) 7 rfl rfl rfl rfl ?_
    refine bp_iload_n (q := 13) 8 rfl rfl rfl rfl ?_
    refine bp_callV (q := 16) (ci := 2) 9 rfl rfl cw_Page_endOf lk_Page_65 rfl k0 wd804 wd805 rfl rfl (Nat.le_of_ble_eq_true rfl) ⟨Nat.le_of_ble_eq_true rfl, Nat.le_of_ble_eq_true rfl⟩ (s_Page_endN (ro := ro) hen hP ?_)
    refine bp_icmp_ge (q := 19) (tgt := 46) 10 rfl rfl (by decide) (fun z16 => ?_) (fun z16 => ?_)
    · exact absurd z16 (nI_ge (by omega) (by omega))
    · refine bp_aload_n (q := 20) 11 rfl rfl rfl rfl ?_
      refine bp_iload_n (q := 21) 12 rfl rfl rfl rfl ?_
      refine bp_iload (q := 23) 13 rfl rfl rfl ?_
      refine bp_callV (q := 26) (ci := 2) 14 rfl rfl cw_Page_startsRun lk_Page_68 rfl k0 wd964 wd965 rfl rfl (Nat.le_of_ble_eq_true rfl) ⟨Nat.le_of_ble_eq_true rfl, Nat.le_of_ble_eq_true rfl⟩ (s_Page_startsN (ro := ro) hb hst h1 (by omega) hP ?_)
      refine bp_if_eq (q := 29) (tgt := 40) 15 rfl rfl (by decide) (fun z26 => ?_) (fun z26 => ?_)
      · refine bp_iinc (v := nI (k + 1)) (q := 43) 22 rfl rfl rfl (nI_1 k) (by decide) (bp_up4 rfl) ?_
        refine bp_goto (tgt := 9) 23 rfl (by decide) ?_
        have e := bI0.mp z26
        rw [fro, e] at hQ
        exact ih (k + 1) cnt run (by omega) (by omega) hrun (by simpa using hQ)
      · refine bp_iinc (v := nI cnt) (q := 32) 16 rfl rfl rfl hrun (by decide) (bp_up3 rfl) ?_
        refine bp_iload_n (q := 33) 17 rfl rfl rfl rfl ?_
        refine bp_iload_n (q := 34) 18 rfl rfl rfl rfl ?_
        refine bp_icmp_ne (q := 37) (tgt := 40) 19 rfl rfl (by decide) (fun z34 => ?_) (fun z34 => ?_)
        · refine bp_iinc (v := nI (k + 1)) (q := 43) 22 rfl rfl rfl (nI_1 k) (by decide) (bp_up4 rfl) ?_
          refine bp_goto (tgt := 9) 23 rfl (by decide) ?_
          have e : sr (lkL L) st k = true := by cases hh : sr (lkL L) st k with | true => rfl | false => exact absurd (bI0.mpr hh) z26
          rw [fro, e, if_pos rfl, if_neg z34] at hQ
          exact ih (k + 1) (cnt + 1) _ (by omega) (by omega) (nI_1 cnt) hQ
        · refine bp_iload (q := 39) 20 rfl rfl rfl ?_
          refine bp_iret 21 rfl rfl rfl ⟨_, rfl, ?_⟩
          have e : sr (lkL L) st k = true := by cases hh : sr (lkL L) st k with | true => rfl | false => exact absurd (bI0.mpr hh) z26
          rw [fro, e, if_pos rfl, if_pos z34] at hQ
          exact hQ
set_option maxRecDepth 100000 in
set_option maxHeartbeats 4000000 in
theorem s_Page_firstOfRun {ro : Bool} {r : Int32} {p : Int32} {st en : Nat} (hb : lkB (lkL L)) (hst : p_st ps p = nI st) (hen : p_en ps p = nI en) (hel : en ≤ (lkL L).length) (hP : Pg h P L ps) (hbk : st < 1000000) (hQ : Q (some (.int (fro (lkL L) st r (en - st) st 0))) h c s) : bp_AM l G H0 (3, 64, ro, ro) M_Page_firstOfRun h c s [.ref (P 0), .int p, .int r] Q := by
  refine bp_of (ls := [some (.ref (P 0)), some (.int p), some (.int r), none, none]) (by decide) dt_Page_firstOfRun (Nat.le_of_ble_eq_true rfl) (fun q hq => hq) ro ?_
  obtain ⟨k0, r0, r1, r2, r3, r4, sz, ⟨k1, l1⟩, ⟨k2, l2⟩, ⟨k3, l3⟩, hn, hj, hc, hl, lc, ll, hinj⟩ := id hP
  refine bp_iconst (v := -1) (q := 1) 0 rfl rfl (by decide) ?_
  refine bp_istore_n (q := 2) 1 rfl rfl rfl (by decide) (bp_up3 rfl) ?_
  refine bp_aload_n (q := 3) 2 rfl rfl rfl rfl ?_
  refine bp_iload_n (q := 4) 3 rfl rfl rfl rfl ?_
  refine bp_callV (q := 7) (ci := 2) 4 rfl rfl cw_Page_startOf lk_Page_58 rfl k0 wd812 wd813 rfl rfl (Nat.le_of_ble_eq_true rfl) ⟨Nat.le_of_ble_eq_true rfl, Nat.le_of_ble_eq_true rfl⟩ (s_Page_startN (ro := ro) hst hP ?_)
  refine bp_istore (q := 9) 5 rfl rfl (by decide) (bp_up4 rfl) ?_
  exact lp_Page_firstOfRun hb hst hen hel hP hbk (en - st) st 0 _ rfl ⟨Nat.le_refl _, hbk⟩ rfl hQ
set_option maxRecDepth 100000 in
set_option maxHeartbeats 4000000 in
theorem lp_Page_runLength {ro : Bool} {p : Int32} {f en : Nat} (hb : lkB (lkL L)) (hen : p_en ps p = nI en) (hel : en ≤ (lkL L).length) (hf : f < en) (hP : Pg h P L ps) :
    ∀ (n m : Nat), en - (f + m) = n ∧ m < 1000000 → Q (some (.int (nI (rln (lkL L) f n m)))) h c s → bp_A l G H0 (2, 42, ro, ro) M_Page_runLength h c s 2 [some (.ref (P 0)), some (.int p), some (.int (nI f)), some (.int (nI m))] [] (fun o h' c' s' => ∃ v, o = .returned v ∧ Q v h' c' s') := by
  obtain ⟨k0, r0, r1, r2, r3, r4, sz, ⟨k1, l1⟩, ⟨k2, l2⟩, ⟨k3, l3⟩, hn, hj, hc, hl, lc, ll, hinj⟩ := id hP
  have hlb := hb.1
  intro n
  induction n with
  | zero =>
    intro m hnm hQ
    refine bp_iload_n (q := 3) 2 rfl rfl rfl rfl ?_
    refine bp_iload_n (q := 4) 3 rfl rfl rfl rfl ?_
    refine bp_iadd (q := 5) 4 rfl rfl ?_
    refine bp_aload_n (q := 6) 5 rfl rfl rfl rfl ?_
    refine bp_iload_n (q := 7) 6 rfl rfl rfl rfl ?_
    refine bp_callV (q := 10) (ci := 2) 7 rfl rfl cw_Page_endOf lk_Page_65 rfl k0 wd804 wd805 rfl rfl (Nat.le_of_ble_eq_true rfl) ⟨Nat.le_of_ble_eq_true rfl, Nat.le_of_ble_eq_true rfl⟩ (s_Page_endN (ro := ro) hen hP ?_)
    refine bp_icmp_ge (q := 13) (tgt := 40) 8 rfl rfl (by decide) (fun z10 => ?_) (fun z10 => ?_)
    · refine bp_iload_n (q := 41) 22 rfl rfl rfl rfl ?_
      exact bp_iret 23 rfl rfl rfl ⟨_, rfl, hQ⟩
    · rw [nI_add] at z10
      exact absurd (nI_le (by omega) (by omega)) z10
  | succ n ih =>
    intro m hnm hQ
    have eg1 : rg (L.map (fun q => q.2)) (nI f + nI m) = nI ((lkL L).getD (f + m) 0) := by rw [nI_add]; exact rg_nI (xs := lkL L) (by omega) (by omega)
    have eg2 : rg (L.map (fun q => q.2)) (nI f) = nI ((lkL L).getD f 0) := rg_nI (xs := lkL L) (by omega) (by omega)
    refine bp_iload_n (q := 3) 2 rfl rfl rfl rfl ?_
    refine bp_iload_n (q := 4) 3 rfl rfl rfl rfl ?_
    refine bp_iadd (q := 5) 4 rfl rfl ?_
    refine bp_aload_n (q := 6) 5 rfl rfl rfl rfl ?_
    refine bp_iload_n (q := 7) 6 rfl rfl rfl rfl ?_
    refine bp_callV (q := 10) (ci := 2) 7 rfl rfl cw_Page_endOf lk_Page_65 rfl k0 wd804 wd805 rfl rfl (Nat.le_of_ble_eq_true rfl) ⟨Nat.le_of_ble_eq_true rfl, Nat.le_of_ble_eq_true rfl⟩ (s_Page_endN (ro := ro) hen hP ?_)
    refine bp_icmp_ge (q := 13) (tgt := 40) 8 rfl rfl (by decide) (fun z10 => ?_) (fun z10 => ?_)
    · rw [nI_add] at z10
      exact absurd z10 (nI_ge (by omega) (by omega))
    · refine bp_aload_n (q := 14) 9 rfl rfl rfl rfl ?_
      refine bp_getR (x := (P 6)) (q := 17) (ci := 2) (j := 4) 10 rfl rfl fl_Page_30_2 k0 rfl r4 ?_
      refine bp_iload_n (q := 18) 11 rfl rfl rfl rfl ?_
      refine bp_iload_n (q := 19) 12 rfl rfl rfl rfl ?_
      refine bp_iadd (q := 20) 13 rfl rfl ?_
      refine bp_callV (q := 23) (ci := 1) 14 rfl rfl cw_Row_get lk_Page_44 rfl hl.1 wd438 wd439 rfl rfl (Nat.le_of_ble_eq_true rfl) ⟨Nat.le_of_ble_eq_true rfl, Nat.le_of_ble_eq_true rfl⟩ (s_Row_get (ro := ro) hl ?_)
      refine bp_aload_n (q := 24) 15 rfl rfl rfl rfl ?_
      refine bp_getR (x := (P 6)) (q := 27) (ci := 2) (j := 4) 16 rfl rfl fl_Page_30_2 k0 rfl r4 ?_
      refine bp_iload_n (q := 28) 17 rfl rfl rfl rfl ?_
      refine bp_callV (q := 31) (ci := 1) 18 rfl rfl cw_Row_get lk_Page_44 rfl hl.1 wd438 wd439 rfl rfl (Nat.le_of_ble_eq_true rfl) ⟨Nat.le_of_ble_eq_true rfl, Nat.le_of_ble_eq_true rfl⟩ (s_Row_get (ro := ro) hl ?_)
      refine bp_icmp_ne (q := 34) (tgt := 40) 19 rfl rfl (by decide) (fun z31 => ?_) (fun z31 => ?_)
      · refine bp_iload_n (q := 41) 22 rfl rfl rfl rfl ?_
        refine bp_iret 23 rfl rfl rfl ⟨_, rfl, ?_⟩
        rw [eg1, eg2] at z31
        rw [rln, if_neg (fun e => z31 (by rw [e]))] at hQ
        exact hQ
      · refine bp_iinc (v := nI (m + 1)) (q := 37) 20 rfl rfl rfl (nI_1 m) (by decide) (bp_up3 rfl) ?_
        refine bp_goto (tgt := 2) 21 rfl (by decide) ?_
        rw [eg1, eg2] at z31
        have e := (nI_eq (by have := hb.2 (f + m) (by omega); omega) (by have := hb.2 f (by omega); omega)).mp z31
        rw [rln, if_pos e] at hQ
        exact ih (m + 1) (by omega) hQ
set_option maxRecDepth 100000 in
set_option maxHeartbeats 4000000 in
theorem s_Page_runLength {ro : Bool}  {p : Int32} {f en : Nat} (hb : lkB (lkL L)) (hen : p_en ps p = nI en) (hel : en ≤ (lkL L).length) (hf : f < en) (hP : Pg h P L ps) (hQ : Q (some (.int (nI (rln (lkL L) f (en - (f + 1)) 1)))) h c s) : bp_AM l G H0 (2, 42, ro, ro) M_Page_runLength h c s [.ref (P 0), .int p, .int (nI f)] Q := by
  refine bp_of (ls := [some (.ref (P 0)), some (.int p), some (.int (nI f)), none]) (by decide) dt_Page_runLength (Nat.le_of_ble_eq_true rfl) (fun q hq => hq) ro ?_
  obtain ⟨k0, r0, r1, r2, r3, r4, sz, ⟨k1, l1⟩, ⟨k2, l2⟩, ⟨k3, l3⟩, hn, hj, hc, hl, lc, ll, hinj⟩ := id hP
  refine bp_iconst (v := 1) (q := 1) 0 rfl rfl (by decide) ?_
  refine bp_istore_n (q := 2) 1 rfl rfl rfl (by decide) (bp_up3 rfl) ?_
  exact lp_Page_runLength hb hen hel hf hP (en - (f + 1)) 1 ⟨rfl, by decide⟩ hQ
set_option maxRecDepth 100000 in
set_option maxHeartbeats 4000000 in
theorem s_Page_hasLoose {ro : Bool}  (hP : Pg h P L ps) (hQ : Q (some (.int (if nI L.length ≤ p_st ps (nI ps.length) then 0 else 1))) h c s) : bp_AM l G H0 (2, 42, ro, ro) M_Page_hasLooseLetters h c s [.ref (P 0)] Q := by
  refine bp_of (ls := [some (.ref (P 0))]) (by decide) dt_Page_hasLooseLetters (Nat.le_of_ble_eq_true rfl) (fun q hq => hq) ro ?_
  obtain ⟨k0, r0, r1, r2, r3, r4, sz, ⟨k1, l1⟩, ⟨k2, l2⟩, ⟨k3, l3⟩, hn, hj, hc, hl, lc, ll, hinj⟩ := id hP
  refine bp_aload_n (q := 1) 0 rfl rfl rfl rfl ?_
  refine bp_getR (x := (P 4)) (q := 4) (ci := 2) (j := 3) 1 rfl rfl fl_Page_26_2 k0 rfl r3 ?_
  refine bp_callV (q := 7) (ci := 1) 2 rfl rfl cw_Row_size lk_Page_37 rfl hc.1 wd455 wd456 rfl rfl (Nat.le_of_ble_eq_true rfl) ⟨Nat.le_of_ble_eq_true rfl, Nat.le_of_ble_eq_true rfl⟩ (s_Row_size (ro := ro) hc ?_)
  refine bp_aload_n (q := 8) 3 rfl rfl rfl rfl ?_
  refine bp_aload_n (q := 9) 4 rfl rfl rfl rfl ?_
  refine bp_getI (q := 12) (ci := 2) (j := 5) 5 rfl rfl fl_Page_33_2 k0 rfl ?_
  refine bp_callV (q := 15) (ci := 2) 6 rfl rfl cw_Page_startOf lk_Page_58 rfl k0 wd812 wd813 rfl rfl (Nat.le_of_ble_eq_true rfl) ⟨Nat.le_of_ble_eq_true rfl, Nat.le_of_ble_eq_true rfl⟩ (s_Page_startOf (ro := ro) hP ?_)
  refine bp_icmp_le (q := 18) (tgt := 22) 7 rfl rfl (by decide) (fun z15 => ?_) (fun z15 => ?_)
  · refine bp_iconst (v := 0) (q := 23) 10 rfl rfl (by decide) ?_
    refine bp_iret 11 rfl rfl (by first | rfl | assumption) ⟨_, rfl, ?_⟩
    rw [sz, List.length_map] at z15
    rw [if_pos z15] at hQ
    exact hQ
  · refine bp_iconst (v := 1) (q := 19) 8 rfl rfl (by decide) ?_
    refine bp_goto (tgt := 23) 9 rfl (by decide) ?_
    refine bp_iret 11 rfl rfl (by first | rfl | assumption) ⟨_, rfl, ?_⟩
    rw [sz, List.length_map] at z15
    rw [if_neg z15] at hQ
    exact hQ
set_option maxRecDepth 100000 in
set_option maxHeartbeats 4000000 in
theorem s_Page_latestLook {ro : Bool}  (hP : Pg h P L ps) (hQ : Q (some (.int (if p_en ps (nI ps.length - 1) ≤ p_st ps (nI ps.length - 1) then -1 else rg (L.map (fun q => q.2)) (p_en ps (nI ps.length - 1) - 1)))) h c s) : bp_AM l G H0 (2, 42, ro, ro) M_Page_latestLook h c s [.ref (P 0)] Q := by
  refine bp_of (ls := [some (.ref (P 0))]) (by decide) dt_Page_latestLook (Nat.le_of_ble_eq_true rfl) (fun q hq => hq) ro ?_
  obtain ⟨k0, r0, r1, r2, r3, r4, sz, ⟨k1, l1⟩, ⟨k2, l2⟩, ⟨k3, l3⟩, hn, hj, hc, hl, lc, ll, hinj⟩ := id hP
  refine bp_aload_n (q := 1) 0 rfl rfl rfl rfl ?_
  refine bp_aload_n (q := 2) 1 rfl rfl rfl rfl ?_
  refine bp_getI (q := 5) (ci := 2) (j := 5) 2 rfl rfl fl_Page_33_2 k0 rfl ?_
  refine bp_iconst (v := 1) (q := 6) 3 rfl rfl (by decide) ?_
  refine bp_isub (q := 7) 4 rfl rfl ?_
  refine bp_callV (q := 10) (ci := 2) 5 rfl rfl cw_Page_endOf lk_Page_65 rfl k0 wd804 wd805 rfl rfl (Nat.le_of_ble_eq_true rfl) ⟨Nat.le_of_ble_eq_true rfl, Nat.le_of_ble_eq_true rfl⟩ (s_Page_enI (ro := ro) hP ?_)
  refine bp_aload_n (q := 11) 6 rfl rfl rfl rfl ?_
  refine bp_aload_n (q := 12) 7 rfl rfl rfl rfl ?_
  refine bp_getI (q := 15) (ci := 2) (j := 5) 8 rfl rfl fl_Page_33_2 k0 rfl ?_
  refine bp_iconst (v := 1) (q := 16) 9 rfl rfl (by decide) ?_
  refine bp_isub (q := 17) 10 rfl rfl ?_
  refine bp_callV (q := 20) (ci := 2) 11 rfl rfl cw_Page_startOf lk_Page_58 rfl k0 wd812 wd813 rfl rfl (Nat.le_of_ble_eq_true rfl) ⟨Nat.le_of_ble_eq_true rfl, Nat.le_of_ble_eq_true rfl⟩ (s_Page_startOf (ro := ro) hP ?_)
  refine bp_icmp_le (q := 23) (tgt := 45) 12 rfl rfl (by decide) (fun z20 => ?_) (fun z20 => ?_)
  · refine bp_iconst (v := -1) (q := 46) 25 rfl rfl (by decide) ?_
    refine bp_iret 26 rfl rfl rfl ⟨_, rfl, ?_⟩
    rw [sz] at z20
    rw [if_pos z20] at hQ
    exact hQ
  · refine bp_aload_n (q := 24) 13 rfl rfl rfl rfl ?_
    refine bp_getR (x := (P 6)) (q := 27) (ci := 2) (j := 4) 14 rfl rfl fl_Page_30_2 k0 rfl r4 ?_
    refine bp_aload_n (q := 28) 15 rfl rfl rfl rfl ?_
    refine bp_aload_n (q := 29) 16 rfl rfl rfl rfl ?_
    refine bp_getI (q := 32) (ci := 2) (j := 5) 17 rfl rfl fl_Page_33_2 k0 rfl ?_
    refine bp_iconst (v := 1) (q := 33) 18 rfl rfl (by decide) ?_
    refine bp_isub (q := 34) 19 rfl rfl ?_
    refine bp_callV (q := 37) (ci := 2) 20 rfl rfl cw_Page_endOf lk_Page_65 rfl k0 wd804 wd805 rfl rfl (Nat.le_of_ble_eq_true rfl) ⟨Nat.le_of_ble_eq_true rfl, Nat.le_of_ble_eq_true rfl⟩ (s_Page_enI (ro := ro) hP ?_)
    refine bp_iconst (v := 1) (q := 38) 21 rfl rfl (by decide) ?_
    refine bp_isub (q := 39) 22 rfl rfl ?_
    refine bp_callV (q := 42) (ci := 1) 23 rfl rfl cw_Row_get lk_Page_44 rfl hl.1 wd438 wd439 rfl rfl (Nat.le_of_ble_eq_true rfl) ⟨Nat.le_of_ble_eq_true rfl, Nat.le_of_ble_eq_true rfl⟩ (s_Row_get (ro := ro) hl ?_)
    refine bp_goto (tgt := 46) 24 rfl (by decide) ?_
    refine bp_iret 26 rfl rfl rfl ⟨_, rfl, ?_⟩
    rw [sz] at z20
    rw [if_neg z20] at hQ
    rw [sz]
    exact hQ
end PAGE3
