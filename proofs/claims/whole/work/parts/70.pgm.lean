/-! the reference's page against the class's: which letters a paragraph has -/
def mono (ps : List (Nat × Nat × Nat)) : Prop := ∀ j, j < ps.length → pst ps j ≤ p_e ps j
theorem pst_s (ps : List (Nat × Nat × Nat)) (j : Nat) : pst ps (j + 1) = p_e ps j := by
  unfold pst
  rw [if_neg (Nat.succ_ne_zero j)]; rfl
theorem mono.le {ps : List (Nat × Nat × Nat)} (h : mono ps) : ∀ (n i : Nat), i + n ≤ ps.length → pst ps i ≤ pst ps (i + n)
  | 0, i, _ => Nat.le_refl _
  | n + 1, i, hj => by
    have q := mono.le h n i (by omega)
    have r := h (i + n) (by omega)
    rw [← Nat.add_assoc, pst_s]
    omega
theorem mono.init {qs : List (Nat × Nat × Nat)} {q : Nat × Nat × Nat} (h : mono (qs ++ [q])) : mono qs := fun j hj => by
  have a := h j (by rw [List.length_append]; omega)
  rw [pst_sn (by omega)] at a
  unfold p_e at a ⊢
  rw [p_sn hj] at a
  exact a
theorem mono.mem {ps : List (Nat × Nat × Nat)} (h : mono ps) : ∀ q ∈ ps, q.2.2 ≤ pst ps ps.length := fun q hq => by
  obtain ⟨j, hj, e⟩ := List.getElem_of_mem hq
  have a : p_e ps j = q.2.2 := by
    unfold p_e
    rw [List.getD_eq_getElem?_getD, List.getElem?_eq_getElem hj, ← e]; rfl
  rw [← a, ← pst_s]
  have := h.le (ps.length - (j + 1)) (j + 1) (by omega)
  rw [show j + 1 + (ps.length - (j + 1)) = ps.length from by omega] at this
  exact this
theorem pIx_iff : ∀ (n : Nat) (ps : List (Nat × Nat × Nat)), ps.length = n → mono ps → ∀ k p, p ≤ n → (p ≤ pIx ps k ↔ pst ps p ≤ k)
  | 0, ps, hn, _, k, p, hp => by
    have e : p = 0 := by omega
    subst e
    exact ⟨fun _ => Nat.zero_le _, fun _ => Nat.zero_le _⟩
  | n + 1, ps, hn, hm, k, p, hp => by
    rcases nil_or_snoc ps with e | ⟨qs, q, e⟩
    · rw [e] at hn; cases hn
    subst e
    have hl : qs.length = n := by rw [List.length_append] at hn; simpa using hn
    have hall := hm.mem
    rw [pst_last] at hall
    by_cases hq : q.2.2 ≤ k
    · have e : pIx (qs ++ [q]) k = (qs ++ [q]).length := pIx_all (fun x hx => Nat.le_trans (hall x hx) hq)
      rw [e, hn]
      refine ⟨fun _ => ?_, fun _ => hp⟩
      have a := hm.le (n + 1 - p) p (by omega)
      rw [show p + (n + 1 - p) = (qs ++ [q]).length from by omega, pst_last] at a
      omega
    · rw [pIx_sn, if_neg hq, Nat.add_zero]
      by_cases hpn : p ≤ n
      · rw [pst_sn (by omega)]
        exact pIx_iff n qs hl hm.init k p hpn
      · have e : p = (qs ++ [q]).length := by omega
        have a := pIx_le qs k
        refine ⟨fun z => by omega, fun z => ?_⟩
        rw [e, pst_last] at z
        exact absurd z hq
theorem okP.mono {L : List (Nat × Nat)} {ps : List (Nat × Nat × Nat)} (h : okP L ps) : mono ps := fun j hj => (h.2.2.1 j hj).2.2.2
section PGM
variable {L : List (Nat × Nat)} {ps : List (Nat × Nat × Nat)} {p k : Nat}
theorem pIx_eq (h : okP L ps) (hp : p < ps.length) : pIx ps k = p ↔ pst ps p ≤ k ∧ k < p_e ps p := by
  have a := pIx_iff ps.length ps rfl h.mono k p (by omega)
  have b := pIx_iff ps.length ps rfl h.mono k (p + 1) (by omega)
  rw [pst_s] at b
  constructor
  · intro e
    exact ⟨a.mp (by omega), Nat.not_le.mp (fun z => by have := b.mpr z; omega)⟩
  · intro ⟨h1, h2⟩
    have := a.mpr h1
    have := mt b.mp (Nat.not_le.mpr h2)
    omega
theorem fR_sr (h : okP L ps) (hp : p < ps.length) (h1 : pst ps p ≤ k) (h2 : k < p_e ps p) : fR L ps k = sr (lkL L) (pst ps p) k := by
  have e := (pIx_eq h hp).mpr ⟨h1, h2⟩
  unfold fR sr
  by_cases z : k = pst ps p
  · rw [decide_eq_true z]
    by_cases z0 : k = 0
    · rw [decide_eq_true z0]; rfl
    · have q : pIx ps (k - 1) ≠ pIx ps k := fun q => by
        rw [e] at q
        have := ((pIx_eq h hp).mp q).1
        omega
      rw [decide_eq_true q]; simp
  · have q : pIx ps (k - 1) = pIx ps k := by rw [e]; exact (pIx_eq h hp).mpr ⟨by omega, by omega⟩
    rw [decide_eq_false z, decide_eq_false (show ¬ k = 0 by omega), decide_eq_false (show ¬ pIx ps (k - 1) ≠ pIx ps k from fun w => w q)]
    simp only [Bool.false_or]
    exact decide_eq_decide.mpr ⟨fun w x => w x.symm, fun w x => w x.symm⟩
theorem lR_er (h : okP L ps) (hp : p < ps.length) (h1 : pst ps p ≤ k) (h2 : k < p_e ps p) : lR L ps k = er (lkL L) (p_e ps p) k := by
  have he := (h.2.2.1 p hp).2.2.1
  unfold lR er
  by_cases z : k + 1 = p_e ps p
  · rw [decide_eq_true z]
    by_cases z0 : k + 1 = L.length
    · rw [decide_eq_true z0]; rfl
    · have q : pIx ps k ≠ pIx ps (k + 1) := fun q => by
        rw [(pIx_eq h hp).mpr ⟨h1, h2⟩] at q
        have := ((pIx_eq h hp).mp q.symm).2
        omega
      unfold fR
      rw [show k + 1 - 1 = k from rfl, decide_eq_true q]; simp
  · rw [decide_eq_false z, decide_eq_false (show ¬ k + 1 = L.length by omega), fR_sr h hp (by omega) (by omega)]
    unfold sr
    rw [decide_eq_false (show ¬ k + 1 = pst ps p by omega), show k + 1 - 1 = k from rfl]
    simp only [Bool.false_or]
    exact decide_eq_decide.mpr ⟨fun w x => w x.symm, fun w x => w x.symm⟩
/-- counts over all letters are counts over the paragraph -/
theorem mrc_rcn (h : okP L ps) (hp : p < ps.length) : ∀ (m k : Nat), m + k = L.length → mrc L ps p m k = rcn (lkL L) (pst ps p) (p_e ps p - max k (pst ps p)) (max k (pst ps p))
  | 0, k, hm => by
    have he := (h.2.2.1 p hp).2.2.1
    rw [show p_e ps p - max k (pst ps p) = 0 from by omega]
    rfl
  | m + 1, k, hm => by
    rw [mrc, mrc_rcn h hp m (k + 1) (by omega)]
    have ht := (h.2.2.1 p hp).2.2.2
    by_cases h1 : pst ps p ≤ k
    · rw [Nat.max_eq_left h1, Nat.max_eq_left (show pst ps p ≤ k + 1 by omega)]
      by_cases h2 : k < p_e ps p
      · obtain ⟨d, hd⟩ : ∃ d, p_e ps p - k = d + 1 := ⟨p_e ps p - k - 1, by omega⟩
        rw [hd, show p_e ps p - (k + 1) = d from by omega, rcn, fR_sr h hp h1 h2]
        congr 1
        by_cases q : sr (lkL L) (pst ps p) k = true
        · rw [if_pos ⟨(pIx_eq h hp).mpr ⟨h1, h2⟩, q⟩, if_pos q]
        · rw [if_neg (fun x => q x.2), if_neg q]
      · rw [if_neg (fun x => h2 ((pIx_eq h hp).mp x.1).2), show p_e ps p - (k + 1) = 0 from by omega, show p_e ps p - k = 0 from by omega]
        rfl
    · rw [if_neg (fun x => h1 ((pIx_eq h hp).mp x.1).1), Nat.max_eq_right (show k + 1 ≤ pst ps p by omega), Nat.max_eq_right (show k ≤ pst ps p by omega), Nat.zero_add]
theorem mlc_n (h : okP L ps) (hp : p < ps.length) : ∀ (m k : Nat), m + k = L.length → mlc ps p m k = p_e ps p - max k (pst ps p)
  | 0, k, hm => by
    have he := (h.2.2.1 p hp).2.2.1
    rw [mlc]
    omega
  | m + 1, k, hm => by
    rw [mlc, mlc_n h hp m (k + 1) (by omega)]
    have ht := (h.2.2.1 p hp).2.2.2
    by_cases h1 : pst ps p ≤ k ∧ k < p_e ps p
    · rw [if_pos ((pIx_eq h hp).mpr h1)]
      omega
    · rw [if_neg (fun x => h1 ((pIx_eq h hp).mp x))]
      omega
theorem mra_fro (h : okP L ps) (hp : p < ps.length) {r : Nat} (hr : r < 2 ^ 31) : ∀ (m k q : Nat), m + k = L.length → q ≤ r → mra L ps p m k q = fro (lkL L) (pst ps p) (nI r) (p_e ps p - max k (pst ps p)) (max k (pst ps p)) (r - q)
  | 0, k, q, hm, hq => by
    have he := (h.2.2.1 p hp).2.2.1
    rw [show p_e ps p - max k (pst ps p) = 0 from by omega]
    rfl
  | m + 1, k, q, hm, hq => by
    rw [mra]
    have ht := (h.2.2.1 p hp).2.2.2
    by_cases h1 : pst ps p ≤ k
    · by_cases h2 : k < p_e ps p
      · obtain ⟨d, hd⟩ : ∃ d, p_e ps p - k = d + 1 := ⟨p_e ps p - k - 1, by omega⟩
        rw [Nat.max_eq_left h1, hd, fro, fR_sr h hp h1 h2]
        have e1 : p_e ps p - max (k + 1) (pst ps p) = d := by omega
        have e2 : max (k + 1) (pst ps p) = k + 1 := by omega
        by_cases z : sr (lkL L) (pst ps p) k = true
        · rw [if_pos ⟨(pIx_eq h hp).mpr ⟨h1, h2⟩, z⟩, if_pos z]
          by_cases y : q = 0
          · rw [if_pos y, if_pos (by rw [y]; rfl)]
          · rw [if_neg y, if_neg (fun x => y (by have := (nI_eq (by omega) hr).mp x; omega)), mra_fro h hp hr m (k + 1) (q - 1) (by omega) (by omega), e1, e2, show r - (q - 1) = r - q + 1 from by omega]
        · rw [if_neg (fun x => z x.2), if_neg z, mra_fro h hp hr m (k + 1) q (by omega) hq, e1, e2]
      · rw [if_neg (fun x => h2 ((pIx_eq h hp).mp x.1).2), mra_fro h hp hr m (k + 1) q (by omega) hq, show p_e ps p - max (k + 1) (pst ps p) = 0 from by omega, show p_e ps p - max k (pst ps p) = 0 from by omega]
        rfl
    · rw [if_neg (fun x => h1 ((pIx_eq h hp).mp x.1).1), mra_fro h hp hr m (k + 1) q (by omega) hq, Nat.max_eq_right (show k + 1 ≤ pst ps p by omega), Nat.max_eq_right (show k ≤ pst ps p by omega)]
theorem mpV_paV (h : okP L ps) (hp : p < ps.length) (w : Nat) : mpV L ps p w = paV L ps p w := by
  unfold mpV paV
  rw [mrc_rcn h hp L.length 0 rfl, mlc_n h hp L.length 0 rfl, Nat.max_eq_right (Nat.zero_le _)]
/-- a run's length -/
theorem mle_rln (h : okP L ps) (hp : p < ps.length) {f : Nat} (h1 : pst ps p ≤ f) : ∀ (n m : Nat), 1 ≤ m → f + m + n = L.length → f + m ≤ p_e ps p → (lkL L).getD (f + m - 1) 0 = (lkL L).getD f 0 → mle L ps n (f + m - 1) + 1 - f = rln (lkL L) f (p_e ps p - (f + m)) m
  | 0, m, h0, hn, he, _ => by
    rw [mle, show p_e ps p - (f + m) = 0 from by have := (h.2.2.1 p hp).2.2.1; omega, rln]
    omega
  | n + 1, m, h0, hn, he, hlk => by
    rw [mle, lR_er h hp (by omega) (by omega)]
    unfold er
    rw [show f + m - 1 + 1 = f + m from by omega]
    by_cases z : f + m = p_e ps p
    · rw [decide_eq_true z, Bool.true_or, if_pos rfl, show p_e ps p - (f + m) = 0 from by omega, rln]
      omega
    · rw [decide_eq_false z, Bool.false_or]
      obtain ⟨d, hd⟩ : ∃ d, p_e ps p - (f + m) = d + 1 := ⟨p_e ps p - (f + m) - 1, by omega⟩
      rw [hd, rln]
      by_cases y : (lkL L).getD (f + m) 0 = (lkL L).getD f 0
      · rw [if_neg (by rw [hlk, y]; simp), if_pos y, show f + m = f + (m + 1) - 1 from by omega, mle_rln h hp h1 n (m + 1) (by omega) (by omega) (by omega) (by rw [show f + (m + 1) - 1 = f + m from by omega]; exact y), show p_e ps p - (f + (m + 1)) = d from by omega]
      · rw [if_pos (by rw [hlk]; simpa using fun x => y x.symm), if_neg y]
        omega
theorem mrV_ruV (h : okP L ps) (hp : p < ps.length) (hk : pIx ps k = p) (w : Nat) : mrV L ps k w = ruV L ps p k w := by
  have q := (pIx_eq h hp).mp hk
  have he := (h.2.2.1 p hp).2.2.1
  have e := mle_rln h hp q.1 (L.length - 1 - k) 1 (Nat.le_refl _) (by omega) (by omega) rfl
  unfold mrV ruV
  rw [show k + 1 - 1 = k from rfl] at e
  rw [e]
/-- the page as it is written -/
theorem mrun_wrun {fS fL fE : Nat → List Nat} (h : okP L ps) (hp : p < ps.length) : ∀ (m k : Nat), m + k = L.length → mrun fS fL fE L ps p m k = wrun fS fL fE L (pst ps p) (p_e ps p) (p_e ps p - max k (pst ps p)) (max k (pst ps p))
  | 0, k, hm => by
    have he := (h.2.2.1 p hp).2.2.1
    rw [show p_e ps p - max k (pst ps p) = 0 from by omega]
    rfl
  | m + 1, k, hm => by
    rw [mrun, mrun_wrun h hp m (k + 1) (by omega)]
    have ht := (h.2.2.1 p hp).2.2.2
    unfold mk1
    by_cases h1 : pst ps p ≤ k
    · by_cases h2 : k < p_e ps p
      · obtain ⟨d, hd⟩ : ∃ d, p_e ps p - k = d + 1 := ⟨p_e ps p - k - 1, by omega⟩
        rw [Nat.max_eq_left h1, hd, wrun, show p_e ps p - max (k + 1) (pst ps p) = d from by omega, show max (k + 1) (pst ps p) = k + 1 from by omega, if_pos ((pIx_eq h hp).mpr ⟨h1, h2⟩), fR_sr h hp h1 h2, lR_er h hp h1 h2]
        rfl
      · rw [if_neg (fun x => h2 ((pIx_eq h hp).mp x).2), show p_e ps p - max (k + 1) (pst ps p) = 0 from by omega, show p_e ps p - max k (pst ps p) = 0 from by omega]
        rfl
    · rw [if_neg (fun x => h1 ((pIx_eq h hp).mp x).1), Nat.max_eq_right (show k + 1 ≤ pst ps p by omega), Nat.max_eq_right (show k ≤ pst ps p by omega)]
      rfl
theorem mpag_wpag {fP : Nat → Nat → List Nat} {fS fL fE : Nat → List Nat} {fN : List Nat} (h : okP L ps) : ∀ (m p : Nat), m + p = ps.length → mpag fP fS fL fE fN L ps m p = wpag fP fS fL fE fN L ps m p
  | 0, _, _ => rfl
  | m + 1, p, hm => by
    rw [mpag, wpag, mpag_wpag h m (p + 1) (by omega)]
    unfold mpar wpar
    rw [mrun_wrun h (by omega) L.length 0 rfl, Nat.max_eq_right (Nat.zero_le _)]
theorem twM_twO (h : okP L ps) : twM L ps = twO L ps := mpag_wpag h ps.length 0 rfl
theorem bwM_bwO (h : okP L ps) : bwM L ps = bwO L ps := by
  unfold bwM bwO
  rw [mpag_wpag h ps.length 0 rfl]
end PGM
