/-! what is written: how long it is, and of which characters; what a reading leaves -/
def chO (x : Nat) : Prop := 32 ≤ x ∧ x < 127
section OUTM
variable {L : List (Nat × Nat)} {ps : List (Nat × Nat × Nat)} {fP : Nat → Nat → List Nat} {fS fL fE : Nat → List Nat} {fN : List Nat} {A B : Nat}
theorem wrun_ch (okp : okP L ps) (hS : ∀ k, k < 6400 → ∀ x ∈ fS k, chO x) (hL : ∀ k, 32 ≤ k → k < 256 → ∀ x ∈ fL k, chO x) (hE : ∀ k, k < 6400 → ∀ x ∈ fE k, chO x) {st en : Nat} : ∀ n k, k + n ≤ L.length → ∀ x ∈ wrun fS fL fE L st en n k, chO x
  | 0, _, _ => fun x hx => nomatch hx
  | n + 1, k, h => fun x hx => by
    obtain ⟨⟨q1, q2⟩, q3⟩ := okp.2.2.2 k (by omega)
    unfold wrun wk1 at hx
    rcases List.mem_append.mp hx with hx | hx
    · rcases List.mem_append.mp hx with hx | hx
      · split at hx
        · exact hS _ q3 x hx
        · cases hx
      · rcases List.mem_append.mp hx with hx | hx
        · exact hL _ q1 q2 x hx
        · split at hx
          · exact hE _ q3 x hx
          · cases hx
    · exact wrun_ch okp hS hL hE n (k + 1) (by omega) x hx
theorem wpag_ch (okp : okP L ps) (hP : ∀ a, a < 3 → ∀ i, i < 10 → ∀ x ∈ fP a i, chO x) (hS : ∀ k, k < 6400 → ∀ x ∈ fS k, chO x) (hL : ∀ k, 32 ≤ k → k < 256 → ∀ x ∈ fL k, chO x) (hE : ∀ k, k < 6400 → ∀ x ∈ fE k, chO x) (hN : ∀ x ∈ fN, chO x) : ∀ n p, p + n ≤ ps.length → ∀ x ∈ wpag fP fS fL fE fN L ps n p, chO x
  | 0, _, _ => fun x hx => nomatch hx
  | n + 1, p, h => fun x hx => by
    obtain ⟨q1, q2, q3, q4⟩ := okp.2.2.1 p (by omega)
    unfold wpag wpar at hx
    rcases List.mem_append.mp hx with hx | hx
    · rcases List.mem_append.mp hx with hx | hx
      · exact hP _ q1 _ q2 x hx
      · rcases List.mem_append.mp hx with hx | hx
        · exact wrun_ch okp hS hL hE _ _ (by omega) x hx
        · exact hN x hx
    · exact wpag_ch okp hP hS hL hE hN n (p + 1) (by omega) x hx
theorem wrun_len (okp : okP L ps) (hB : ∀ k, k < 6400 → ∀ u, 32 ≤ u → u < 256 → (fS k).length + ((fL u).length + (fE k).length) ≤ B) {st en : Nat} : ∀ n k, k + n ≤ L.length → (wrun fS fL fE L st en n k).length ≤ B * n
  | 0, _, _ => Nat.zero_le _
  | n + 1, k, h => by
    obtain ⟨⟨q1, q2⟩, q3⟩ := okp.2.2.2 k (by omega)
    have q := hB _ q3 _ q1 q2
    have r := wrun_len okp hB (st := st) (en := en) n (k + 1) (by omega)
    unfold wrun wk1
    rw [List.length_append, List.length_append, List.length_append, Nat.mul_add, Nat.mul_one]
    have e1 : (if sr (lkL L) st k = true then fS ((lkL L).getD k 0) else []).length ≤ (fS ((lkL L).getD k 0)).length := by split; exact Nat.le_refl _; exact Nat.zero_le _
    have e2 : (if er (lkL L) en k = true then fE ((lkL L).getD k 0) else []).length ≤ (fE ((lkL L).getD k 0)).length := by split; exact Nat.le_refl _; exact Nat.zero_le _
    omega
theorem wpag_len (okp : okP L ps) (hA : ∀ a, a < 3 → ∀ i, i < 10 → (fP a i).length + fN.length ≤ A) (hB : ∀ k, k < 6400 → ∀ u, 32 ≤ u → u < 256 → (fS k).length + ((fL u).length + (fE k).length) ≤ B) : ∀ n p, p + n = ps.length → (wpag fP fS fL fE fN L ps n p).length + B * pst ps p ≤ A * n + B * pst ps ps.length
  | 0, p, h => by
    have e : p = ps.length := by omega
    subst e
    show 0 + B * pst ps ps.length ≤ _
    omega
  | n + 1, p, h => by
    obtain ⟨q1, q2, q3, q4⟩ := okp.2.2.1 p (by omega)
    have a := hA _ q1 _ q2
    have r := wrun_len okp hB (st := pst ps p) (en := p_e ps p) (p_e ps p - pst ps p) (pst ps p) (by omega)
    have i := wpag_len okp hA hB n (p + 1) (by omega)
    rw [pst_s] at i
    unfold wpag wpar
    rw [List.length_append, List.length_append, List.length_append, Nat.mul_add, Nat.mul_one]
    have e : B * (p_e ps p - pst ps p) + B * pst ps p = B * p_e ps p := by rw [← Nat.mul_add, Nat.sub_add_cancel q4]
    omega
end OUTM
/-! pieces -/
def dO (l : List Nat) : Bool := l.all (fun x => decide (32 ≤ x) && decide (x < 127))
theorem dO_ch {l : List Nat} (h : dO l = true) : ∀ x ∈ l, chO x := fun x hx => by
  have := List.all_eq_true.mp h x hx
  rw [Bool.and_eq_true, decide_eq_true_eq, decide_eq_true_eq] at this
  exact this
theorem dO_app {l k : List Nat} : dO (l ++ k) = (dO l && dO k) := List.all_append
def twA (m : Nat) : List Nat := (if sb m 1 then [60, 98, 62] else []) ++ ((if sb m 2 then [60, 105, 62] else []) ++ (if sb m 4 then [60, 117, 62] else []))
def twZ (z : Nat) : List Nat := if z = 12 then [] else [60, 115, 32] ++ (nd z ++ [62])
def twC (c : Nat) : List Nat := if c = 0 then [] else [60, 99, 32] ++ (nd c ++ [62])
theorem twS_A {k : Nat} : twS k = twA (k % 8) ++ (twZ (k / 64) ++ twC (k / 8 % 8)) := by
  unfold twS twA twZ twC
  simp only [List.append_assoc]
def teA (m : Nat) : List Nat := (if sb m 4 then [60, 47, 117, 62] else []) ++ ((if sb m 2 then [60, 47, 105, 62] else []) ++ (if sb m 1 then [60, 47, 98, 62] else []))
def teZ (z : Nat) : List Nat := if z = 12 then [] else [60, 47, 115, 62]
def teC (c : Nat) : List Nat := if c = 0 then [] else [60, 47, 99, 62]
theorem twE_A {k : Nat} : twE k = teC (k / 8 % 8) ++ (teZ (k / 64) ++ teA (k % 8)) := rfl
theorem tA_d : ∀ m, m < 8 → dO (twA m) = true ∧ (twA m).length ≤ 9 ∧ dO (teA m) = true ∧ (teA m).length ≤ 12 := by decide +kernel
theorem tZ_d : ∀ z, z < 100 → dO (twZ z) = true ∧ (twZ z).length ≤ 6 ∧ dO (teZ z) = true ∧ (teZ z).length ≤ 4 := by decide +kernel
theorem tC_d : ∀ c, c < 8 → dO (twC c) = true ∧ (twC c).length ≤ 5 ∧ dO (teC c) = true ∧ (teC c).length ≤ 4 := by decide +kernel
theorem tS_k {k : Nat} (h : k < 6400) : dO (twS k) = true ∧ (twS k).length ≤ 20 ∧ dO (twE k) = true ∧ (twE k).length ≤ 20 := by
  obtain ⟨a1, a2, a3, a4⟩ := tA_d (k % 8) (by omega)
  obtain ⟨b1, b2, b3, b4⟩ := tZ_d (k / 64) (by omega)
  obtain ⟨c1, c2, c3, c4⟩ := tC_d (k / 8 % 8) (by omega)
  refine ⟨?_, ?_, ?_, ?_⟩
  · rw [twS_A, dO_app, dO_app, a1, b1, c1]; rfl
  · rw [twS_A, List.length_append, List.length_append]; omega
  · rw [twE_A, dO_app, dO_app, a3, b3, c3]; rfl
  · rw [twE_A, List.length_append, List.length_append]; omega
theorem tL_d : ∀ k, k < 256 → 32 ≤ k → dO (twL k) = true ∧ (twL k).length ≤ 5 ∧ dO (bwL k) = true ∧ (bwL k).length ≤ 4 := by decide +kernel
theorem tP_d : ∀ a, a < 3 → ∀ i, i < 10 → dO (twP a i) = true ∧ (twP a i).length ≤ 6 ∧ dO (bwP a i) = true ∧ (bwP a i).length ≤ 12 := by decide +kernel
def bwA (k : Nat) : List Nat := (if sb (k % 8) 1 then [92, 98] else []) ++ ((if sb (k % 8) 2 then [92, 105] else []) ++ ((if sb (k % 8) 4 then [92, 117, 108] else []) ++ (if k / 64 = 12 then [] else [92, 102, 115] ++ nd (k / 64))))
def bwV (v : Nat) : List Nat := if v = 0 then [] else [92, 99, 102] ++ nd v
theorem bwB_A {en : Nat → Nat} {k : Nat} : bwB en k = bwA k ++ bwV (en (k / 8 % 8)) := by
  unfold bwB bwA bwV
  simp only [List.append_assoc]
def baA (m : Nat) : List Nat := (if sb m 1 then [92, 98] else []) ++ ((if sb m 2 then [92, 105] else []) ++ (if sb m 4 then [92, 117, 108] else []))
def baZ (z : Nat) : List Nat := if z = 12 then [] else [92, 102, 115] ++ nd z
theorem bwA_A {k : Nat} : bwA k = baA (k % 8) ++ baZ (k / 64) := by
  unfold bwA baA baZ
  simp only [List.append_assoc]
theorem baA_d : ∀ m, m < 8 → dO (baA m) = true ∧ (baA m).length ≤ 7 := by decide +kernel
theorem baZ_d : ∀ z, z < 100 → dO (baZ z) = true ∧ (baZ z).length ≤ 5 := by decide +kernel
theorem bA_k {k : Nat} (h : k < 6400) : dO (bwA k) = true ∧ (bwA k).length ≤ 12 := by
  obtain ⟨a1, a2⟩ := baA_d (k % 8) (by omega)
  obtain ⟨b1, b2⟩ := baZ_d (k / 64) (by omega)
  refine ⟨?_, ?_⟩
  · rw [bwA_A, dO_app, a1, b1]; rfl
  · rw [bwA_A, List.length_append]; omega
theorem bV_d : ∀ v, v < 8 → dO (bwV v) = true ∧ (bwV v).length ≤ 4 := by decide +kernel
theorem enO_l8 {lk : List Nat} {j : Nat} (h : j < 8) : enO lk j < 8 := by
  unfold enO
  have := cu_le lk j
  split
  · decide
  · split
    · omega
    · decide
theorem bS_k {lk : List Nat} {k : Nat} (h : k < 6400) : dO (bwS (enO lk) k) = true ∧ (bwS (enO lk) k).length ≤ 18 := by
  have a := bA_k h
  have b := bV_d _ (enO_l8 (lk := lk) (j := k / 8 % 8) (by omega))
  have e := bwB_A (en := enO lk) (k := k)
  have l : (bwB (enO lk) k).length ≤ 16 := by rw [e, List.length_append]; omega
  have d : dO (bwB (enO lk) k) = true := by rw [e, dO_app, a.1, b.1]; rfl
  unfold bwS
  constructor
  · rw [dO_app, dO_app, d]
    split <;> rfl
  · rw [List.length_append, List.length_append]
    split <;> simp <;> omega
theorem btab_d {en : Nat → Nat} : ∀ n k, k + n ≤ 8 → dO (btab en n k) = true ∧ (btab en n k).length ≤ 8 * n
  | 0, _, _ => ⟨rfl, Nat.le_refl _⟩
  | n + 1, k, h => by
    have i := btab_d (en := en) n (k + 1) (by omega)
    have c : ∀ k, k < 8 → dO (cnT k ++ [59]) = true ∧ (cnT k ++ [59]).length ≤ 8 := by decide +kernel
    have c := c k (by omega)
    unfold btab
    rw [dO_app, List.length_append, i.1]
    split
    · exact ⟨rfl, by simp; omega⟩
    · exact ⟨by rw [c.1]; rfl, by omega⟩
theorem bH_k {lk : List Nat} : dO (bwH lk) = true ∧ (bwH lk).length ≤ 100 := by
  have t := btab_d (en := enO lk) 7 1 (by decide)
  unfold bwH bwT
  split
  · exact ⟨rfl, by decide⟩
  · refine ⟨?_, ?_⟩
    · rw [dO_app, dO_app, dO_app, t.1]; rfl
    · rw [List.length_append, List.length_append, List.length_append]
      simp
      omega
section OUTN
variable {L : List (Nat × Nat)} {ps : List (Nat × Nat × Nat)}
theorem twO_ch (h : okP L ps) : ∀ x ∈ twO L ps, chO x := wpag_ch h (fun a ha i hi => dO_ch (tP_d a ha i hi).1) (fun k hk => dO_ch (tS_k hk).1) (fun k h1 h2 => dO_ch (tL_d k h2 h1).1) (fun k hk => dO_ch (tS_k hk).2.2.1) (dO_ch (l := [60, 47, 112, 62]) rfl) ps.length 0 (by omega)
theorem twO_len (h : okP L ps) : (twO L ps).length ≤ 18160 := by
  have q := wpag_len (fP := twP) (fS := twS) (fL := twL) (fE := twE) (fN := [60, 47, 112, 62]) (A := 10) (B := 45) h (fun a ha i hi => by have := (tP_d a ha i hi).2.1; show _ + 4 ≤ 10; omega) (fun k hk u h1 h2 => by have := (tS_k hk).2.1; have := (tS_k hk).2.2.2; have := (tL_d u h2 h1).2.1; omega) ps.length 0 (by omega)
  have e := pst_le h (Nat.le_refl ps.length)
  have h1 := h.1
  have h2 := h.2.1
  unfold twO
  omega
theorem bwO_ch (h : okP L ps) : ∀ x ∈ bwO L ps, chO x := fun x hx => by
  unfold bwO at hx
  rcases List.mem_append.mp hx with hx | hx
  · exact dO_ch bH_k.1 x hx
  · rcases List.mem_append.mp hx with hx | hx
    · exact wpag_ch h (fun a ha i hi => dO_ch (tP_d a ha i hi).2.2.1) (fun k hk => dO_ch (bS_k hk).1) (fun k h1 h2 => dO_ch (tL_d k h2 h1).2.2.1) (fun k hk => dO_ch (l := [125]) rfl) (dO_ch (l := [92, 112, 97, 114]) rfl) ps.length 0 (by omega) x hx
    · exact dO_ch (l := [125]) rfl x hx
theorem bwO_len (h : okP L ps) : (bwO L ps).length ≤ 18160 := by
  have q := wpag_len (fP := bwP) (fS := bwS (enO (lkL L))) (fL := bwL) (fE := fun _ => [125]) (fN := [92, 112, 97, 114]) (A := 16) (B := 23) h (fun a ha i hi => by have := (tP_d a ha i hi).2.2.2; show _ + 4 ≤ 16; omega) (fun k hk u h1 h2 => by have := (bS_k (lk := lkL L) hk).2; have := (tL_d u h2 h1).2.2.2; show _ + (_ + 1) ≤ 23; omega) ps.length 0 (by omega)
  have e := pst_le h (Nat.le_refl ps.length)
  have h1 := h.1
  have h2 := h.2.1
  have h3 := (bH_k (lk := lkL L)).2
  unfold bwO
  rw [List.length_append, List.length_append]
  show _ + (_ + 1) ≤ 18160
  omega
end OUTN
/-! IN and OUT hold only characters -/
theorem okC_of {xs : List Nat} (hl : xs.length ≤ 400) (h : ∀ x ∈ xs, chO x ∨ x = 10) : okC xs := by
  have g : ∀ j, j < xs.length → chO (xs.getD j 0) ∨ xs.getD j 0 = 10 := fun j hj => by
    rw [List.getD_eq_getElem?_getD, List.getElem?_eq_getElem hj]
    exact h _ (List.getElem_mem hj)
  refine ⟨⟨hl, fun j hj => ?_⟩, fun k hk => ?_⟩
  · have := g j hj
    unfold chO at this
    omega
  · have := g k hk
    unfold chO at this
    show xs.getD k 0 = 10 ∨ 32 ≤ xs.getD k 0
    omega
/-! what a reading without a fault leaves -/
theorem bRes_ok {T : List Nat} (hT : okT T) : ∀ n (σ : BS), okB T σ → σ.2.1 = 0 ∨ True → bFa (bRes T n σ) = 0 → okP (bL (bRes T n σ)) (bPs (bRes T n σ)) ∧ pst (bPs (bRes T n σ)) (bPs (bRes T n σ)).length = (bL (bRes T n σ)).length := by
  have fin : ∀ σ : BS, okB T σ → bFa (bFin T σ) = 0 → okP (bL (bFin T σ)) (bPs (bFin T σ)) ∧ pst (bPs (bFin T σ)) (bPs (bFin T σ)).length = (bL (bFin T σ)).length := by
    intro σ h hf
    obtain ⟨i, fa, me, lv, fr, it, en, v, nt, tb, nm, L, ps⟩ := σ
    have okp : okP L ps := h.2.2.2.2.2.2.2.2
    have e : bFin T (i, fa, me, lv, fr, it, en, v, nt, tb, nm, L, ps) = (if en = false then (i, -2, nI T.length, lv, fr, it, en, v, nt, tb, nm, L, ps) else if nlE T (T.length - i) i < T.length then (i, -3, nI (nlE T (T.length - i) i), lv, fr, it, en, v, nt, tb, nm, L, ps) else if pst ps ps.length < L.length then (if 16 ≤ ps.length then (i, -8, nI T.length, lv, fr, it, en, v, nt, tb, nm, L, ps) else (i, fa, me, lv, fr, it, en, v, nt, tb, nm, L, ps ++ [(0, 0, L.length)])) else (i, fa, me, lv, fr, it, en, v, nt, tb, nm, L, ps)) := rfl
    rw [e] at hf ⊢
    split at hf
    · exact absurd hf (show ¬ (-2 : Int32) = 0 by decide)
    · rename_i c1
      rw [if_neg c1]
      split at hf
      · exact absurd hf (show ¬ (-3 : Int32) = 0 by decide)
      · rename_i c2
        rw [if_neg c2]
        split at hf
        · rename_i c3
          rw [if_pos c3]
          split at hf
          · exact absurd hf (show ¬ (-8 : Int32) = 0 by decide)
          · rename_i c4
            rw [if_neg c4]
            refine ⟨okp.gat (by omega) (by decide) (by decide), ?_⟩
            show pst (ps ++ [(0, 0, L.length)]) (ps ++ [(0, 0, L.length)]).length = L.length
            rw [List.length_append]
            show pst (ps ++ [(0, 0, L.length)]) (ps.length + 1) = L.length
            rw [pst_s]
            unfold p_e
            rw [p_sn']
        · rename_i c3
          rw [if_neg c3]
          refine ⟨okp, ?_⟩
          show pst ps ps.length = L.length
          have := pst_le okp (Nat.le_refl ps.length)
          omega
  intro n
  induction n with
  | zero =>
    intro σ h _ hf
    have e : bRes T 0 σ = if σ.2.1 = 0 then bFin T σ else σ := rfl
    rw [e] at hf ⊢
    by_cases c : σ.2.1 = 0
    · rw [if_pos c] at hf ⊢; exact fin σ h hf
    · rw [if_neg c] at hf; exact absurd hf c
  | succ n ih =>
    intro σ h _ hf
    have e : bRes T (n + 1) σ = if σ.2.1 ≠ 0 ∨ T.length ≤ σ.1 ∨ σ.2.2.2.2.2.2.1 = true then (if σ.2.1 = 0 then bFin T σ else σ) else bRes T n (bThing T σ) := rfl
    rw [e] at hf ⊢
    by_cases c : σ.2.1 ≠ 0 ∨ T.length ≤ σ.1 ∨ σ.2.2.2.2.2.2.1 = true
    · rw [if_pos c] at hf ⊢
      by_cases c : σ.2.1 = 0
      · rw [if_pos c] at hf ⊢; exact fin σ h hf
      · rw [if_neg c] at hf; exact absurd hf c
    · rw [if_neg c] at hf ⊢
      exact ih _ (okB_thing hT h (Nat.not_le.mp (fun q => c (Or.inr (Or.inl q))))).1 (Or.inr trivial) hf
theorem tRes_ok {T : List Nat} (hC : okC T) {σ : TS} (h : okU T σ) (n : Nat) : okP (tL (tRes T n σ)) (tPs (tRes T n σ)) ∧ pst (tPs (tRes T n σ)) (tPs (tRes T n σ)).length = (tL (tRes T n σ)).length := by
  have q := okU_res hC.1 hC.2 n σ h
  generalize tRes T n σ = ρ at q
  obtain ⟨i, fa, me, ip, ot, rs, hl, ed, sy, sz, co, L, ps⟩ := ρ
  exact ⟨q.2.2.2.2.2.2.2.2, q.2.2.2.2.2.2.1⟩
