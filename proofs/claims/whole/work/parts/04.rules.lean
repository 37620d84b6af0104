/-! the rules: one instruction each -/
theorem bp_al_mem : ∀ (ls : List (Option Value)) (i : Nat) (q : Nat × Value), q ∈ bp_al i ls ↔ ∃ j, q.1 = i + j ∧ ls[j]? = some (some q.2)
  | [], i, q => by simp [bp_al]
  | none :: t, i, q => by
    rw [show bp_al i (none :: t) = bp_al (i + 1) t from rfl, bp_al_mem t (i + 1) q]
    constructor
    · rintro ⟨j, h1, h2⟩; exact ⟨j + 1, by omega, by simpa using h2⟩
    · rintro ⟨j, h1, h2⟩
      cases j with
      | zero => simp at h2
      | succ j => exact ⟨j, by omega, by simpa using h2⟩
  | some v :: t, i, q => by
    rw [show bp_al i (some v :: t) = (i, v) :: bp_al (i + 1) t from rfl, List.mem_cons, bp_al_mem t (i + 1) q]
    constructor
    · rintro (rfl | ⟨j, h1, h2⟩)
      · exact ⟨0, rfl, rfl⟩
      · exact ⟨j + 1, by omega, by simpa using h2⟩
    · rintro ⟨j, h1, h2⟩
      cases j with
      | zero =>
        simp at h2
        exact Or.inl (Prod.ext (by simpa using h1) h2.symm)
      | succ j => exact Or.inr ⟨j, by omega, by simpa using h2⟩
theorem bp_at {lr : Array Slot} {nL : Nat} {ls : List (Option Value)} (h : lv_has lr nL (bp_al 0 ls)) {i : Nat} {v : Value} (hv : ls[i]? = some (some v)) : lr[i]? = some (.val v) := h.2.2 (i, v) ((bp_al_mem ls 0 (i, v)).mpr ⟨i, (Nat.zero_add i).symm, hv⟩)
def bp_nl (x : Option Value) : Bool := match x with
  | some v => v.category != 2
  | none => true
/-- a slot gets a value of one slot -/
def bp_upd (ls : List (Option Value)) (i : Nat) (v : Value) (ls' : List (Option Value)) : Prop := ls' = ls.set i (some v) ∧ ∀ j x, i = j + 1 → ls[j]? = some x → bp_nl x = true
/-- .. a long -/
def bp_updL (ls : List (Option Value)) (i : Nat) (v : Value) (ls' : List (Option Value)) : Prop := ls' = (ls.set i (some v)).set (i + 1) none ∧ ∀ j x, i = j + 1 → ls[j]? = some x → bp_nl x = true
theorem bp_upd_in {ls ls' : List (Option Value)} {i : Nat} {v : Value} (h : bp_upd ls i v ls') : ∀ q ∈ bp_al 0 ls', q ∈ (i, v) :: (bp_al 0 ls).filter (fun q => !(q.1 == i) && !(q.1 + 1 == i && q.2.category == 2)) := by
  obtain ⟨rfl, hn⟩ := h
  intro q hq
  obtain ⟨j, h1, h2⟩ := (bp_al_mem _ 0 q).mp hq
  have hj : j = q.1 := by omega
  subst hj
  by_cases hi : q.1 = i
  · rw [List.getElem?_set, if_pos hi.symm] at h2
    split at h2
    · cases q; simp at h2 hi; simp [hi, h2]
    · cases h2
  · rw [List.getElem?_set_ne (Ne.symm hi)] at h2
    refine List.mem_cons_of_mem _ (List.mem_filter.mpr ⟨(bp_al_mem _ 0 q).mpr ⟨q.1, (Nat.zero_add _).symm, h2⟩, ?_⟩)
    have := hn q.1 (some q.2)
    by_cases h3 : q.1 + 1 = i
    · have h4 := this h3.symm h2
      simp [bp_nl] at h4
      simp [hi, h4]
    · simp [hi, h3]
theorem bp_updL_in {ls ls' : List (Option Value)} {i : Nat} {v : Value} (h : bp_updL ls i v ls') : ∀ q ∈ bp_al 0 ls', q ∈ (i, v) :: (bp_al 0 ls).filter (fun q => !(q.1 == i) && (!(q.1 == i + 1) && !(q.1 + 1 == i && q.2.category == 2))) := by
  obtain ⟨rfl, hn⟩ := h
  intro q hq
  obtain ⟨j, h1, h2⟩ := (bp_al_mem _ 0 q).mp hq
  have hj : j = q.1 := by omega
  subst hj
  have h5 : q.1 ≠ i + 1 := fun z => by
    rw [z, List.getElem?_set] at h2
    simp at h2
  rw [List.getElem?_set_ne (Ne.symm h5)] at h2
  by_cases hi : q.1 = i
  · rw [List.getElem?_set, if_pos hi.symm] at h2
    split at h2
    · cases q; simp at h2 hi; simp [hi, h2]
    · cases h2
  · rw [List.getElem?_set_ne (Ne.symm hi)] at h2
    refine List.mem_cons_of_mem _ (List.mem_filter.mpr ⟨(bp_al_mem _ 0 q).mpr ⟨q.1, (Nat.zero_add _).symm, h2⟩, ?_⟩)
    have := hn q.1 (some q.2)
    by_cases h3 : q.1 + 1 = i
    · have h4 := this h3.symm h2
      simp [bp_nl] at h4
      simp [hi, h4, h5]
    · simp [hi, h3, h5]
theorem bp_up0 {a0 : Option Value} {t : List (Option Value)} {v : Value} : bp_upd (a0 :: t) 0 v (some v :: t) := ⟨rfl, fun j x h _ => absurd h (by omega)⟩
theorem bp_up1 {a0 a1 : Option Value} {t : List (Option Value)} {v : Value} (hn : bp_nl a0 = true) : bp_upd (a0 :: a1 :: t) 1 v (a0 :: some v :: t) := by
  refine ⟨rfl, fun j x h e => ?_⟩
  obtain rfl : j = 0 := by omega
  cases e
  exact hn
theorem bp_up2 {a0 a1 a2 : Option Value} {t : List (Option Value)} {v : Value} (hn : bp_nl a1 = true) : bp_upd (a0 :: a1 :: a2 :: t) 2 v (a0 :: a1 :: some v :: t) := by
  refine ⟨rfl, fun j x h e => ?_⟩
  obtain rfl : j = 1 := by omega
  cases e
  exact hn
theorem bp_up3 {a0 a1 a2 a3 : Option Value} {t : List (Option Value)} {v : Value} (hn : bp_nl a2 = true) : bp_upd (a0 :: a1 :: a2 :: a3 :: t) 3 v (a0 :: a1 :: a2 :: some v :: t) := by
  refine ⟨rfl, fun j x h e => ?_⟩
  obtain rfl : j = 2 := by omega
  cases e
  exact hn
theorem bp_up4 {a0 a1 a2 a3 a4 : Option Value} {t : List (Option Value)} {v : Value} (hn : bp_nl a3 = true) : bp_upd (a0 :: a1 :: a2 :: a3 :: a4 :: t) 4 v (a0 :: a1 :: a2 :: a3 :: some v :: t) := by
  refine ⟨rfl, fun j x h e => ?_⟩
  obtain rfl : j = 3 := by omega
  cases e
  exact hn
theorem bp_up5 {a0 a1 a2 a3 a4 a5 : Option Value} {t : List (Option Value)} {v : Value} (hn : bp_nl a4 = true) : bp_upd (a0 :: a1 :: a2 :: a3 :: a4 :: a5 :: t) 5 v (a0 :: a1 :: a2 :: a3 :: a4 :: some v :: t) := by
  refine ⟨rfl, fun j x h e => ?_⟩
  obtain rfl : j = 4 := by omega
  cases e
  exact hn
theorem bp_up6 {a0 a1 a2 a3 a4 a5 a6 : Option Value} {t : List (Option Value)} {v : Value} (hn : bp_nl a5 = true) : bp_upd (a0 :: a1 :: a2 :: a3 :: a4 :: a5 :: a6 :: t) 6 v (a0 :: a1 :: a2 :: a3 :: a4 :: a5 :: some v :: t) := by
  refine ⟨rfl, fun j x h e => ?_⟩
  obtain rfl : j = 5 := by omega
  cases e
  exact hn
theorem bp_up7 {a0 a1 a2 a3 a4 a5 a6 a7 : Option Value} {t : List (Option Value)} {v : Value} (hn : bp_nl a6 = true) : bp_upd (a0 :: a1 :: a2 :: a3 :: a4 :: a5 :: a6 :: a7 :: t) 7 v (a0 :: a1 :: a2 :: a3 :: a4 :: a5 :: a6 :: some v :: t) := by
  refine ⟨rfl, fun j x h e => ?_⟩
  obtain rfl : j = 6 := by omega
  cases e
  exact hn
theorem bp_up8 {a0 a1 a2 a3 a4 a5 a6 a7 a8 : Option Value} {t : List (Option Value)} {v : Value} (hn : bp_nl a7 = true) : bp_upd (a0 :: a1 :: a2 :: a3 :: a4 :: a5 :: a6 :: a7 :: a8 :: t) 8 v (a0 :: a1 :: a2 :: a3 :: a4 :: a5 :: a6 :: a7 :: some v :: t) := by
  refine ⟨rfl, fun j x h e => ?_⟩
  obtain rfl : j = 7 := by omega
  cases e
  exact hn
theorem bp_up9 {a0 a1 a2 a3 a4 a5 a6 a7 a8 a9 : Option Value} {t : List (Option Value)} {v : Value} (hn : bp_nl a8 = true) : bp_upd (a0 :: a1 :: a2 :: a3 :: a4 :: a5 :: a6 :: a7 :: a8 :: a9 :: t) 9 v (a0 :: a1 :: a2 :: a3 :: a4 :: a5 :: a6 :: a7 :: a8 :: some v :: t) := by
  refine ⟨rfl, fun j x h e => ?_⟩
  obtain rfl : j = 8 := by omega
  cases e
  exact hn
theorem bp_up10 {a0 a1 a2 a3 a4 a5 a6 a7 a8 a9 a10 : Option Value} {t : List (Option Value)} {v : Value} (hn : bp_nl a9 = true) : bp_upd (a0 :: a1 :: a2 :: a3 :: a4 :: a5 :: a6 :: a7 :: a8 :: a9 :: a10 :: t) 10 v (a0 :: a1 :: a2 :: a3 :: a4 :: a5 :: a6 :: a7 :: a8 :: a9 :: some v :: t) := by
  refine ⟨rfl, fun j x h e => ?_⟩
  obtain rfl : j = 9 := by omega
  cases e
  exact hn
theorem bp_up11 {a0 a1 a2 a3 a4 a5 a6 a7 a8 a9 a10 a11 : Option Value} {t : List (Option Value)} {v : Value} (hn : bp_nl a10 = true) : bp_upd (a0 :: a1 :: a2 :: a3 :: a4 :: a5 :: a6 :: a7 :: a8 :: a9 :: a10 :: a11 :: t) 11 v (a0 :: a1 :: a2 :: a3 :: a4 :: a5 :: a6 :: a7 :: a8 :: a9 :: a10 :: some v :: t) := by
  refine ⟨rfl, fun j x h e => ?_⟩
  obtain rfl : j = 10 := by omega
  cases e
  exact hn
theorem bp_up12 {a0 a1 a2 a3 a4 a5 a6 a7 a8 a9 a10 a11 a12 : Option Value} {t : List (Option Value)} {v : Value} (hn : bp_nl a11 = true) : bp_upd (a0 :: a1 :: a2 :: a3 :: a4 :: a5 :: a6 :: a7 :: a8 :: a9 :: a10 :: a11 :: a12 :: t) 12 v (a0 :: a1 :: a2 :: a3 :: a4 :: a5 :: a6 :: a7 :: a8 :: a9 :: a10 :: a11 :: some v :: t) := by
  refine ⟨rfl, fun j x h e => ?_⟩
  obtain rfl : j = 11 := by omega
  cases e
  exact hn
theorem bp_up13 {a0 a1 a2 a3 a4 a5 a6 a7 a8 a9 a10 a11 a12 a13 : Option Value} {t : List (Option Value)} {v : Value} (hn : bp_nl a12 = true) : bp_upd (a0 :: a1 :: a2 :: a3 :: a4 :: a5 :: a6 :: a7 :: a8 :: a9 :: a10 :: a11 :: a12 :: a13 :: t) 13 v (a0 :: a1 :: a2 :: a3 :: a4 :: a5 :: a6 :: a7 :: a8 :: a9 :: a10 :: a11 :: a12 :: some v :: t) := by
  refine ⟨rfl, fun j x h e => ?_⟩
  obtain rfl : j = 12 := by omega
  cases e
  exact hn
theorem bp_up14 {a0 a1 a2 a3 a4 a5 a6 a7 a8 a9 a10 a11 a12 a13 a14 : Option Value} {t : List (Option Value)} {v : Value} (hn : bp_nl a13 = true) : bp_upd (a0 :: a1 :: a2 :: a3 :: a4 :: a5 :: a6 :: a7 :: a8 :: a9 :: a10 :: a11 :: a12 :: a13 :: a14 :: t) 14 v (a0 :: a1 :: a2 :: a3 :: a4 :: a5 :: a6 :: a7 :: a8 :: a9 :: a10 :: a11 :: a12 :: a13 :: some v :: t) := by
  refine ⟨rfl, fun j x h e => ?_⟩
  obtain rfl : j = 13 := by omega
  cases e
  exact hn
theorem bp_up15 {a0 a1 a2 a3 a4 a5 a6 a7 a8 a9 a10 a11 a12 a13 a14 a15 : Option Value} {t : List (Option Value)} {v : Value} (hn : bp_nl a14 = true) : bp_upd (a0 :: a1 :: a2 :: a3 :: a4 :: a5 :: a6 :: a7 :: a8 :: a9 :: a10 :: a11 :: a12 :: a13 :: a14 :: a15 :: t) 15 v (a0 :: a1 :: a2 :: a3 :: a4 :: a5 :: a6 :: a7 :: a8 :: a9 :: a10 :: a11 :: a12 :: a13 :: a14 :: some v :: t) := by
  refine ⟨rfl, fun j x h e => ?_⟩
  obtain rfl : j = 14 := by omega
  cases e
  exact hn
theorem bp_uq0 {a0 a1 : Option Value} {t : List (Option Value)} {v : Value} : bp_updL (a0 :: a1 :: t) 0 v (some v :: none :: t) := ⟨rfl, fun j x h _ => absurd h (by omega)⟩
theorem bp_uq1 {a0 a1 a2 : Option Value} {t : List (Option Value)} {v : Value} (hn : bp_nl a0 = true) : bp_updL (a0 :: a1 :: a2 :: t) 1 v (a0 :: some v :: none :: t) := by
  refine ⟨rfl, fun j x h e => ?_⟩
  obtain rfl : j = 0 := by omega
  cases e
  exact hn
theorem bp_uq2 {a0 a1 a2 a3 : Option Value} {t : List (Option Value)} {v : Value} (hn : bp_nl a1 = true) : bp_updL (a0 :: a1 :: a2 :: a3 :: t) 2 v (a0 :: a1 :: some v :: none :: t) := by
  refine ⟨rfl, fun j x h e => ?_⟩
  obtain rfl : j = 1 := by omega
  cases e
  exact hn
theorem bp_uq3 {a0 a1 a2 a3 a4 : Option Value} {t : List (Option Value)} {v : Value} (hn : bp_nl a2 = true) : bp_updL (a0 :: a1 :: a2 :: a3 :: a4 :: t) 3 v (a0 :: a1 :: a2 :: some v :: none :: t) := by
  refine ⟨rfl, fun j x h e => ?_⟩
  obtain rfl : j = 2 := by omega
  cases e
  exact hn
theorem bp_uq4 {a0 a1 a2 a3 a4 a5 : Option Value} {t : List (Option Value)} {v : Value} (hn : bp_nl a3 = true) : bp_updL (a0 :: a1 :: a2 :: a3 :: a4 :: a5 :: t) 4 v (a0 :: a1 :: a2 :: a3 :: some v :: none :: t) := by
  refine ⟨rfl, fun j x h e => ?_⟩
  obtain rfl : j = 3 := by omega
  cases e
  exact hn
theorem bp_uq5 {a0 a1 a2 a3 a4 a5 a6 : Option Value} {t : List (Option Value)} {v : Value} (hn : bp_nl a4 = true) : bp_updL (a0 :: a1 :: a2 :: a3 :: a4 :: a5 :: a6 :: t) 5 v (a0 :: a1 :: a2 :: a3 :: a4 :: some v :: none :: t) := by
  refine ⟨rfl, fun j x h e => ?_⟩
  obtain rfl : j = 4 := by omega
  cases e
  exact hn
theorem bp_uq6 {a0 a1 a2 a3 a4 a5 a6 a7 : Option Value} {t : List (Option Value)} {v : Value} (hn : bp_nl a5 = true) : bp_updL (a0 :: a1 :: a2 :: a3 :: a4 :: a5 :: a6 :: a7 :: t) 6 v (a0 :: a1 :: a2 :: a3 :: a4 :: a5 :: some v :: none :: t) := by
  refine ⟨rfl, fun j x h e => ?_⟩
  obtain rfl : j = 5 := by omega
  cases e
  exact hn
theorem bp_uq7 {a0 a1 a2 a3 a4 a5 a6 a7 a8 : Option Value} {t : List (Option Value)} {v : Value} (hn : bp_nl a6 = true) : bp_updL (a0 :: a1 :: a2 :: a3 :: a4 :: a5 :: a6 :: a7 :: a8 :: t) 7 v (a0 :: a1 :: a2 :: a3 :: a4 :: a5 :: a6 :: some v :: none :: t) := by
  refine ⟨rfl, fun j x h e => ?_⟩
  obtain rfl : j = 6 := by omega
  cases e
  exact hn
theorem bp_uq8 {a0 a1 a2 a3 a4 a5 a6 a7 a8 a9 : Option Value} {t : List (Option Value)} {v : Value} (hn : bp_nl a7 = true) : bp_updL (a0 :: a1 :: a2 :: a3 :: a4 :: a5 :: a6 :: a7 :: a8 :: a9 :: t) 8 v (a0 :: a1 :: a2 :: a3 :: a4 :: a5 :: a6 :: a7 :: some v :: none :: t) := by
  refine ⟨rfl, fun j x h e => ?_⟩
  obtain rfl : j = 7 := by omega
  cases e
  exact hn
theorem bp_uq9 {a0 a1 a2 a3 a4 a5 a6 a7 a8 a9 a10 : Option Value} {t : List (Option Value)} {v : Value} (hn : bp_nl a8 = true) : bp_updL (a0 :: a1 :: a2 :: a3 :: a4 :: a5 :: a6 :: a7 :: a8 :: a9 :: a10 :: t) 9 v (a0 :: a1 :: a2 :: a3 :: a4 :: a5 :: a6 :: a7 :: a8 :: some v :: none :: t) := by
  refine ⟨rfl, fun j x h e => ?_⟩
  obtain rfl : j = 8 := by omega
  cases e
  exact hn
theorem bp_uq10 {a0 a1 a2 a3 a4 a5 a6 a7 a8 a9 a10 a11 : Option Value} {t : List (Option Value)} {v : Value} (hn : bp_nl a9 = true) : bp_updL (a0 :: a1 :: a2 :: a3 :: a4 :: a5 :: a6 :: a7 :: a8 :: a9 :: a10 :: a11 :: t) 10 v (a0 :: a1 :: a2 :: a3 :: a4 :: a5 :: a6 :: a7 :: a8 :: a9 :: some v :: none :: t) := by
  refine ⟨rfl, fun j x h e => ?_⟩
  obtain rfl : j = 9 := by omega
  cases e
  exact hn
theorem bp_uq11 {a0 a1 a2 a3 a4 a5 a6 a7 a8 a9 a10 a11 a12 : Option Value} {t : List (Option Value)} {v : Value} (hn : bp_nl a10 = true) : bp_updL (a0 :: a1 :: a2 :: a3 :: a4 :: a5 :: a6 :: a7 :: a8 :: a9 :: a10 :: a11 :: a12 :: t) 11 v (a0 :: a1 :: a2 :: a3 :: a4 :: a5 :: a6 :: a7 :: a8 :: a9 :: a10 :: some v :: none :: t) := by
  refine ⟨rfl, fun j x h e => ?_⟩
  obtain rfl : j = 10 := by omega
  cases e
  exact hn
theorem bp_uq12 {a0 a1 a2 a3 a4 a5 a6 a7 a8 a9 a10 a11 a12 a13 : Option Value} {t : List (Option Value)} {v : Value} (hn : bp_nl a11 = true) : bp_updL (a0 :: a1 :: a2 :: a3 :: a4 :: a5 :: a6 :: a7 :: a8 :: a9 :: a10 :: a11 :: a12 :: a13 :: t) 12 v (a0 :: a1 :: a2 :: a3 :: a4 :: a5 :: a6 :: a7 :: a8 :: a9 :: a10 :: a11 :: some v :: none :: t) := by
  refine ⟨rfl, fun j x h e => ?_⟩
  obtain rfl : j = 11 := by omega
  cases e
  exact hn
theorem bp_uq13 {a0 a1 a2 a3 a4 a5 a6 a7 a8 a9 a10 a11 a12 a13 a14 : Option Value} {t : List (Option Value)} {v : Value} (hn : bp_nl a12 = true) : bp_updL (a0 :: a1 :: a2 :: a3 :: a4 :: a5 :: a6 :: a7 :: a8 :: a9 :: a10 :: a11 :: a12 :: a13 :: a14 :: t) 13 v (a0 :: a1 :: a2 :: a3 :: a4 :: a5 :: a6 :: a7 :: a8 :: a9 :: a10 :: a11 :: a12 :: some v :: none :: t) := by
  refine ⟨rfl, fun j x h e => ?_⟩
  obtain rfl : j = 12 := by omega
  cases e
  exact hn
theorem bp_uq14 {a0 a1 a2 a3 a4 a5 a6 a7 a8 a9 a10 a11 a12 a13 a14 a15 : Option Value} {t : List (Option Value)} {v : Value} (hn : bp_nl a13 = true) : bp_updL (a0 :: a1 :: a2 :: a3 :: a4 :: a5 :: a6 :: a7 :: a8 :: a9 :: a10 :: a11 :: a12 :: a13 :: a14 :: a15 :: t) 14 v (a0 :: a1 :: a2 :: a3 :: a4 :: a5 :: a6 :: a7 :: a8 :: a9 :: a10 :: a11 :: a12 :: a13 :: some v :: none :: t) := by
  refine ⟨rfl, fun j x h e => ?_⟩
  obtain rfl : j = 13 := by omega
  cases e
  exact hn
theorem bp_uq15 {a0 a1 a2 a3 a4 a5 a6 a7 a8 a9 a10 a11 a12 a13 a14 a15 a16 : Option Value} {t : List (Option Value)} {v : Value} (hn : bp_nl a14 = true) : bp_updL (a0 :: a1 :: a2 :: a3 :: a4 :: a5 :: a6 :: a7 :: a8 :: a9 :: a10 :: a11 :: a12 :: a13 :: a14 :: a15 :: a16 :: t) 15 v (a0 :: a1 :: a2 :: a3 :: a4 :: a5 :: a6 :: a7 :: a8 :: a9 :: a10 :: a11 :: a12 :: a13 :: a14 :: some v :: none :: t) := by
  refine ⟨rfl, fun j x h e => ?_⟩
  obtain rfl : j = 14 := by omega
  cases e
  exact hn
section BPR
variable {l : Launch} {G : bp_G} {H0 : Heap} {d : bp_Dp} {M : bp_M} {h : bp_H} {c s pc q : Nat} {ls ls' : List (Option Value)} {st : List Value} {Q : Outcome → bp_H → Nat → Nat → Prop}
theorem bp_dec {p : Program} {R : Room} {s₀ : State} {m : MethodId} {args : Array Value} {meth : Method} {cd : Code} (X : bp_Cx G d M p R s₀ m args meth cd) {k : Nat} {i : Instr} {n : Nat} (hd : M.2.2.2.2[k]? = some (pc, i, n)) : decode M.2.1 pc = .ok (i, n) := X.2.2.2.2.2.2.2.2.2.2.2.2 (pc, i, n) (List.mem_of_getElem? hd)
theorem bp_iconst {n : Int} {v : Int32} (k : Nat) (hd : M.2.2.2.2[k]? = some (pc, .iconst n, 1)) (hq : pc + 1 = q) (hv : Int32.ofInt n = v) (w : bp_A l G H0 d M h c s q ls (.int v :: st) Q) : bp_A l G H0 d M h c s pc ls st Q := by
  subst hq
  intro p e R s₀ m args below meth cd H locs cells slots lr X hR h1 h2 h3 hl hcl hz
  exact lv_iconst X.1 X.2.1 (bp_dec X hd) hv (w p e R s₀ m args below meth cd H locs cells slots lr X hR h1 h2 h3 hl hcl hz)
theorem bp_bipush {n : Int} {v : Int32} (k : Nat) (hd : M.2.2.2.2[k]? = some (pc, .bipush n, 2)) (hq : pc + 2 = q) (hv : (Int8.ofInt n).toInt32 = v) (w : bp_A l G H0 d M h c s q ls (.int v :: st) Q) : bp_A l G H0 d M h c s pc ls st Q := by
  subst hq
  intro p e R s₀ m args below meth cd H locs cells slots lr X hR h1 h2 h3 hl hcl hz
  exact lv_bipush X.1 X.2.1 (bp_dec X hd) hv (w p e R s₀ m args below meth cd H locs cells slots lr X hR h1 h2 h3 hl hcl hz)
theorem bp_sipush {n : Int} {v : Int32} (k : Nat) (hd : M.2.2.2.2[k]? = some (pc, .sipush n, 3)) (hq : pc + 3 = q) (hv : (Int16.ofInt n).toInt32 = v) (w : bp_A l G H0 d M h c s q ls (.int v :: st) Q) : bp_A l G H0 d M h c s pc ls st Q := by
  subst hq
  intro p e R s₀ m args below meth cd H locs cells slots lr X hR h1 h2 h3 hl hcl hz
  exact lv_sipush X.1 X.2.1 (bp_dec X hd) hv (w p e R s₀ m args below meth cd H locs cells slots lr X hR h1 h2 h3 hl hcl hz)
theorem bp_lconst {n : Fin 2} {v : Int64} (k : Nat) (hd : M.2.2.2.2[k]? = some (pc, .lconst n, 1)) (hq : pc + 1 = q) (hv : Int64.ofNat (n : Nat) = v) (w : bp_A l G H0 d M h c s q ls (.long v :: st) Q) : bp_A l G H0 d M h c s pc ls st Q := by
  subst hq
  intro p e R s₀ m args below meth cd H locs cells slots lr X hR h1 h2 h3 hl hcl hz
  exact lv_lconst X.1 X.2.1 (bp_dec X hd) hv (w p e R s₀ m args below meth cd H locs cells slots lr X hR h1 h2 h3 hl hcl hz)
theorem bp_iload {i : Nat} {x : Int32} (k : Nat) (hd : M.2.2.2.2[k]? = some (pc, .iload i, 2)) (hq : pc + 2 = q) (hv : ls[i]? = some (some (.int x))) (w : bp_A l G H0 d M h c s q ls (.int x :: st) Q) : bp_A l G H0 d M h c s pc ls st Q := by
  subst hq
  intro p e R s₀ m args below meth cd H locs cells slots lr X hR h1 h2 h3 hl hcl hz
  exact lv_iload X.1 X.2.1 (bp_dec X hd) (bp_at hl hv) (w p e R s₀ m args below meth cd H locs cells slots lr X hR h1 h2 h3 hl hcl hz)
theorem bp_iload_n {j : Fin 4} {i : Nat} {x : Int32} (k : Nat) (hd : M.2.2.2.2[k]? = some (pc, .iload_n j, 1)) (hq : pc + 1 = q) (hi : (j : Nat) = i) (hv : ls[i]? = some (some (.int x))) (w : bp_A l G H0 d M h c s q ls (.int x :: st) Q) : bp_A l G H0 d M h c s pc ls st Q := by
  subst hq
  intro p e R s₀ m args below meth cd H locs cells slots lr X hR h1 h2 h3 hl hcl hz
  exact lv_iload_n X.1 X.2.1 (bp_dec X hd) hi (bp_at hl hv) (w p e R s₀ m args below meth cd H locs cells slots lr X hR h1 h2 h3 hl hcl hz)
theorem bp_lload {i : Nat} {x : Int64} (k : Nat) (hd : M.2.2.2.2[k]? = some (pc, .lload i, 2)) (hq : pc + 2 = q) (hv : ls[i]? = some (some (.long x))) (w : bp_A l G H0 d M h c s q ls (.long x :: st) Q) : bp_A l G H0 d M h c s pc ls st Q := by
  subst hq
  intro p e R s₀ m args below meth cd H locs cells slots lr X hR h1 h2 h3 hl hcl hz
  exact lv_lload X.1 X.2.1 (bp_dec X hd) (bp_at hl hv) (w p e R s₀ m args below meth cd H locs cells slots lr X hR h1 h2 h3 hl hcl hz)
theorem bp_lload_n {j : Fin 4} {i : Nat} {x : Int64} (k : Nat) (hd : M.2.2.2.2[k]? = some (pc, .lload_n j, 1)) (hq : pc + 1 = q) (hi : (j : Nat) = i) (hv : ls[i]? = some (some (.long x))) (w : bp_A l G H0 d M h c s q ls (.long x :: st) Q) : bp_A l G H0 d M h c s pc ls st Q := by
  subst hq
  intro p e R s₀ m args below meth cd H locs cells slots lr X hR h1 h2 h3 hl hcl hz
  exact lv_lload_n X.1 X.2.1 (bp_dec X hd) hi (bp_at hl hv) (w p e R s₀ m args below meth cd H locs cells slots lr X hR h1 h2 h3 hl hcl hz)
theorem bp_aload {i : Nat} {x : Nat} (k : Nat) (hd : M.2.2.2.2[k]? = some (pc, .aload i, 2)) (hq : pc + 2 = q) (hv : ls[i]? = some (some (.ref x))) (w : bp_A l G H0 d M h c s q ls (.ref x :: st) Q) : bp_A l G H0 d M h c s pc ls st Q := by
  subst hq
  intro p e R s₀ m args below meth cd H locs cells slots lr X hR h1 h2 h3 hl hcl hz
  exact lv_aload X.1 X.2.1 (bp_dec X hd) (bp_at hl hv) (w p e R s₀ m args below meth cd H locs cells slots lr X hR h1 h2 h3 hl hcl hz)
theorem bp_aload_n {j : Fin 4} {i : Nat} {x : Nat} (k : Nat) (hd : M.2.2.2.2[k]? = some (pc, .aload_n j, 1)) (hq : pc + 1 = q) (hi : (j : Nat) = i) (hv : ls[i]? = some (some (.ref x))) (w : bp_A l G H0 d M h c s q ls (.ref x :: st) Q) : bp_A l G H0 d M h c s pc ls st Q := by
  subst hq
  intro p e R s₀ m args below meth cd H locs cells slots lr X hR h1 h2 h3 hl hcl hz
  exact lv_aload_n X.1 X.2.1 (bp_dec X hd) hi (bp_at hl hv) (w p e R s₀ m args below meth cd H locs cells slots lr X hR h1 h2 h3 hl hcl hz)
theorem bp_istore {i : Nat} {x : Int32} (k : Nat) (hd : M.2.2.2.2[k]? = some (pc, .istore i, 2)) (hq : pc + 2 = q) (hn : i < M.2.2.1) (hu : bp_upd ls i (.int x) ls') (w : bp_A l G H0 d M h c s q ls' st Q) : bp_A l G H0 d M h c s pc ls (.int x :: st) Q := by
  subst hq
  intro p e R s₀ m args below meth cd H locs cells slots lr X hR h1 h2 h3 hl hcl hz
  exact lv_istore X.1 X.2.1 (bp_dec X hd) hl hn rfl (fun lr' hl' => w p e R s₀ m args below meth cd H locs cells slots lr' X hR h1 h2 h3 (lv_more hl' (bp_upd_in hu)) hcl hz)
theorem bp_istore_n {j : Fin 4} {i : Nat} {x : Int32} (k : Nat) (hd : M.2.2.2.2[k]? = some (pc, .istore_n j, 1)) (hq : pc + 1 = q) (hi : (j : Nat) = i) (hn : i < M.2.2.1) (hu : bp_upd ls i (.int x) ls') (w : bp_A l G H0 d M h c s q ls' st Q) : bp_A l G H0 d M h c s pc ls (.int x :: st) Q := by
  subst hq
  intro p e R s₀ m args below meth cd H locs cells slots lr X hR h1 h2 h3 hl hcl hz
  exact lv_istore_n X.1 X.2.1 (bp_dec X hd) hi hl hn rfl (fun lr' hl' => w p e R s₀ m args below meth cd H locs cells slots lr' X hR h1 h2 h3 (lv_more hl' (bp_upd_in hu)) hcl hz)
theorem bp_lstore {i : Nat} {x : Int64} (k : Nat) (hd : M.2.2.2.2[k]? = some (pc, .lstore i, 2)) (hq : pc + 2 = q) (hn : i + 1 < M.2.2.1) (hu : bp_updL ls i (.long x) ls') (w : bp_A l G H0 d M h c s q ls' st Q) : bp_A l G H0 d M h c s pc ls (.long x :: st) Q := by
  subst hq
  intro p e R s₀ m args below meth cd H locs cells slots lr X hR h1 h2 h3 hl hcl hz
  exact lv_lstore X.1 X.2.1 (bp_dec X hd) hl hn rfl (fun lr' hl' => w p e R s₀ m args below meth cd H locs cells slots lr' X hR h1 h2 h3 (lv_more hl' (bp_updL_in hu)) hcl hz)
theorem bp_lstore_n {j : Fin 4} {i : Nat} {x : Int64} (k : Nat) (hd : M.2.2.2.2[k]? = some (pc, .lstore_n j, 1)) (hq : pc + 1 = q) (hi : (j : Nat) = i) (hn : i + 1 < M.2.2.1) (hu : bp_updL ls i (.long x) ls') (w : bp_A l G H0 d M h c s q ls' st Q) : bp_A l G H0 d M h c s pc ls (.long x :: st) Q := by
  subst hq
  intro p e R s₀ m args below meth cd H locs cells slots lr X hR h1 h2 h3 hl hcl hz
  exact lv_lstore_n X.1 X.2.1 (bp_dec X hd) hi hl hn rfl (fun lr' hl' => w p e R s₀ m args below meth cd H locs cells slots lr' X hR h1 h2 h3 (lv_more hl' (bp_updL_in hu)) hcl hz)
theorem bp_astore {i : Nat} {x : Nat} (k : Nat) (hd : M.2.2.2.2[k]? = some (pc, .astore i, 2)) (hq : pc + 2 = q) (hn : i < M.2.2.1) (hu : bp_upd ls i (.ref x) ls') (w : bp_A l G H0 d M h c s q ls' st Q) : bp_A l G H0 d M h c s pc ls (.ref x :: st) Q := by
  subst hq
  intro p e R s₀ m args below meth cd H locs cells slots lr X hR h1 h2 h3 hl hcl hz
  exact lv_astore X.1 X.2.1 (bp_dec X hd) hl hn rfl (fun lr' hl' => w p e R s₀ m args below meth cd H locs cells slots lr' X hR h1 h2 h3 (lv_more hl' (bp_upd_in hu)) hcl hz)
theorem bp_astore_n {j : Fin 4} {i : Nat} {x : Nat} (k : Nat) (hd : M.2.2.2.2[k]? = some (pc, .astore_n j, 1)) (hq : pc + 1 = q) (hi : (j : Nat) = i) (hn : i < M.2.2.1) (hu : bp_upd ls i (.ref x) ls') (w : bp_A l G H0 d M h c s q ls' st Q) : bp_A l G H0 d M h c s pc ls (.ref x :: st) Q := by
  subst hq
  intro p e R s₀ m args below meth cd H locs cells slots lr X hR h1 h2 h3 hl hcl hz
  exact lv_astore_n X.1 X.2.1 (bp_dec X hd) hi hl hn rfl (fun lr' hl' => w p e R s₀ m args below meth cd H locs cells slots lr' X hR h1 h2 h3 (lv_more hl' (bp_upd_in hu)) hcl hz)
theorem bp_iinc {i : Nat} {n : Int} {x v : Int32} (k : Nat) (hd : M.2.2.2.2[k]? = some (pc, .iinc i n, 3)) (hq : pc + 3 = q) (hx : ls[i]? = some (some (.int x))) (hv : x + Int32.ofInt n = v) (hn : i < M.2.2.1) (hu : bp_upd ls i (.int v) ls') (w : bp_A l G H0 d M h c s q ls' st Q) : bp_A l G H0 d M h c s pc ls st Q := by
  subst hq
  intro p e R s₀ m args below meth cd H locs cells slots lr X hR h1 h2 h3 hl hcl hz
  obtain ⟨k0, hk0⟩ := List.getElem?_of_mem ((bp_al_mem ls 0 (i, .int x)).mpr ⟨i, (Nat.zero_add i).symm, hx⟩)
  exact lv_iinc X.1 X.2.1 (bp_dec X hd) hl hk0 hv hn rfl (fun lr' hl' => w p e R s₀ m args below meth cd H locs cells slots lr' X hR h1 h2 h3 (lv_more hl' (bp_upd_in hu)) hcl hz)
theorem bp_iadd {x y : Int32} (k : Nat) (hd : M.2.2.2.2[k]? = some (pc, .iadd, 1)) (hq : pc + 1 = q) (w : bp_A l G H0 d M h c s q ls (.int (x + y) :: st) Q) : bp_A l G H0 d M h c s pc ls (.int y :: .int x :: st) Q := by
  subst hq
  intro p e R s₀ m args below meth cd H locs cells slots lr X hR h1 h2 h3 hl hcl hz
  exact lv_iadd X.1 X.2.1 (bp_dec X hd) (w p e R s₀ m args below meth cd H locs cells slots lr X hR h1 h2 h3 hl hcl hz)
theorem bp_isub {x y : Int32} (k : Nat) (hd : M.2.2.2.2[k]? = some (pc, .isub, 1)) (hq : pc + 1 = q) (w : bp_A l G H0 d M h c s q ls (.int (x - y) :: st) Q) : bp_A l G H0 d M h c s pc ls (.int y :: .int x :: st) Q := by
  subst hq
  intro p e R s₀ m args below meth cd H locs cells slots lr X hR h1 h2 h3 hl hcl hz
  exact lv_isub X.1 X.2.1 (bp_dec X hd) (w p e R s₀ m args below meth cd H locs cells slots lr X hR h1 h2 h3 hl hcl hz)
theorem bp_imul {x y : Int32} (k : Nat) (hd : M.2.2.2.2[k]? = some (pc, .imul, 1)) (hq : pc + 1 = q) (w : bp_A l G H0 d M h c s q ls (.int (x * y) :: st) Q) : bp_A l G H0 d M h c s pc ls (.int y :: .int x :: st) Q := by
  subst hq
  intro p e R s₀ m args below meth cd H locs cells slots lr X hR h1 h2 h3 hl hcl hz
  exact lv_imul X.1 X.2.1 (bp_dec X hd) (w p e R s₀ m args below meth cd H locs cells slots lr X hR h1 h2 h3 hl hcl hz)
theorem bp_iand {x y : Int32} (k : Nat) (hd : M.2.2.2.2[k]? = some (pc, .iand, 1)) (hq : pc + 1 = q) (w : bp_A l G H0 d M h c s q ls (.int (x &&& y) :: st) Q) : bp_A l G H0 d M h c s pc ls (.int y :: .int x :: st) Q := by
  subst hq
  intro p e R s₀ m args below meth cd H locs cells slots lr X hR h1 h2 h3 hl hcl hz
  exact lv_iand X.1 X.2.1 (bp_dec X hd) (w p e R s₀ m args below meth cd H locs cells slots lr X hR h1 h2 h3 hl hcl hz)
theorem bp_ior {x y : Int32} (k : Nat) (hd : M.2.2.2.2[k]? = some (pc, .ior, 1)) (hq : pc + 1 = q) (w : bp_A l G H0 d M h c s q ls (.int (x ||| y) :: st) Q) : bp_A l G H0 d M h c s pc ls (.int y :: .int x :: st) Q := by
  subst hq
  intro p e R s₀ m args below meth cd H locs cells slots lr X hR h1 h2 h3 hl hcl hz
  exact lv_ior X.1 X.2.1 (bp_dec X hd) (w p e R s₀ m args below meth cd H locs cells slots lr X hR h1 h2 h3 hl hcl hz)
theorem bp_ixor {x y : Int32} (k : Nat) (hd : M.2.2.2.2[k]? = some (pc, .ixor, 1)) (hq : pc + 1 = q) (w : bp_A l G H0 d M h c s q ls (.int (x ^^^ y) :: st) Q) : bp_A l G H0 d M h c s pc ls (.int y :: .int x :: st) Q := by
  subst hq
  intro p e R s₀ m args below meth cd H locs cells slots lr X hR h1 h2 h3 hl hcl hz
  exact lv_ixor X.1 X.2.1 (bp_dec X hd) (w p e R s₀ m args below meth cd H locs cells slots lr X hR h1 h2 h3 hl hcl hz)
theorem bp_ishl {x y : Int32} (k : Nat) (hd : M.2.2.2.2[k]? = some (pc, .ishl, 1)) (hq : pc + 1 = q) (w : bp_A l G H0 d M h c s q ls (.int (x <<< (y &&& 31)) :: st) Q) : bp_A l G H0 d M h c s pc ls (.int y :: .int x :: st) Q := by
  subst hq
  intro p e R s₀ m args below meth cd H locs cells slots lr X hR h1 h2 h3 hl hcl hz
  exact lv_ishl X.1 X.2.1 (bp_dec X hd) (w p e R s₀ m args below meth cd H locs cells slots lr X hR h1 h2 h3 hl hcl hz)
theorem bp_ishr {x y : Int32} (k : Nat) (hd : M.2.2.2.2[k]? = some (pc, .ishr, 1)) (hq : pc + 1 = q) (w : bp_A l G H0 d M h c s q ls (.int (x >>> (y &&& 31)) :: st) Q) : bp_A l G H0 d M h c s pc ls (.int y :: .int x :: st) Q := by
  subst hq
  intro p e R s₀ m args below meth cd H locs cells slots lr X hR h1 h2 h3 hl hcl hz
  exact lv_ishr X.1 X.2.1 (bp_dec X hd) (w p e R s₀ m args below meth cd H locs cells slots lr X hR h1 h2 h3 hl hcl hz)
theorem bp_idiv {x y : Int32} (k : Nat) (hd : M.2.2.2.2[k]? = some (pc, .idiv, 1)) (hq : pc + 1 = q) (hne : ¬ y = 0) (w : bp_A l G H0 d M h c s q ls (.int (x / y) :: st) Q) : bp_A l G H0 d M h c s pc ls (.int y :: .int x :: st) Q := by
  subst hq
  intro p e R s₀ m args below meth cd H locs cells slots lr X hR h1 h2 h3 hl hcl hz
  exact lv_idiv X.1 X.2.1 (bp_dec X hd) hne (w p e R s₀ m args below meth cd H locs cells slots lr X hR h1 h2 h3 hl hcl hz)
theorem bp_irem {x y : Int32} (k : Nat) (hd : M.2.2.2.2[k]? = some (pc, .irem, 1)) (hq : pc + 1 = q) (hne : ¬ y = 0) (w : bp_A l G H0 d M h c s q ls (.int (x - x / y * y) :: st) Q) : bp_A l G H0 d M h c s pc ls (.int y :: .int x :: st) Q := by
  subst hq
  intro p e R s₀ m args below meth cd H locs cells slots lr X hR h1 h2 h3 hl hcl hz
  exact lv_irem X.1 X.2.1 (bp_dec X hd) hne (w p e R s₀ m args below meth cd H locs cells slots lr X hR h1 h2 h3 hl hcl hz)
theorem bp_ineg {x : Int32} (k : Nat) (hd : M.2.2.2.2[k]? = some (pc, .ineg, 1)) (hq : pc + 1 = q) (w : bp_A l G H0 d M h c s q ls (.int (-x) :: st) Q) : bp_A l G H0 d M h c s pc ls (.int x :: st) Q := by
  subst hq
  intro p e R s₀ m args below meth cd H locs cells slots lr X hR h1 h2 h3 hl hcl hz
  exact lv_ineg X.1 X.2.1 (bp_dec X hd) (w p e R s₀ m args below meth cd H locs cells slots lr X hR h1 h2 h3 hl hcl hz)
theorem bp_ladd {x y : Int64} (k : Nat) (hd : M.2.2.2.2[k]? = some (pc, .ladd, 1)) (hq : pc + 1 = q) (w : bp_A l G H0 d M h c s q ls (.long (x + y) :: st) Q) : bp_A l G H0 d M h c s pc ls (.long y :: .long x :: st) Q := by
  subst hq
  intro p e R s₀ m args below meth cd H locs cells slots lr X hR h1 h2 h3 hl hcl hz
  exact lv_ladd X.1 X.2.1 (bp_dec X hd) (w p e R s₀ m args below meth cd H locs cells slots lr X hR h1 h2 h3 hl hcl hz)
theorem bp_lsub {x y : Int64} (k : Nat) (hd : M.2.2.2.2[k]? = some (pc, .lsub, 1)) (hq : pc + 1 = q) (w : bp_A l G H0 d M h c s q ls (.long (x - y) :: st) Q) : bp_A l G H0 d M h c s pc ls (.long y :: .long x :: st) Q := by
  subst hq
  intro p e R s₀ m args below meth cd H locs cells slots lr X hR h1 h2 h3 hl hcl hz
  exact lv_lsub X.1 X.2.1 (bp_dec X hd) (w p e R s₀ m args below meth cd H locs cells slots lr X hR h1 h2 h3 hl hcl hz)
theorem bp_land {x y : Int64} (k : Nat) (hd : M.2.2.2.2[k]? = some (pc, .land, 1)) (hq : pc + 1 = q) (w : bp_A l G H0 d M h c s q ls (.long (x &&& y) :: st) Q) : bp_A l G H0 d M h c s pc ls (.long y :: .long x :: st) Q := by
  subst hq
  intro p e R s₀ m args below meth cd H locs cells slots lr X hR h1 h2 h3 hl hcl hz
  exact lv_land X.1 X.2.1 (bp_dec X hd) (w p e R s₀ m args below meth cd H locs cells slots lr X hR h1 h2 h3 hl hcl hz)
theorem bp_lor {x y : Int64} (k : Nat) (hd : M.2.2.2.2[k]? = some (pc, .lor, 1)) (hq : pc + 1 = q) (w : bp_A l G H0 d M h c s q ls (.long (x ||| y) :: st) Q) : bp_A l G H0 d M h c s pc ls (.long y :: .long x :: st) Q := by
  subst hq
  intro p e R s₀ m args below meth cd H locs cells slots lr X hR h1 h2 h3 hl hcl hz
  exact lv_lor X.1 X.2.1 (bp_dec X hd) (w p e R s₀ m args below meth cd H locs cells slots lr X hR h1 h2 h3 hl hcl hz)
theorem bp_lxor {x y : Int64} (k : Nat) (hd : M.2.2.2.2[k]? = some (pc, .lxor, 1)) (hq : pc + 1 = q) (w : bp_A l G H0 d M h c s q ls (.long (x ^^^ y) :: st) Q) : bp_A l G H0 d M h c s pc ls (.long y :: .long x :: st) Q := by
  subst hq
  intro p e R s₀ m args below meth cd H locs cells slots lr X hR h1 h2 h3 hl hcl hz
  exact lv_lxor X.1 X.2.1 (bp_dec X hd) (w p e R s₀ m args below meth cd H locs cells slots lr X hR h1 h2 h3 hl hcl hz)
theorem bp_lushr {x : Int64} {y : Int32} (k : Nat) (hd : M.2.2.2.2[k]? = some (pc, .lushr, 1)) (hq : pc + 1 = q) (w : bp_A l G H0 d M h c s q ls (.long (x.toUInt64 >>> (y.toInt64.toUInt64 &&& Int64.toUInt64 63)).toInt64 :: st) Q) : bp_A l G H0 d M h c s pc ls (.int y :: .long x :: st) Q := by
  subst hq
  intro p e R s₀ m args below meth cd H locs cells slots lr X hR h1 h2 h3 hl hcl hz
  exact lv_lushr X.1 X.2.1 (bp_dec X hd) rfl (w p e R s₀ m args below meth cd H locs cells slots lr X hR h1 h2 h3 hl hcl hz)
theorem bp_lshl {x : Int64} {y : Int32} (k : Nat) (hd : M.2.2.2.2[k]? = some (pc, .lshl, 1)) (hq : pc + 1 = q) (w : bp_A l G H0 d M h c s q ls (.long (x <<< (y.toInt64 &&& 63)) :: st) Q) : bp_A l G H0 d M h c s pc ls (.int y :: .long x :: st) Q := by
  subst hq
  intro p e R s₀ m args below meth cd H locs cells slots lr X hR h1 h2 h3 hl hcl hz
  exact lv_lshl X.1 X.2.1 (bp_dec X hd) rfl (w p e R s₀ m args below meth cd H locs cells slots lr X hR h1 h2 h3 hl hcl hz)
theorem bp_i2l {x : Int32} (k : Nat) (hd : M.2.2.2.2[k]? = some (pc, .i2l, 1)) (hq : pc + 1 = q) (w : bp_A l G H0 d M h c s q ls (.long x.toInt64 :: st) Q) : bp_A l G H0 d M h c s pc ls (.int x :: st) Q := by
  subst hq
  intro p e R s₀ m args below meth cd H locs cells slots lr X hR h1 h2 h3 hl hcl hz
  exact lv_i2l X.1 X.2.1 (bp_dec X hd) rfl (w p e R s₀ m args below meth cd H locs cells slots lr X hR h1 h2 h3 hl hcl hz)
theorem bp_l2i {x : Int64} (k : Nat) (hd : M.2.2.2.2[k]? = some (pc, .l2i, 1)) (hq : pc + 1 = q) (w : bp_A l G H0 d M h c s q ls (.int x.toInt32 :: st) Q) : bp_A l G H0 d M h c s pc ls (.long x :: st) Q := by
  subst hq
  intro p e R s₀ m args below meth cd H locs cells slots lr X hR h1 h2 h3 hl hcl hz
  exact lv_l2i X.1 X.2.1 (bp_dec X hd) rfl (w p e R s₀ m args below meth cd H locs cells slots lr X hR h1 h2 h3 hl hcl hz)
theorem bp_i2c {x : Int32} (k : Nat) (hd : M.2.2.2.2[k]? = some (pc, .i2c, 1)) (hq : pc + 1 = q) (w : bp_A l G H0 d M h c s q ls (.int (x.toUInt32 % 65536).toInt32 :: st) Q) : bp_A l G H0 d M h c s pc ls (.int x :: st) Q := by
  subst hq
  intro p e R s₀ m args below meth cd H locs cells slots lr X hR h1 h2 h3 hl hcl hz
  exact lv_i2c X.1 X.2.1 (bp_dec X hd) rfl (w p e R s₀ m args below meth cd H locs cells slots lr X hR h1 h2 h3 hl hcl hz)
theorem bp_i2b {x : Int32} (k : Nat) (hd : M.2.2.2.2[k]? = some (pc, .i2b, 1)) (hq : pc + 1 = q) (w : bp_A l G H0 d M h c s q ls (.int x.toInt8.toInt32 :: st) Q) : bp_A l G H0 d M h c s pc ls (.int x :: st) Q := by
  subst hq
  intro p e R s₀ m args below meth cd H locs cells slots lr X hR h1 h2 h3 hl hcl hz
  exact lv_i2b X.1 X.2.1 (bp_dec X hd) rfl (w p e R s₀ m args below meth cd H locs cells slots lr X hR h1 h2 h3 hl hcl hz)
theorem bp_lcmp {x y : Int64} (k : Nat) (hd : M.2.2.2.2[k]? = some (pc, .lcmp, 1)) (hq : pc + 1 = q) (w : bp_A l G H0 d M h c s q ls (.int (lg_cmp x y) :: st) Q) : bp_A l G H0 d M h c s pc ls (.long y :: .long x :: st) Q := by
  subst hq
  intro p e R s₀ m args below meth cd H locs cells slots lr X hR h1 h2 h3 hl hcl hz
  exact W.lcmp X.1 X.2.1 (bp_dec X hd) (w p e R s₀ m args below meth cd H locs cells slots lr X hR h1 h2 h3 hl hcl hz)
theorem bp_dup {v : Value} (k : Nat) (hd : M.2.2.2.2[k]? = some (pc, .dup, 1)) (hq : pc + 1 = q) (hv : v.category = 1) (w : bp_A l G H0 d M h c s q ls (v :: v :: st) Q) : bp_A l G H0 d M h c s pc ls (v :: st) Q := by
  subst hq
  intro p e R s₀ m args below meth cd H locs cells slots lr X hR h1 h2 h3 hl hcl hz
  exact lv_dup X.1 X.2.1 (bp_dec X hd) hv (w p e R s₀ m args below meth cd H locs cells slots lr X hR h1 h2 h3 hl hcl hz)
theorem bp_pop {v : Value} (k : Nat) (hd : M.2.2.2.2[k]? = some (pc, .pop, 1)) (hq : pc + 1 = q) (hv : v.category = 1) (w : bp_A l G H0 d M h c s q ls st Q) : bp_A l G H0 d M h c s pc ls (v :: st) Q := by
  subst hq
  intro p e R s₀ m args below meth cd H locs cells slots lr X hR h1 h2 h3 hl hcl hz
  exact lv_pop X.1 X.2.1 (bp_dec X hd) hv (w p e R s₀ m args below meth cd H locs cells slots lr X hR h1 h2 h3 hl hcl hz)
theorem bp_dup_x1 {v u : Value} (k : Nat) (hd : M.2.2.2.2[k]? = some (pc, .dup_x1, 1)) (hq : pc + 1 = q) (hv : v.category = 1) (hu : u.category = 1) (w : bp_A l G H0 d M h c s q ls (v :: u :: v :: st) Q) : bp_A l G H0 d M h c s pc ls (v :: u :: st) Q := by
  subst hq
  intro p e R s₀ m args below meth cd H locs cells slots lr X hR h1 h2 h3 hl hcl hz
  exact lv_dup_x1 X.1 X.2.1 (bp_dec X hd) hv hu (w p e R s₀ m args below meth cd H locs cells slots lr X hR h1 h2 h3 hl hcl hz)
theorem bp_dup_x2 {v u x : Value} (k : Nat) (hd : M.2.2.2.2[k]? = some (pc, .dup_x2, 1)) (hq : pc + 1 = q) (hv : v.category = 1) (hu : u.category = 1) (hx : x.category = 1) (w : bp_A l G H0 d M h c s q ls (v :: u :: x :: v :: st) Q) : bp_A l G H0 d M h c s pc ls (v :: u :: x :: st) Q := by
  subst hq
  intro p e R s₀ m args below meth cd H locs cells slots lr X hR h1 h2 h3 hl hcl hz
  exact lv_dup_x2 X.1 X.2.1 (bp_dec X hd) hv hu hx (w p e R s₀ m args below meth cd H locs cells slots lr X hR h1 h2 h3 hl hcl hz)
theorem bp_dup2 {v u : Value} (k : Nat) (hd : M.2.2.2.2[k]? = some (pc, .dup2, 1)) (hq : pc + 1 = q) (hv : v.category = 1) (hu : u.category = 1) (w : bp_A l G H0 d M h c s q ls (v :: u :: v :: u :: st) Q) : bp_A l G H0 d M h c s pc ls (v :: u :: st) Q := by
  subst hq
  intro p e R s₀ m args below meth cd H locs cells slots lr X hR h1 h2 h3 hl hcl hz
  exact lv_dup2_11 X.1 X.2.1 (bp_dec X hd) hv hu (w p e R s₀ m args below meth cd H locs cells slots lr X hR h1 h2 h3 hl hcl hz)
theorem bp_if_eq {x : Int32} {off : Int} {tgt : Nat} (k : Nat) (hd : M.2.2.2.2[k]? = some (pc, .ifCond .eq off, 3)) (hq : pc + 3 = q) (ht : (pc : Int) + off = (tgt : Int)) (wt : x = 0 → bp_A l G H0 d M h c s tgt ls st Q) (wf : ¬ x = 0 → bp_A l G H0 d M h c s q ls st Q) : bp_A l G H0 d M h c s pc ls (.int x :: st) Q := by
  subst hq
  intro p e R s₀ m args below meth cd H locs cells slots lr X hR h1 h2 h3 hl hcl hz
  exact lv_if_eq X.1 X.2.1 (bp_dec X hd) ht (fun z => wt z p e R s₀ m args below meth cd H locs cells slots lr X hR h1 h2 h3 hl hcl hz) (fun z => wf z p e R s₀ m args below meth cd H locs cells slots lr X hR h1 h2 h3 hl hcl hz)
theorem bp_icmp_eq {x y : Int32} {off : Int} {tgt : Nat} (k : Nat) (hd : M.2.2.2.2[k]? = some (pc, .if_icmp .eq off, 3)) (hq : pc + 3 = q) (ht : (pc : Int) + off = (tgt : Int)) (wt : x = y → bp_A l G H0 d M h c s tgt ls st Q) (wf : ¬ x = y → bp_A l G H0 d M h c s q ls st Q) : bp_A l G H0 d M h c s pc ls (.int y :: .int x :: st) Q := by
  subst hq
  intro p e R s₀ m args below meth cd H locs cells slots lr X hR h1 h2 h3 hl hcl hz
  exact lv_icmp_eq X.1 X.2.1 (bp_dec X hd) ht (fun z => wt z p e R s₀ m args below meth cd H locs cells slots lr X hR h1 h2 h3 hl hcl hz) (fun z => wf z p e R s₀ m args below meth cd H locs cells slots lr X hR h1 h2 h3 hl hcl hz)
theorem bp_if_ne {x : Int32} {off : Int} {tgt : Nat} (k : Nat) (hd : M.2.2.2.2[k]? = some (pc, .ifCond .ne off, 3)) (hq : pc + 3 = q) (ht : (pc : Int) + off = (tgt : Int)) (wt : ¬ x = 0 → bp_A l G H0 d M h c s tgt ls st Q) (wf : x = 0 → bp_A l G H0 d M h c s q ls st Q) : bp_A l G H0 d M h c s pc ls (.int x :: st) Q := by
  subst hq
  intro p e R s₀ m args below meth cd H locs cells slots lr X hR h1 h2 h3 hl hcl hz
  exact lv_if_ne X.1 X.2.1 (bp_dec X hd) ht (fun z => wt z p e R s₀ m args below meth cd H locs cells slots lr X hR h1 h2 h3 hl hcl hz) (fun z => wf z p e R s₀ m args below meth cd H locs cells slots lr X hR h1 h2 h3 hl hcl hz)
theorem bp_icmp_ne {x y : Int32} {off : Int} {tgt : Nat} (k : Nat) (hd : M.2.2.2.2[k]? = some (pc, .if_icmp .ne off, 3)) (hq : pc + 3 = q) (ht : (pc : Int) + off = (tgt : Int)) (wt : ¬ x = y → bp_A l G H0 d M h c s tgt ls st Q) (wf : x = y → bp_A l G H0 d M h c s q ls st Q) : bp_A l G H0 d M h c s pc ls (.int y :: .int x :: st) Q := by
  subst hq
  intro p e R s₀ m args below meth cd H locs cells slots lr X hR h1 h2 h3 hl hcl hz
  exact lv_icmp_ne X.1 X.2.1 (bp_dec X hd) ht (fun z => wt z p e R s₀ m args below meth cd H locs cells slots lr X hR h1 h2 h3 hl hcl hz) (fun z => wf z p e R s₀ m args below meth cd H locs cells slots lr X hR h1 h2 h3 hl hcl hz)
theorem bp_if_lt {x : Int32} {off : Int} {tgt : Nat} (k : Nat) (hd : M.2.2.2.2[k]? = some (pc, .ifCond .lt off, 3)) (hq : pc + 3 = q) (ht : (pc : Int) + off = (tgt : Int)) (wt : x < 0 → bp_A l G H0 d M h c s tgt ls st Q) (wf : ¬ x < 0 → bp_A l G H0 d M h c s q ls st Q) : bp_A l G H0 d M h c s pc ls (.int x :: st) Q := by
  subst hq
  intro p e R s₀ m args below meth cd H locs cells slots lr X hR h1 h2 h3 hl hcl hz
  exact lv_if_lt X.1 X.2.1 (bp_dec X hd) ht (fun z => wt z p e R s₀ m args below meth cd H locs cells slots lr X hR h1 h2 h3 hl hcl hz) (fun z => wf z p e R s₀ m args below meth cd H locs cells slots lr X hR h1 h2 h3 hl hcl hz)
theorem bp_icmp_lt {x y : Int32} {off : Int} {tgt : Nat} (k : Nat) (hd : M.2.2.2.2[k]? = some (pc, .if_icmp .lt off, 3)) (hq : pc + 3 = q) (ht : (pc : Int) + off = (tgt : Int)) (wt : x < y → bp_A l G H0 d M h c s tgt ls st Q) (wf : ¬ x < y → bp_A l G H0 d M h c s q ls st Q) : bp_A l G H0 d M h c s pc ls (.int y :: .int x :: st) Q := by
  subst hq
  intro p e R s₀ m args below meth cd H locs cells slots lr X hR h1 h2 h3 hl hcl hz
  exact lv_icmp_lt X.1 X.2.1 (bp_dec X hd) ht (fun z => wt z p e R s₀ m args below meth cd H locs cells slots lr X hR h1 h2 h3 hl hcl hz) (fun z => wf z p e R s₀ m args below meth cd H locs cells slots lr X hR h1 h2 h3 hl hcl hz)
theorem bp_if_ge {x : Int32} {off : Int} {tgt : Nat} (k : Nat) (hd : M.2.2.2.2[k]? = some (pc, .ifCond .ge off, 3)) (hq : pc + 3 = q) (ht : (pc : Int) + off = (tgt : Int)) (wt : 0 ≤ x → bp_A l G H0 d M h c s tgt ls st Q) (wf : ¬ 0 ≤ x → bp_A l G H0 d M h c s q ls st Q) : bp_A l G H0 d M h c s pc ls (.int x :: st) Q := by
  subst hq
  intro p e R s₀ m args below meth cd H locs cells slots lr X hR h1 h2 h3 hl hcl hz
  exact lv_if_ge X.1 X.2.1 (bp_dec X hd) ht (fun z => wt z p e R s₀ m args below meth cd H locs cells slots lr X hR h1 h2 h3 hl hcl hz) (fun z => wf z p e R s₀ m args below meth cd H locs cells slots lr X hR h1 h2 h3 hl hcl hz)
theorem bp_icmp_ge {x y : Int32} {off : Int} {tgt : Nat} (k : Nat) (hd : M.2.2.2.2[k]? = some (pc, .if_icmp .ge off, 3)) (hq : pc + 3 = q) (ht : (pc : Int) + off = (tgt : Int)) (wt : y ≤ x → bp_A l G H0 d M h c s tgt ls st Q) (wf : ¬ y ≤ x → bp_A l G H0 d M h c s q ls st Q) : bp_A l G H0 d M h c s pc ls (.int y :: .int x :: st) Q := by
  subst hq
  intro p e R s₀ m args below meth cd H locs cells slots lr X hR h1 h2 h3 hl hcl hz
  exact lv_icmp_ge X.1 X.2.1 (bp_dec X hd) ht (fun z => wt z p e R s₀ m args below meth cd H locs cells slots lr X hR h1 h2 h3 hl hcl hz) (fun z => wf z p e R s₀ m args below meth cd H locs cells slots lr X hR h1 h2 h3 hl hcl hz)
theorem bp_if_gt {x : Int32} {off : Int} {tgt : Nat} (k : Nat) (hd : M.2.2.2.2[k]? = some (pc, .ifCond .gt off, 3)) (hq : pc + 3 = q) (ht : (pc : Int) + off = (tgt : Int)) (wt : 0 < x → bp_A l G H0 d M h c s tgt ls st Q) (wf : ¬ 0 < x → bp_A l G H0 d M h c s q ls st Q) : bp_A l G H0 d M h c s pc ls (.int x :: st) Q := by
  subst hq
  intro p e R s₀ m args below meth cd H locs cells slots lr X hR h1 h2 h3 hl hcl hz
  exact lv_if_gt X.1 X.2.1 (bp_dec X hd) ht (fun z => wt z p e R s₀ m args below meth cd H locs cells slots lr X hR h1 h2 h3 hl hcl hz) (fun z => wf z p e R s₀ m args below meth cd H locs cells slots lr X hR h1 h2 h3 hl hcl hz)
theorem bp_icmp_gt {x y : Int32} {off : Int} {tgt : Nat} (k : Nat) (hd : M.2.2.2.2[k]? = some (pc, .if_icmp .gt off, 3)) (hq : pc + 3 = q) (ht : (pc : Int) + off = (tgt : Int)) (wt : y < x → bp_A l G H0 d M h c s tgt ls st Q) (wf : ¬ y < x → bp_A l G H0 d M h c s q ls st Q) : bp_A l G H0 d M h c s pc ls (.int y :: .int x :: st) Q := by
  subst hq
  intro p e R s₀ m args below meth cd H locs cells slots lr X hR h1 h2 h3 hl hcl hz
  exact lv_icmp_gt X.1 X.2.1 (bp_dec X hd) ht (fun z => wt z p e R s₀ m args below meth cd H locs cells slots lr X hR h1 h2 h3 hl hcl hz) (fun z => wf z p e R s₀ m args below meth cd H locs cells slots lr X hR h1 h2 h3 hl hcl hz)
theorem bp_if_le {x : Int32} {off : Int} {tgt : Nat} (k : Nat) (hd : M.2.2.2.2[k]? = some (pc, .ifCond .le off, 3)) (hq : pc + 3 = q) (ht : (pc : Int) + off = (tgt : Int)) (wt : x ≤ 0 → bp_A l G H0 d M h c s tgt ls st Q) (wf : ¬ x ≤ 0 → bp_A l G H0 d M h c s q ls st Q) : bp_A l G H0 d M h c s pc ls (.int x :: st) Q := by
  subst hq
  intro p e R s₀ m args below meth cd H locs cells slots lr X hR h1 h2 h3 hl hcl hz
  exact lv_if_le X.1 X.2.1 (bp_dec X hd) ht (fun z => wt z p e R s₀ m args below meth cd H locs cells slots lr X hR h1 h2 h3 hl hcl hz) (fun z => wf z p e R s₀ m args below meth cd H locs cells slots lr X hR h1 h2 h3 hl hcl hz)
theorem bp_icmp_le {x y : Int32} {off : Int} {tgt : Nat} (k : Nat) (hd : M.2.2.2.2[k]? = some (pc, .if_icmp .le off, 3)) (hq : pc + 3 = q) (ht : (pc : Int) + off = (tgt : Int)) (wt : x ≤ y → bp_A l G H0 d M h c s tgt ls st Q) (wf : ¬ x ≤ y → bp_A l G H0 d M h c s q ls st Q) : bp_A l G H0 d M h c s pc ls (.int y :: .int x :: st) Q := by
  subst hq
  intro p e R s₀ m args below meth cd H locs cells slots lr X hR h1 h2 h3 hl hcl hz
  exact lv_icmp_le X.1 X.2.1 (bp_dec X hd) ht (fun z => wt z p e R s₀ m args below meth cd H locs cells slots lr X hR h1 h2 h3 hl hcl hz) (fun z => wf z p e R s₀ m args below meth cd H locs cells slots lr X hR h1 h2 h3 hl hcl hz)
theorem bp_goto {off : Int} {tgt : Nat} (k : Nat) (hd : M.2.2.2.2[k]? = some (pc, .goto off, 3)) (ht : (pc : Int) + off = (tgt : Int)) (w : bp_A l G H0 d M h c s tgt ls st Q) : bp_A l G H0 d M h c s pc ls st Q := by
  intro p e R s₀ m args below meth cd H locs cells slots lr X hR h1 h2 h3 hl hcl hz
  exact lv_goto X.1 X.2.1 (bp_dec X hd) ht (w p e R s₀ m args below meth cd H locs cells slots lr X hR h1 h2 h3 hl hcl hz)
theorem bp_iret {x : Int32} {ty : FieldType} (k : Nat) (hd : M.2.2.2.2[k]? = some (pc, .ireturn, 1)) (hr : M.2.2.2.1 = some ty) (hn : narrow ty (.int x) = .int x) (hQ : Q (.returned (some (.int x))) h c s) (hke : d.2.2.2 = true → d.2.2.1 = true := by first | exact id | exact fun _ => rfl) : bp_A l G H0 d M h c s pc ls [.int x] Q := by
  intro p e R s₀ m args below meth cd H locs cells slots lr X hR h1 h2 h3 hl hcl hz
  refine bp_Wmono (fun t ht => ?_) (W.zret (Qc := fun _ _ o t => o = .returned (some (.int x)) ∧ t.heap = H) (free := fun a => H0.size ≤ a ∧ locs ≠ []) X.1 X.2.1 (X.2.2.2.2.2.2.2.1.trans hr) hn (fun t ht _ => ⟨rfl, ht⟩) (fun q hq => ⟨h3 q hq, List.ne_nil_of_mem hq⟩) (bp_dec X hd) X.2.2.2.2.2.2.2.2.1)
  obtain ⟨o, b1, b2, ⟨rfl, b3⟩, L, ⟨-, b4, b5⟩, b6⟩ := ht
  exact ⟨_, b1, b2, L, cells, slots, h, c, s, b4, b5, fun q hq => (b6 q hq).1, by rw [b3]; exact hR, h1, h2, fun z v hv => ⟨by rw [b3]; exact (hcl (hke z)).1, List.eq_nil_iff_forall_not_mem.mpr (fun q hq => (b6 q hq).2 (hcl (hke z)).2.1), (hcl (hke z)).2.2⟩, hQ⟩
theorem bp_lret {x : Int64} (k : Nat) (hd : M.2.2.2.2[k]? = some (pc, .lreturn, 1)) (hr : M.2.2.2.1 = some .long) (hQ : Q (.returned (some (.long x))) h c s) (hke : d.2.2.2 = true → d.2.2.1 = true := by first | exact id | exact fun _ => rfl) : bp_A l G H0 d M h c s pc ls [.long x] Q := by
  intro p e R s₀ m args below meth cd H locs cells slots lr X hR h1 h2 h3 hl hcl hz
  refine bp_Wmono (fun t ht => ?_) (W.lret (Qc := fun _ _ o t => o = .returned (some (.long x)) ∧ t.heap = H) (free := fun a => H0.size ≤ a ∧ locs ≠ []) X.1 X.2.1 (X.2.2.2.2.2.2.2.1.trans hr) (fun t ht _ => ⟨rfl, ht⟩) (fun q hq => ⟨h3 q hq, List.ne_nil_of_mem hq⟩) (bp_dec X hd) X.2.2.2.2.2.2.2.2.1)
  obtain ⟨o, b1, b2, ⟨rfl, b3⟩, L, ⟨-, b4, b5⟩, b6⟩ := ht
  exact ⟨_, b1, b2, L, cells, slots, h, c, s, b4, b5, fun q hq => (b6 q hq).1, by rw [b3]; exact hR, h1, h2, fun z v hv => ⟨by rw [b3]; exact (hcl (hke z)).1, List.eq_nil_iff_forall_not_mem.mpr (fun q hq => (b6 q hq).2 (hcl (hke z)).2.1), (hcl (hke z)).2.2⟩, hQ⟩
theorem bp_vret  (k : Nat) (hd : M.2.2.2.2[k]? = some (pc, .return_, 1)) (hr : M.2.2.2.1 = none) (hQ : Q (.returned none) h c s) (hke : d.2.2.2 = true → d.2.2.1 = true := by first | exact id | exact fun _ => rfl) : bp_A l G H0 d M h c s pc ls [] Q := by
  intro p e R s₀ m args below meth cd H locs cells slots lr X hR h1 h2 h3 hl hcl hz
  refine bp_Wmono (fun t ht => ?_) (W.vret (Qc := fun _ _ o t => o = .returned none ∧ t.heap = H) (free := fun a => H0.size ≤ a ∧ locs ≠ []) X.1 X.2.1 (X.2.2.2.2.2.2.2.1.trans hr) (fun t ht _ => ⟨rfl, ht⟩) (fun q hq => ⟨h3 q hq, List.ne_nil_of_mem hq⟩) (bp_dec X hd) X.2.2.2.2.2.2.2.2.1)
  obtain ⟨o, b1, b2, ⟨rfl, b3⟩, L, ⟨-, b4, b5⟩, b6⟩ := ht
  exact ⟨_, b1, b2, L, cells, slots, h, c, s, b4, b5, fun q hq => (b6 q hq).1, by rw [b3]; exact hR, h1, h2, fun z v hv => ⟨by rw [b3]; exact (hcl (hke z)).1, List.eq_nil_iff_forall_not_mem.mpr (fun q hq => (b6 q hq).2 (hcl (hke z)).2.1), (hcl (hke z)).2.2⟩, hQ⟩
theorem bp_aret {x : Nat} {ty : FieldType} (k : Nat) (hd : M.2.2.2.2[k]? = some (pc, .areturn, 1)) (hr : M.2.2.2.1 = some ty) (hy : (∃ n, ty = .object n) ∨ ∃ t, ty = .array t) (hQ : Q (.returned (some (.ref x))) h c s) (hke : d.2.2.2 = true → d.2.2.1 = true := by first | exact id | exact fun _ => rfl) : bp_A l G H0 d M h c s pc ls [.ref x] Q := by
  intro p e R s₀ m args below meth cd H locs cells slots lr X hR h1 h2 h3 hl hcl hz
  refine bp_Wmono (fun t ht => ?_) (W.aret (Qc := fun _ _ o t => o = .returned (some (.ref x)) ∧ t.heap = H) (free := fun a => H0.size ≤ a ∧ locs ≠ []) X.1 X.2.1 (X.2.2.2.2.2.2.2.1.trans hr) hy (Or.inr ⟨x, rfl⟩) (fun t ht _ => ⟨rfl, ht⟩) (fun q hq => ⟨h3 q hq, List.ne_nil_of_mem hq⟩) (bp_dec X hd) X.2.2.2.2.2.2.2.2.1)
  obtain ⟨o, b1, b2, ⟨rfl, b3⟩, L, ⟨-, b4, b5⟩, b6⟩ := ht
  exact ⟨_, b1, b2, L, cells, slots, h, c, s, b4, b5, fun q hq => (b6 q hq).1, by rw [b3]; exact hR, h1, h2, fun z v hv => ⟨by rw [b3]; exact (hcl (hke z)).1, List.eq_nil_iff_forall_not_mem.mpr (fun q hq => (b6 q hq).2 (hcl (hke z)).2.1), (hcl (hke z)).2.2⟩, hQ⟩
end BPR
