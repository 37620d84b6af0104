/-! the object between two calls: Z its cells (43 itself, 42, 41 IN, 40 OUT's row, 39 its first array, 38 .. 31 the page, 30 .. 23 the draft, 22 the braced reader, 21 its state, 20 the noted ones' array, 19, 18, 17, 16 the table, 4 .. 15 the noted states, 3 the tagged reader, 2, 1 the braced writer, 0 the tagged writer); aO, na: the arrays of OUT and of the table's name now -/
def zP (Z : Nat → Nat) : Nat → Nat := fun i => Z (38 - i)
def zD (Z : Nat → Nat) : Nat → Nat := fun i => Z (30 - i)
def aIx (j : Nat) : Nat := if j < 6 then 22 - j else if j = 6 then 42 else if j = 7 then 41 else j - 4
def zA (Z : Nat → Nat) : Nat → Nat := fun j => Z (aIx j)
def zB (Z : Nat → Nat) : Nat → Nat := fun j => Z (if j = 0 then 3 else if j = 1 then 42 else 41)
def zOk (Z : Nat → Nat) (aO na : Nat) : Prop := (∀ i j, i < 44 → j < 44 → Z i = Z j → i = j) ∧ (∀ i, i < 44 → i ≠ 39 → i ≠ 16 → aO ≠ Z i) ∧ (∀ i, i < 44 → i ≠ 39 → i ≠ 16 → na ≠ Z i) ∧ aO ≠ na
def xO (Z : Nat → Nat) (h : bp_H) (me : Int32) : Prop := bp_K h (Z 43) = 6 ∧ bp_R h (Z 43) 0 = some (Z 42) ∧ bp_R h (Z 43) 1 = some (Z 40) ∧ bp_R h (Z 43) 2 = some (Z 38) ∧ bp_R h (Z 43) 3 = some (Z 30) ∧ bp_R h (Z 43) 4 = some (Z 22) ∧ bp_R h (Z 43) 5 = some (Z 3) ∧ bp_R h (Z 43) 6 = some (Z 2) ∧ bp_R h (Z 43) 7 = some (Z 0) ∧ bp_I h (Z 43) 8 = me
def xBW (Z : Nat → Nat) (h : bp_H) (en : Nat → Nat) : Prop := bp_K h (Z 2) = 13 ∧ bp_R h (Z 2) 0 = some (Z 1) ∧ bp_R h (Z 2) 1 = some (Z 38) ∧ bp_R h (Z 2) 2 = some (Z 40) ∧ bp_K h (Z 1) = 1 ∧ bp_L h (Z 1) = 8 ∧ ∀ j, j < 8 → bp_I h (Z 1) j = nI (en j)
def xTW (Z : Nat → Nat) (h : bp_H) : Prop := bp_K h (Z 0) = 14 ∧ bp_R h (Z 0) 0 = some (Z 38) ∧ bp_R h (Z 0) 1 = some (Z 40)
/-- the braced reader's own cells -/
def xBR (Z : Nat → Nat) (h : bp_H) (na : Nat) (nm : List Nat) : Prop := brR (zA Z) (zD Z) h ∧ (∃ (i : Nat) (fa me : Int32) (lv : Nat) (fr it en : Bool) (v : Nat → Nat) (nt : List (Nat → Nat)) (tb : List Nat) (th w : Nat) (n : Int32) (d : Nat), brI h (Z 22) i fa me lv fr it en nt.length th w n d ∧ So h (Z 21) v ∧ brN (zA Z) h nt ∧ (bp_K h (Z 19) = 11 ∧ bp_R h (Z 19) 0 = some (Z 18) ∧ bp_R h (Z 19) 1 = some (Z 17) ∧ bp_I h (Z 19) 2 = nI tb.length ∧ bp_K h (Z 18) = 1 ∧ bp_L h (Z 18) = 8 ∧ tb.length ≤ 8 ∧ ∀ j, j < tb.length → bp_I h (Z 18) j = nI (tb.getD j 0))) ∧ Rw h (Z 17) na nm ∧ nm.length ≤ 400 ∧ ∀ x ∈ nm, x < 128
/-- the tagged reader's own cell -/
def xTR (Z : Nat → Nat) (h : bp_H) : Prop := trR (zB Z) (zD Z) h ∧ ∃ (i : Nat) (fa me : Int32) (ip : Bool) (ot rs : Nat) (hl ed : Bool) (sy sz co th nu ne : Nat), trI h (Z 3) i fa me ip ot rs hl ed sy sz co th nu ne ∧ rs ≤ 400
/-- C, S: what other calls may still need -/
def xRm (h : bp_H) (aO na C S c s : Nat) : Prop := bp_L h aO ≤ 36801 ∧ bp_L h na ≤ 803 ∧ C + 36801 + 803 ≤ c + bp_L h aO + bp_L h na ∧ S + 73602 + 1606 ≤ s + 2 * bp_L h aO + 2 * bp_L h na
/-- other cells, KP.2, are as in the heap KP.1 -/
def xPR (KP : bp_H × (Nat → Prop)) (Z : Nat → Nat) (h : bp_H) (aO na : Nat) : Prop := ∀ b, KP.2 b → bp_K KP.1 b ≠ 0 ∧ (∀ i, i < 44 → i ≠ 39 → i ≠ 16 → b ≠ Z i) ∧ b ≠ aO ∧ b ≠ na ∧ bp_sm KP.1 h b
def XI (KP : bp_H × (Nat → Prop)) (Z : Nat → Nat) (C S : Nat) (h : bp_H) (aO na : Nat) (T xs : List Nat) (L : List (Nat × Nat)) (ps : List (Nat × Nat × Nat)) (me : Int32) (c s : Nat) : Prop := zOk Z aO na ∧ xO Z h me ∧ Rw h (Z 42) (Z 41) T ∧ bp_L h (Z 41) = 400 ∧ Rw h (Z 40) aO xs ∧ Pg h (zP Z) L ps ∧ (∃ Ld psd, Pg h (zD Z) Ld psd) ∧ (∃ nm, xBR Z h na nm) ∧ xTR Z h ∧ (∃ en, xBW Z h en) ∧ xTW Z h ∧ xRm h aO na C S c s ∧ xPR KP Z h aO na
theorem getD_inj {l : List Nat} (nd : l.Nodup) {i j : Nat} (hi : i < l.length) (hj : j < l.length) (e : l.getD i 0 = l.getD j 0) : i = j := by
  rw [List.getD_eq_getElem?_getD, List.getD_eq_getElem?_getD, List.getElem?_eq_getElem hi, List.getElem?_eq_getElem hj] at e
  exact (List.getElem_inj nd).mp e
theorem nd_app {l1 l2 : List Nat} (h1 : l1.Nodup) (h2 : l2.Nodup) (h : ∀ a ∈ l1, a ∉ l2) : (l1 ++ l2).Nodup := by
  induction l1 with
  | nil => exact h2
  | cons a l ih =>
    rw [List.cons_append]
    rw [List.nodup_cons] at h1 ⊢
    exact ⟨fun hm => (List.mem_append.mp hm).elim h1.1 (h a List.mem_cons_self), ih h1.2 (fun b hb => h b (List.mem_cons_of_mem _ hb))⟩
theorem nd_map {N : Nat → Nat} : ∀ n, (∀ j k, j < n → k < n → N j = N k → j = k) → ((List.range n).map N).Nodup
  | 0, _ => List.nodup_nil
  | n + 1, h => by
    rw [List.range_succ, List.map_append]
    refine nd_app (nd_map n (fun j k hj hk => h j k (by omega) (by omega))) (List.nodup_cons.mpr ⟨List.not_mem_nil, List.nodup_nil⟩) (fun a ha hb => ?_)
    obtain ⟨j, hj, rfl⟩ := List.mem_map.mp ha
    have hj := List.mem_range.mp hj
    rw [List.map_singleton, List.mem_singleton] at hb
    have := h j n (by omega) (by omega) hb
    omega
theorem rw_0 {h : bp_H} {r a n : Nat} (H : oF h r 7 (bp_u1 (fun _ => none) 0 (some a))) (A : aF h a 1 n) (hn : n < 1000000) : Rw h r a [] := ⟨H.1, (H.2.2 0).trans rfl, (H.2.1 1).trans rfl, A.1, Nat.zero_le _, by rw [A.2.1]; exact hn, fun j hj => absurd hj (Nat.not_lt_zero j)⟩
theorem pg_0 {h : bp_H} {P : Nat → Nat} (F0 : oF h (P 0) 8 (bp_u1 (bp_u1 (bp_u1 (bp_u1 (bp_u1 (fun _ => none) 0 (some (P 1))) 1 (some (P 2))) 2 (some (P 3))) 3 (some (P 4))) 4 (some (P 6)))) (F1 : aF h (P 1) 1 16) (F2 : aF h (P 2) 1 16) (F3 : aF h (P 3) 1 16) (F4 : oF h (P 4) 7 (bp_u1 (fun _ => none) 0 (some (P 5)))) (F5 : aF h (P 5) 1 400) (F6 : oF h (P 6) 7 (bp_u1 (fun _ => none) 0 (some (P 7)))) (F7 : aF h (P 7) 1 400) (inj : ∀ i j, i < 8 → j < 8 → P i = P j → i = j) : Pg h P [] [] := ⟨F0.1, (F0.2.2 0).trans rfl, (F0.2.2 1).trans rfl, (F0.2.2 2).trans rfl, (F0.2.2 3).trans rfl, (F0.2.2 4).trans rfl, (F0.2.1 5).trans rfl, ⟨F1.1, F1.2.1⟩, ⟨F2.1, F2.2.1⟩, ⟨F3.1, F3.2.1⟩, by decide, fun j hj => absurd hj (Nat.not_lt_zero j), rw_0 F4 F5 (by decide), rw_0 F6 F7 (by decide), F5.2.1, F7.2.1, inj⟩
