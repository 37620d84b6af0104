/-! fields -/
def bp_Fl (own : String) (index ci k : Nat) : Prop := ∃ (r : vw_C) (ref : String), bp_cl[ci]? = some r ∧ k < r.2.2 ∧ (∀ w ∈ u_ws r.1 r.2.1 r.2.2, w ∈ bp_WS) ∧ (Cond.fieldLink own index ref (r.2.1 k).2.1 (r.2.1 k).2.2.1 ∈ bp_WS ∨ ∃ host, Cond.fieldLinkNest own index ref (r.2.1 k).2.1 (r.2.1 k).2.2.1 host ∈ bp_WS) ∧ (ref = (r.2.1 k).1 ∨ Cond.sameField ref (r.2.1 k).1 (r.2.1 k).2.1 (r.2.1 k).2.2.1 ∈ bp_WS)
/-- of every class: its descriptors and names -/
def bp_Cl (ci : Nat) : Prop := ∀ r : vw_C, bp_cl[ci]? = some r → (∀ k, k < r.2.2 → parseFieldDescriptor (r.2.1 k).2.2.1 = some (bp_ty ci k)) ∧ ∀ a, a < r.2.2 → ∀ b, b < r.2.2 → a ≠ b → (r.2.1 a).2.1 ≠ (r.2.1 b).2.1
theorem bp_cell_ob {G : bp_G} {h : bp_H} {a ci : Nat} {H : Heap} (c : bp_cell G h a H) (hk : bp_K h a = ci + 6) : t_OB a (G.1 ci) (bp_N ci) (G.2.1 ci) H (fun k => bp_val (bp_ty ci k) h a k) := by
  unfold bp_cell at c
  rw [hk] at c
  exact c
theorem bp_cell_of {G : bp_G} {h : bp_H} {a ci : Nat} {H : Heap} (hk : bp_K h a = ci + 6) (c : t_OB a (G.1 ci) (bp_N ci) (G.2.1 ci) H (fun k => bp_val (bp_ty ci k) h a k)) : bp_cell G h a H := by
  unfold bp_cell
  rw [hk]
  exact c
theorem bp_N_of {ci : Nat} {r : vw_C} (h : bp_cl[ci]? = some r) : bp_N ci = r.2.2 := by unfold bp_N; rw [h]
section BPF
variable {l : Launch} {G : bp_G} {H0 : Heap} {d : bp_Dp} {M : bp_M} {h : bp_H} {c s pc q : Nat} {ls ls' : List (Option Value)} {st : List Value} {Q : Outcome → bp_H → Nat → Nat → Prop}
theorem bp_same {s₀ : State} {args : Array Value} {ref o n ds : String} (hts : ∀ w ∈ bp_WS, w.before args s₀ = true) (h : ref = o ∨ Cond.sameField ref o n ds ∈ bp_WS) : ∀ x, s₀.fieldFound? o n ds = some x → s₀.fieldFound? ref n ds = some x := by
  rcases h with rfl | h
  · exact fun _ h => h
  · exact fun x hx => u_same (hts _ h) x hx
theorem bp_getf {a index ci j : Nat} {v : Value} (k : Nat) (hd : M.2.2.2.2[k]? = some (pc, .getfield index, 3)) (hq : pc + 3 = q) (hF : bp_Fl M.1.cls index ci j) (hK : bp_K h a = ci + 6) (hv : bp_val (bp_ty ci j) h a j = v) (w : bp_A l G H0 d M h c s q ls (v :: st) Q) : bp_A l G H0 d M h c s pc ls (.ref a :: st) Q := by
  subst hq
  intro p e R s₀ m args below meth cd H locs cells slots lr X hR h1 h2 h3 hl hcl hz
  obtain ⟨r, ref, hr, hj, hin, hlink, hsame⟩ := hF
  obtain ⟨C, T, N⟩ := r
  have hts := X.2.2.2.2.1
  have hown := X.2.2.2.1
  obtain ⟨cell, q1, q2, q3, q4⟩ := bp_cell_ob (hR.1 a) hK
  rw [bp_N_of hr] at q4
  obtain ⟨hS, hfc, kC, hkC, hkind⟩ := X.2.2.2.2.2.2.1.1 ci _ hr
  obtain ⟨cf, kf, fi, f, hi, hsl⟩ := hS j hj
  have hst := (u_facts hfc hkC (u_lays hts hin hj) hi).1
  have hslot : cell.slots[f.slot]? = some v := by rw [hsl]; exact (q4 j hj).trans (congrArg some hv)
  have w' := w p e R s₀ m args below meth cd H locs cells slots lr X hR h1 h2 h3 hl hcl hz
  rcases hlink with hlink | ⟨host, hlink⟩
  · exact W.getf X.1 X.2.1 hown (hts _ hlink) (bp_same hts hsame _ hi) hst q1 (by rw [q3]; exact fun h => by cases h) hslot rfl rfl (bp_dec X hd) w'
  · exact va_Wgetf X.1 X.2.1 hown (hts _ hlink) (bp_same hts hsame _ hi) hst q1 (by rw [q3]; exact fun h => by cases h) hslot rfl rfl (bp_dec X hd) w'
theorem bp_getI {a index ci j : Nat} (k : Nat) (hd : M.2.2.2.2[k]? = some (pc, .getfield index, 3)) (hq : pc + 3 = q) (hF : bp_Fl M.1.cls index ci j) (hK : bp_K h a = ci + 6) (hv : bp_val (bp_ty ci j) h a j = .int (bp_I h a j)) (w : bp_A l G H0 d M h c s q ls (.int (bp_I h a j) :: st) Q) : bp_A l G H0 d M h c s pc ls (.ref a :: st) Q := bp_getf k hd hq hF hK hv w
theorem bp_getR {a index ci j x : Nat} (k : Nat) (hd : M.2.2.2.2[k]? = some (pc, .getfield index, 3)) (hq : pc + 3 = q) (hF : bp_Fl M.1.cls index ci j) (hK : bp_K h a = ci + 6) (hv : bp_val (bp_ty ci j) h a j = va_rf (bp_R h a j)) (hx : bp_R h a j = some x) (w : bp_A l G H0 d M h c s q ls (.ref x :: st) Q) : bp_A l G H0 d M h c s pc ls (.ref a :: st) Q := bp_getf k hd hq hF hK (by rw [hv, hx]; rfl) w
theorem bp_putf {a index ci j : Nat} {v : Value} {h' : bp_H} (k : Nat) (hd : M.2.2.2.2[k]? = some (pc, .putfield index, 3)) (hq : pc + 3 = q) (hF : bp_Fl M.1.cls index ci j) (hC : bp_Cl ci) (hK : bp_K h a = ci + 6)
    (hfin : ∀ r, bp_cl[ci]? = some r → (r.2.1 j).2.2.2 = false ∨ ((r.2.1 j).2.2.2 = true ∧ M.1.name = "<init>" ∧ (r.2.1 j).1 = M.1.cls ∧ ∃ ref, Cond.fieldLink M.1.cls index ref (r.2.1 j).2.1 (r.2.1 j).2.2.1 ∈ bp_WS ∧ ref = (r.2.1 j).1))
    (hn : narrow (bp_ty ci j) v = v) (hf : fits (bp_ty ci j) v = true)
    (e1 : ∀ b, bp_K h' b = bp_K h b) (e2 : ∀ b, bp_L h' b = bp_L h b) (e3 : ∀ b, b ≠ a → ∀ x, bp_I h' b x = bp_I h b x) (e4 : ∀ b, b ≠ a → ∀ x, bp_J h' b x = bp_J h b x) (e5 : ∀ b, b ≠ a → ∀ x, bp_R h' b x = bp_R h b x)
    (e6 : bp_val (bp_ty ci j) h' a j = v) (e7 : ∀ x, x ≠ j → bp_val (bp_ty ci x) h' a x = bp_val (bp_ty ci x) h a x)
    (w : bp_A l G H0 d M h' c s q ls st Q) (hk : d.2.2.1 = false := by rfl) : bp_A l G H0 d M h c s pc ls (v :: .ref a :: st) Q := by
  subst hq
  intro p e R s₀ m args below meth cd H locs cells slots lr X hR h1 h2 h3 hl hcl hz
  obtain ⟨r, ref, hr, hj, hin, hlink, hsame⟩ := hF
  obtain ⟨hty, hnm⟩ := hC r hr
  have hfin := hfin r hr
  obtain ⟨C, T, N⟩ := r
  have hts := X.2.2.2.2.1
  have hown := X.2.2.2.1
  have hok := X.2.2.2.2.2.2.1
  have hap := va_apart (D := (G.1, G.2.1)) (own := M.1.cls) hts hin (bp_ty ci) hty hnm hok hr
  obtain ⟨cell, q1, q2, q3, q4⟩ := bp_cell_ob (hR.1 a) hK
  rw [bp_N_of hr] at q4
  obtain ⟨hS, hfc, kC, hkC, hkind⟩ := hok.1 ci _ hr
  obtain ⟨cf, kf, fi, f, hi, hsl⟩ := hS j hj
  have hst := (u_facts hfc hkC (u_lays hts hin hj) hi).1
  have hlay := hts _ (hin _ (u_in_lay hj))
  have hlt : f.slot < cell.slots.size := by rw [hsl]; exact k2_hasslot (q4 j hj)
  have hlo : H0.size ≤ a := hR.2.1 a (by rw [hK]; omega)
  have fin : ∀ H' : Heap, H'[a]? = some (cell.setSlot f.slot v) → H'.size = H.size → (∀ q, q ≠ a → H'[q]? = H[q]?) → W p l e R s₀ m args below meth cd H' (locs ++ [⟨a, f.slot⟩]) cells slots (bp_E G H0 d below s₀ R Q) (F0 m (pc + 3) lr st) := by
    intro H' g1 g2 g3
    rw [hsl] at g1
    refine w p e R s₀ m args below meth cd H' _ cells slots lr X ⟨bp_cell_off hR.1 (bp_cell_of ((e1 a).trans hK) ?_) (fun b _ => e1 b) (fun b _ => e2 b) e3 e4 e5 (fun b hb _ => g3 b hb), fun b hb => hR.2.1 b (by rw [← e1 b]; exact hb), by rw [g2]; exact hR.2.2.1, fun q hq => (g3 q (by omega)).trans (hR.2.2.2 q hq)⟩ h1 h2 ?_ hl (fun z => by rw [hk] at z; cases z) hz
    · rw [bp_N_of hr]
      refine t_OB.to (V := updV (fun k => bp_val (bp_ty ci k) h a k) j v) ⟨_, g1, q2, q3, t_set q4 hap hj v⟩ (fun x _ => ?_)
      by_cases hx : x = j
      · subst hx; simp [updV, e6]
      · simp [updV, hx, e7 x hx]
    · intro z hz
      rcases List.mem_append.mp hz with hz | hz
      · exact h3 z hz
      · simp only [List.mem_cons, List.not_mem_nil, or_false] at hz; subst hz; exact hlo
  rcases hfin with hfin | ⟨hfin, hin2, hdecl, ref2, hl2, hr2⟩
  · unfold u_lay at hlay
    rw [if_neg (by rw [hfin]; decide)] at hlay
    have h6 := u_store hfc hkC hkind hlay hi (hty j hj) hn hf
    rcases hlink with hlink | ⟨host, hlink⟩
    · exact W.putK X.1 X.2.1 (f := f) ⟨hown, hts _ hlink, ⟨_, _, _, bp_same hts hsame _ hi⟩, hst⟩ (by rw [q2]; exact h6) q1 q3 hlt rfl rfl (bp_dec X hd) fin
    · exact va_WputK X.1 X.2.1 (f := f) hown (hts _ hlink) (bp_same hts hsame _ hi) hst (by rw [q2]; exact h6) q1 q3 hlt rfl rfl (bp_dec X hd) fin
  · subst hr2
    have h6 := u_fits hfc hkC hkind (u_lays hts hin hj) hi (hty j hj) hn hf
    unfold u_lay at hlay
    rw [if_pos hfin] at hlay
    have hcf : m.cls = cf := by
      obtain ⟨_, _, c', _, _, _, -, -, hf', -, -, -, hown2, -⟩ := Cond.laysFinal_spec hlay
      have e1 : c' = cf := by have := hi.symm.trans hf'; simp at this; exact this.1.symm
      rw [hdecl] at hown2
      rw [← e1]; exact Option.some.inj (hown.symm.trans hown2)
    exact W.putFinK X.1 X.2.1 hown (hts _ hl2) hi hst hcf (X.2.2.2.2.2.2.2.2.2.2.2.1.1.trans hin2) (by rw [q2]; exact h6) q1 q3 hlt rfl rfl (bp_dec X hd) fin
theorem bp_putI {a index ci j : Nat} {x : Int32} (k : Nat) (hd : M.2.2.2.2[k]? = some (pc, .putfield index, 3)) (hq : pc + 3 = q) (hF : bp_Fl M.1.cls index ci j) (hC : bp_Cl ci) (hK : bp_K h a = ci + 6)
    (hfin : ∀ r, bp_cl[ci]? = some r → (r.2.1 j).2.2.2 = false) (ht : bp_ty ci j ∈ [FieldType.int, .boolean, .char, .byte, .short]) (hn : narrow (bp_ty ci j) (.int x) = .int x) (hf : fits (bp_ty ci j) (.int x) = true)
    (w : bp_A l G H0 d M (bp_sI h a j x) c s q ls st Q) (hk : d.2.2.1 = false := by rfl) : bp_A l G H0 d M h c s pc ls (.int x :: .ref a :: st) Q := by
  refine bp_putf (h' := bp_sI h a j x) k hd hq hF hC hK (fun r hr => Or.inl (hfin r hr)) hn hf (fun b => rfl) (fun b => rfl) (fun b hb x => ?_) (fun b hb x => rfl) (fun b hb x => rfl) ?_ (fun x hx => ?_) w hk
  · rw [bp_I_sI, if_neg (fun z => hb z.1)]
  · simp only [List.mem_cons, List.not_mem_nil, or_false] at ht
    rcases ht with ht | ht | ht | ht | ht <;> rw [ht] <;> simp [bp_val, bp_I_sI]
  · unfold bp_val
    split <;> first | rfl | (rw [bp_I_sI, if_neg (fun z => hx z.2)])
theorem bp_putR {a index ci j x : Nat} (k : Nat) (hd : M.2.2.2.2[k]? = some (pc, .putfield index, 3)) (hq : pc + 3 = q) (hF : bp_Fl M.1.cls index ci j) (hC : bp_Cl ci) (hK : bp_K h a = ci + 6)
    (hfin : ∀ r, bp_cl[ci]? = some r → (r.2.1 j).2.2.2 = false ∨ ((r.2.1 j).2.2.2 = true ∧ M.1.name = "<init>" ∧ (r.2.1 j).1 = M.1.cls ∧ ∃ ref, Cond.fieldLink M.1.cls index ref (r.2.1 j).2.1 (r.2.1 j).2.2.1 ∈ bp_WS ∧ ref = (r.2.1 j).1))
    (ht : (∃ n, bp_ty ci j = .object n) ∨ ∃ t, bp_ty ci j = .array t) (hf : fits (bp_ty ci j) (.ref x) = true)
    (w : bp_A l G H0 d M (bp_sR h a j (some x)) c s q ls st Q) (hk : d.2.2.1 = false := by rfl) : bp_A l G H0 d M h c s pc ls (.ref x :: .ref a :: st) Q := by
  refine bp_putf (h' := bp_sR h a j (some x)) k hd hq hF hC hK hfin ?_ hf (fun b => rfl) (fun b => rfl) (fun b hb x => rfl) (fun b hb x => rfl) (fun b hb x => ?_) ?_ (fun x hx => ?_) w hk
  · rcases ht with ⟨n, ht⟩ | ⟨n, ht⟩ <;> rw [ht] <;> rfl
  · rw [bp_R_sR, if_neg (fun z => hb z.1)]
  · rcases ht with ⟨n, ht⟩ | ⟨n, ht⟩ <;> rw [ht] <;> simp [bp_val, bp_R_sR, va_rf]
  · unfold bp_val
    split <;> first | rfl | (rw [bp_R_sR, if_neg (fun z => hx z.2)])
end BPF
/-! arrays -/
theorem bp_arr_of {G : bp_G} {h : bp_H} {a : Nat} {H : Heap} (c : bp_cell G h a H) : (bp_K h a = 1 → H[a]? = some (arrV (G.2.2.1 1) (bp_L h a) (fun j => .int (bp_I h a j)))) ∧ (bp_K h a = 2 → H[a]? = some (arrV (G.2.2.1 2) (bp_L h a) (fun j => .long (bp_J h a j)))) ∧ (bp_K h a = 3 → H[a]? = some (arrV (G.2.2.1 3) (bp_L h a) (fun j => .int (bp_I h a j)))) ∧ (bp_K h a = 4 → H[a]? = some (arrV (G.2.2.1 4) (bp_L h a) (fun j => .int (bp_I h a j)))) ∧ (bp_K h a = 5 → H[a]? = some (arrV (G.2.2.1 5) (bp_L h a) (fun j => va_rf (bp_R h a j)))) := by
  unfold bp_cell bp_arr at c
  refine ⟨?_, ?_, ?_, ?_, ?_⟩ <;> (intro e; rw [e] at c; exact c)
section BPB
variable {l : Launch} {G : bp_G} {H0 : Heap} {d : bp_Dp} {M : bp_M} {h : bp_H} {c s pc q : Nat} {ls ls' : List (Option Value)} {st : List Value} {Q : Outcome → bp_H → Nat → Nat → Prop}
theorem bp_iald {a : Nat} {i : Int32} (k : Nat) (hd : M.2.2.2.2[k]? = some (pc, .iaload, 1)) (hq : pc + 1 = q) (hK : bp_K h a = 1) (hin : vp_in i (bp_L h a)) (w : bp_A l G H0 d M h c s q ls (.int (bp_I h a i.toNatClampNeg) :: st) Q) : bp_A l G H0 d M h c s pc ls (.int i :: .ref a :: st) Q := by
  subst hq
  intro p e R s₀ m args below meth cd H locs cells slots lr X hR h1 h2 h3 hl hcl hz
  have ha := (bp_arr_of (hR.1 a)).1 hK
  have hlt : i.toNatClampNeg < bp_L h a := Nat.not_le.mp fun q => hin (Or.inr q)
  exact W.iald X.1 X.2.1 ha ((X.2.2.2.2.2.2.1.2 0 _ rfl).1 _ (fun j => .int (bp_I h a j))) (fun q => by cases q) (by show ¬ (i < 0 ∨ (arrV _ _ _).slots.size ≤ _); rw [arrV_size]; exact hin) (arrV_read _ _ hlt) rfl rfl (bp_dec X hd) (w p e R s₀ m args below meth cd H locs cells slots lr X hR h1 h2 h3 hl hcl hz)
theorem bp_lald {a : Nat} {i : Int32} (k : Nat) (hd : M.2.2.2.2[k]? = some (pc, .laload, 1)) (hq : pc + 1 = q) (hK : bp_K h a = 2) (hin : vp_in i (bp_L h a)) (w : bp_A l G H0 d M h c s q ls (.long (bp_J h a i.toNatClampNeg) :: st) Q) : bp_A l G H0 d M h c s pc ls (.int i :: .ref a :: st) Q := by
  subst hq
  intro p e R s₀ m args below meth cd H locs cells slots lr X hR h1 h2 h3 hl hcl hz
  have ha := (bp_arr_of (hR.1 a)).2.1 hK
  have hlt : i.toNatClampNeg < bp_L h a := Nat.not_le.mp fun q => hin (Or.inr q)
  exact W.lald X.1 X.2.1 ha ((X.2.2.2.2.2.2.1.2 1 _ rfl).1 _ (fun j => .long (bp_J h a j))) (fun q => by cases q) (by show ¬ (i < 0 ∨ (arrV _ _ _).slots.size ≤ _); rw [arrV_size]; exact hin) (arrV_read _ _ hlt) rfl rfl (bp_dec X hd) (w p e R s₀ m args below meth cd H locs cells slots lr X hR h1 h2 h3 hl hcl hz)
theorem bp_cald {a : Nat} {i : Int32} (k : Nat) (hd : M.2.2.2.2[k]? = some (pc, .caload, 1)) (hq : pc + 1 = q) (hK : bp_K h a = 3) (hin : vp_in i (bp_L h a)) (w : bp_A l G H0 d M h c s q ls (.int (bp_I h a i.toNatClampNeg) :: st) Q) : bp_A l G H0 d M h c s pc ls (.int i :: .ref a :: st) Q := by
  subst hq
  intro p e R s₀ m args below meth cd H locs cells slots lr X hR h1 h2 h3 hl hcl hz
  have ha := (bp_arr_of (hR.1 a)).2.2.1 hK
  have hlt : i.toNatClampNeg < bp_L h a := Nat.not_le.mp fun q => hin (Or.inr q)
  exact W.cald X.1 X.2.1 ha ((X.2.2.2.2.2.2.1.2 2 _ rfl).1 _ (fun j => .int (bp_I h a j))) (fun q => by cases q) (by show ¬ (i < 0 ∨ (arrV _ _ _).slots.size ≤ _); rw [arrV_size]; exact hin) (arrV_read _ _ hlt) rfl rfl (bp_dec X hd) (w p e R s₀ m args below meth cd H locs cells slots lr X hR h1 h2 h3 hl hcl hz)
theorem bp_bald {a : Nat} {i : Int32} (k : Nat) (hd : M.2.2.2.2[k]? = some (pc, .baload, 1)) (hq : pc + 1 = q) (hK : bp_K h a = 4) (hin : vp_in i (bp_L h a)) (w : bp_A l G H0 d M h c s q ls (.int (bp_I h a i.toNatClampNeg) :: st) Q) : bp_A l G H0 d M h c s pc ls (.int i :: .ref a :: st) Q := by
  subst hq
  intro p e R s₀ m args below meth cd H locs cells slots lr X hR h1 h2 h3 hl hcl hz
  have ha := (bp_arr_of (hR.1 a)).2.2.2.1 hK
  have hlt : i.toNatClampNeg < bp_L h a := Nat.not_le.mp fun q => hin (Or.inr q)
  exact W.bald X.1 X.2.1 ha ((X.2.2.2.2.2.2.1.2 3 _ rfl).1 _ (fun j => .int (bp_I h a j))) (fun q => by cases q) (by show ¬ (i < 0 ∨ (arrV _ _ _).slots.size ≤ _); rw [arrV_size]; exact hin) (arrV_read _ _ hlt) rfl rfl (bp_dec X hd) (w p e R s₀ m args below meth cd H locs cells slots lr X hR h1 h2 h3 hl hcl hz)
theorem bp_aald {a x : Nat} {i : Int32} (k : Nat) (hd : M.2.2.2.2[k]? = some (pc, .aaload, 1)) (hq : pc + 1 = q) (hK : bp_K h a = 5) (hin : vp_in i (bp_L h a)) (hx : bp_R h a i.toNatClampNeg = some x) (w : bp_A l G H0 d M h c s q ls (.ref x :: st) Q) : bp_A l G H0 d M h c s pc ls (.int i :: .ref a :: st) Q := by
  subst hq
  intro p e R s₀ m args below meth cd H locs cells slots lr X hR h1 h2 h3 hl hcl hz
  have ha := (bp_arr_of (hR.1 a)).2.2.2.2 hK
  have hlt : i.toNatClampNeg < bp_L h a := Nat.not_le.mp fun q => hin (Or.inr q)
  exact W.aald (ty := .object bp_EC) X.1 X.2.1 ha ((X.2.2.2.2.2.2.1.2 4 _ rfl).1 _ (fun j => va_rf (bp_R h a j))) rfl (fun q => by cases q) (by show ¬ (i < 0 ∨ (arrV _ _ _).slots.size ≤ _); rw [arrV_size]; exact hin) (by rw [arrV_read _ _ hlt, hx]; rfl) rfl rfl (bp_dec X hd) (w p e R s₀ m args below meth cd H locs cells slots lr X hR h1 h2 h3 hl hcl hz)
theorem bp_alen {a : Nat} {v : Int32} (k : Nat) (hd : M.2.2.2.2[k]? = some (pc, .arraylength, 1)) (hq : pc + 1 = q) (hK : bp_K h a = 1 ∨ bp_K h a = 3) (hv : Int32.ofNat (bp_L h a) = v) (w : bp_A l G H0 d M h c s q ls (.int v :: st) Q) : bp_A l G H0 d M h c s pc ls (.ref a :: st) Q := by
  subst hq
  subst hv
  intro p e R s₀ m args below meth cd H locs cells slots lr X hR h1 h2 h3 hl hcl hz
  rcases hK with hK | hK
  · have ha := (bp_arr_of (hR.1 a)).1 hK
    exact W.alen (n := Int32.ofNat (bp_L h a)) X.1 X.2.1 ha ((X.2.2.2.2.2.2.1.2 0 _ rfl).1 _ (fun j => .int (bp_I h a j))) (by rw [arrV_size] <;> rfl) rfl rfl (bp_dec X hd) (w p e R s₀ m args below meth cd H locs cells slots lr X hR h1 h2 h3 hl hcl hz)
  · have ha := (bp_arr_of (hR.1 a)).2.2.1 hK
    exact W.alen (n := Int32.ofNat (bp_L h a)) X.1 X.2.1 ha ((X.2.2.2.2.2.2.1.2 2 _ rfl).1 _ (fun j => .int (bp_I h a j))) (by rw [arrV_size] <;> rfl) rfl rfl (bp_dec X hd) (w p e R s₀ m args below meth cd H locs cells slots lr X hR h1 h2 h3 hl hcl hz)
/-- a store into an array: the new heap of the machine holds the new flat heap -/
theorem bp_Rel_arr {h' : bp_H} {H H' : Heap} {a i : Nat} {f : Nat → Value} {g : Nat → Value} {j : Nat} {v : Value} (hR : bp_Rel G H0 h H) (hK : bp_K h a ≠ 0) (hc : bp_arr G h' a i g H' → bp_cell G h' a H') (e0 : H'[a]? = some ((arrV (G.2.2.1 i) (bp_L h a) f).setSlot j v)) (ef : updV f j v = g) (z : H'.size = H.size) (o : ∀ q, q ≠ a → H'[q]? = H[q]?)
    (e1 : ∀ b, bp_K h' b = bp_K h b) (e2 : ∀ b, bp_L h' b = bp_L h b) (e3 : ∀ b, b ≠ a → ∀ x, bp_I h' b x = bp_I h b x) (e4 : ∀ b, b ≠ a → ∀ x, bp_J h' b x = bp_J h b x) (e5 : ∀ b, b ≠ a → ∀ x, bp_R h' b x = bp_R h b x) : bp_Rel G H0 h' H' := by
  have hlo := hR.2.1 a hK
  refine ⟨bp_cell_off hR.1 (hc ?_) (fun b _ => e1 b) (fun b _ => e2 b) e3 e4 e5 (fun b hb _ => o b hb), fun b hb => hR.2.1 b (by rw [← e1 b]; exact hb), by rw [z]; exact hR.2.2.1, fun q hq => (o q (by omega)).trans (hR.2.2.2 q hq)⟩
  show H'[a]? = _
  rw [e0, arrV_store, e2, ef]
theorem bp_locs {locs : List Loc} {H0 : Heap} {a i : Nat} (h3 : ∀ q ∈ locs, H0.size ≤ q.base) (ha : H0.size ≤ a) : ∀ q ∈ locs ++ [⟨a, i⟩], H0.size ≤ q.base := by
  intro z hz
  rcases List.mem_append.mp hz with hz | hz
  · exact h3 z hz
  · simp only [List.mem_cons, List.not_mem_nil, or_false] at hz; subst hz; exact ha
theorem bp_iast {a : Nat} {i : Int32} {x : Int32} (k : Nat) (hd : M.2.2.2.2[k]? = some (pc, .iastore, 1)) (hq : pc + 1 = q) (hK : bp_K h a = 1) (hin : vp_in i (bp_L h a)) (w : bp_A l G H0 d M (bp_sI h a i.toNatClampNeg x) c s q ls st Q) (hk : d.2.2.1 = false := by rfl) : bp_A l G H0 d M h c s pc ls (.int x :: .int i :: .ref a :: st) Q := by
  subst hq
  intro p e R s₀ m args below meth cd H locs cells slots lr X hR h1 h2 h3 hl hcl hz
  have ha := (bp_arr_of (hR.1 a)).1 hK
  have h0 : bp_K h a ≠ 0 := by rw [hK]; decide
  refine W.iast X.1 X.2.1 ha ((X.2.2.2.2.2.2.1.2 0 _ rfl).1 _ (fun j => .int (bp_I h a j))) (fun q => by cases q) (by show ¬ (i < 0 ∨ (arrV _ _ _).slots.size ≤ _); rw [arrV_size]; exact hin) rfl rfl (bp_dec X hd) (fun H' e0 z o => ?_)
  refine w p e R s₀ m args below meth cd H' _ cells slots lr X (bp_Rel_arr (i := 1) (g := fun j => .int (bp_I (bp_sI h a i.toNatClampNeg x) a j)) hR h0 (fun z => ?_) e0 (funext fun j => ?_) z o (fun b => rfl) (fun b => rfl) (fun b hb y => ?_) (fun b hb y => ?_) (fun b hb y => rfl)) h1 h2 (bp_locs h3 (hR.2.1 a h0)) hl (fun z => by rw [hk] at z; cases z) hz
  · unfold bp_cell; rw [bp_K_sI, hK]; exact z
  · rw [bp_I_sI]
    by_cases hj : j = i.toNatClampNeg <;> simp [updV, hj]
  · first | rfl | rw [bp_I_sI, if_neg (fun z => hb z.1)]
  · first | rfl | rw [bp_J_sJ, if_neg (fun z => hb z.1)]
theorem bp_last {a : Nat} {i : Int32} {x : Int64} (k : Nat) (hd : M.2.2.2.2[k]? = some (pc, .lastore, 1)) (hq : pc + 1 = q) (hK : bp_K h a = 2) (hin : vp_in i (bp_L h a)) (w : bp_A l G H0 d M (bp_sJ h a i.toNatClampNeg x) c s q ls st Q) (hk : d.2.2.1 = false := by rfl) : bp_A l G H0 d M h c s pc ls (.long x :: .int i :: .ref a :: st) Q := by
  subst hq
  intro p e R s₀ m args below meth cd H locs cells slots lr X hR h1 h2 h3 hl hcl hz
  have ha := (bp_arr_of (hR.1 a)).2.1 hK
  have h0 : bp_K h a ≠ 0 := by rw [hK]; decide
  refine W.last X.1 X.2.1 ha ((X.2.2.2.2.2.2.1.2 1 _ rfl).1 _ (fun j => .long (bp_J h a j))) (fun q => by cases q) (by show ¬ (i < 0 ∨ (arrV _ _ _).slots.size ≤ _); rw [arrV_size]; exact hin) rfl rfl (bp_dec X hd) (fun H' e0 z o => ?_)
  refine w p e R s₀ m args below meth cd H' _ cells slots lr X (bp_Rel_arr (i := 2) (g := fun j => .long (bp_J (bp_sJ h a i.toNatClampNeg x) a j)) hR h0 (fun z => ?_) e0 (funext fun j => ?_) z o (fun b => rfl) (fun b => rfl) (fun b hb y => ?_) (fun b hb y => ?_) (fun b hb y => rfl)) h1 h2 (bp_locs h3 (hR.2.1 a h0)) hl (fun z => by rw [hk] at z; cases z) hz
  · unfold bp_cell; rw [bp_K_sJ, hK]; exact z
  · rw [bp_J_sJ]
    by_cases hj : j = i.toNatClampNeg <;> simp [updV, hj]
  · first | rfl | rw [bp_I_sI, if_neg (fun z => hb z.1)]
  · first | rfl | rw [bp_J_sJ, if_neg (fun z => hb z.1)]
theorem bp_cast {a : Nat} {i : Int32} {x : Int32} (k : Nat) (hd : M.2.2.2.2[k]? = some (pc, .castore, 1)) (hq : pc + 1 = q) (hK : bp_K h a = 3) (hin : vp_in i (bp_L h a)) (hn : narrow .char (.int x) = .int x) (w : bp_A l G H0 d M (bp_sI h a i.toNatClampNeg x) c s q ls st Q) (hk : d.2.2.1 = false := by rfl) : bp_A l G H0 d M h c s pc ls (.int x :: .int i :: .ref a :: st) Q := by
  subst hq
  intro p e R s₀ m args below meth cd H locs cells slots lr X hR h1 h2 h3 hl hcl hz
  have ha := (bp_arr_of (hR.1 a)).2.2.1 hK
  have h0 : bp_K h a ≠ 0 := by rw [hK]; decide
  refine W.cast X.1 X.2.1 ha ((X.2.2.2.2.2.2.1.2 2 _ rfl).1 _ (fun j => .int (bp_I h a j))) (fun q => by cases q) (by show ¬ (i < 0 ∨ (arrV _ _ _).slots.size ≤ _); rw [arrV_size]; exact hin) rfl rfl (bp_dec X hd) (fun H' e0 z o => ?_)
  rw [hn] at e0
  refine w p e R s₀ m args below meth cd H' _ cells slots lr X (bp_Rel_arr (i := 3) (g := fun j => .int (bp_I (bp_sI h a i.toNatClampNeg x) a j)) hR h0 (fun z => ?_) e0 (funext fun j => ?_) z o (fun b => rfl) (fun b => rfl) (fun b hb y => ?_) (fun b hb y => ?_) (fun b hb y => rfl)) h1 h2 (bp_locs h3 (hR.2.1 a h0)) hl (fun z => by rw [hk] at z; cases z) hz
  · unfold bp_cell; rw [bp_K_sI, hK]; exact z
  · rw [bp_I_sI]
    by_cases hj : j = i.toNatClampNeg <;> simp [updV, hj]
  · first | rfl | rw [bp_I_sI, if_neg (fun z => hb z.1)]
  · first | rfl | rw [bp_J_sJ, if_neg (fun z => hb z.1)]
theorem bp_bast {a : Nat} {i : Int32} {x : Int32} (k : Nat) (hd : M.2.2.2.2[k]? = some (pc, .bastore, 1)) (hq : pc + 1 = q) (hK : bp_K h a = 4) (hin : vp_in i (bp_L h a)) (hn : narrow .byte (.int x) = .int x) (w : bp_A l G H0 d M (bp_sI h a i.toNatClampNeg x) c s q ls st Q) (hk : d.2.2.1 = false := by rfl) : bp_A l G H0 d M h c s pc ls (.int x :: .int i :: .ref a :: st) Q := by
  subst hq
  intro p e R s₀ m args below meth cd H locs cells slots lr X hR h1 h2 h3 hl hcl hz
  have ha := (bp_arr_of (hR.1 a)).2.2.2.1 hK
  have h0 : bp_K h a ≠ 0 := by rw [hK]; decide
  refine W.bast X.1 X.2.1 ha ((X.2.2.2.2.2.2.1.2 3 _ rfl).1 _ (fun j => .int (bp_I h a j))) (fun q => by cases q) (by show ¬ (i < 0 ∨ (arrV _ _ _).slots.size ≤ _); rw [arrV_size]; exact hin) rfl rfl (bp_dec X hd) (fun H' e0 z o => ?_)
  rw [hn] at e0
  refine w p e R s₀ m args below meth cd H' _ cells slots lr X (bp_Rel_arr (i := 4) (g := fun j => .int (bp_I (bp_sI h a i.toNatClampNeg x) a j)) hR h0 (fun z => ?_) e0 (funext fun j => ?_) z o (fun b => rfl) (fun b => rfl) (fun b hb y => ?_) (fun b hb y => ?_) (fun b hb y => rfl)) h1 h2 (bp_locs h3 (hR.2.1 a h0)) hl (fun z => by rw [hk] at z; cases z) hz
  · unfold bp_cell; rw [bp_K_sI, hK]; exact z
  · rw [bp_I_sI]
    by_cases hj : j = i.toNatClampNeg <;> simp [updV, hj]
  · first | rfl | rw [bp_I_sI, if_neg (fun z => hb z.1)]
  · first | rfl | rw [bp_J_sJ, if_neg (fun z => hb z.1)]
end BPB
