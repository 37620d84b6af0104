/-! throwing: new X; dup; ldc text; X.<init>(String); athrow: out of a method that has written nothing -/
def bp_OW : List Cond := [.laysStatic "java/lang/Throwable" "UNASSIGNED_STACK" "[Ljava/lang/StackTraceElement;", .laysStatic "java/lang/Throwable" "SUPPRESSED_SENTINEL" "Ljava/util/List;", .isRef (.static "java/lang/Throwable" "UNASSIGNED_STACK" "[Ljava/lang/StackTraceElement;"), .isRef (.static "java/lang/Throwable" "SUPPRESSED_SENTINEL" "Ljava/util/List;")]
theorem bp_Zs_word {H0 : Heap} {C n d : String} {s : State} {args : Array Value} (h : bp_Zs H0 C n d s) (hH : ∀ q : Nat, q < H0.size → s.heap[q]? = H0[q]?) : (Cond.laysStatic C n d).before args s = true ∧ (Cond.isRef (.static C n d)).before args s = true := by
  obtain ⟨c, k, i, f, a, cell, v, h1, h2, h3, h4, h5, h6, h7, h8, h9, h10, h11, h12⟩ := h
  have hc : s.heap[a]? = some cell := (hH a h5).trans h6
  refine ⟨Cond.laysStatic_of h1 h2 h3 h4 hc h7 h8 h9 h10, ?_⟩
  have he := Term.static_eval (args := args) (first := s) (o := none) (idx := []) h2 h3 h4 hc h7 h11
  cases v <;> simp [Value.isRef] at h12 <;> simp [Cond.before, Cond.holds, Cond.value, he]
theorem bp_OW_at {H0 : Heap} {s : State} {args : Array Value} (h : bp_Th H0 s) (hH : ∀ q : Nat, q < H0.size → s.heap[q]? = H0[q]?) : ∀ w ∈ bp_OW, w.before args s = true := by
  have a := bp_Zs_word (args := args) h.1 hH
  have b := bp_Zs_word (args := args) h.2 hH
  intro w hw
  simp only [bp_OW, List.mem_cons, List.not_mem_nil, or_false] at hw
  rcases hw with rfl | rfl | rfl | rfl
  · exact a.1
  · exact b.1
  · exact a.2
  · exact b.2
section BPT
variable {l : Launch} {G : bp_G} {H0 : Heap} {d : bp_Dp} {M : bp_M} {h : bp_H} {c s pc q : Nat} {ls ls' : List (Option Value)} {st : List Value} {Q : Outcome → bp_H → Nat → Nat → Prop}
set_option maxHeartbeats 4000000 in
theorem bp_throw {ix il ic ci i : Nat} {r : String × Nat × String × List Int32} {rC : vw_C} {names : List String} (htl : l.stackTraces = false) (k : Nat) (hd0 : M.2.2.2.2[k]? = some (pc, .new ix, 3)) (hd1 : M.2.2.2.2[k + 1]? = some (pc + 3, .dup, 1)) (hd2 : M.2.2.2.2[k + 2]? = some (pc + 4, .ldc il, 2)) (hd3 : M.2.2.2.2[k + 3]? = some (pc + 6, .invokespecial ic, 3)) (hd4 : M.2.2.2.2[k + 4]? = some (pc + 9, .athrow, 1))
    (hN : bp_Nw M.1.cls ix ci 6) (hr : bp_cl[ci]? = some rC) (hN0 : rC.2.2 = 0) (hS : bp_S[i]? = some r) (hr1 : r.1 = M.1.cls) (hr2 : r.2.1 = il) (hfit : Bundle.fit rC.1 = true) (hfits : ∀ n ∈ names, Bundle.fit n = true)
    (hat : ∀ w ∈ Bundle.ownAtoms M.1.cls ic rC.1 names, w ∈ bp_WS ∨ w ∈ bp_OW) (hst : (st.map fun v => v.category).sum ≤ 8) (hfr : names.length + 3 < d.1) (hlo : 9 + (13 * (names.length + 1) + 42) ≤ d.2.1) (hk : d.2.2.1 = true) (hh : bp_hh M.1 = [])
    (hQ : ∀ a, bp_K h a = 0 → Q (.threw a) (bp_new h a (ci + 6) 0) c s) : bp_A l G H0 d M h (c + 1) (s + 6) pc ls st Q := by
  intro p e R s₀ m args below meth cd H locs cells slots lr X hR h1 h2 h3 hl hcl hz
  obtain ⟨rfl, rfl, rfl, rfl⟩ := hcl hk
  obtain ⟨r', hr', hin, w1, w2, w3, hnf⟩ := hN
  cases hr.symm.trans hr'
  subst hr2
  have hts := X.2.2.2.2.1
  have hown := X.2.2.2.1
  have hok := X.2.2.2.2.2.2.1
  have hfc := (hok.1 ci _ hr).2.1
  have hfrR := X.2.2.2.2.2.2.2.2.2.1
  have hloR := X.2.2.2.2.2.2.2.2.2.2.1
  have hH : ∀ q : Nat, q < H0.size → s₀.heap[q]? = H0[q]? := hR.2.2.2
  have hzS := (hz.1 i r hS).1
  rw [hr1] at hzS
  refine W.newcK X.1 X.2.1 hown (hts _ w1) (hts _ w2) (hts _ w3) rfl (bp_dec X hd0) (by omega) (by omega) hfc rfl (fun H' kC hkC e0 z o => ?_)
  refine lv_dup X.1 X.2.1 (bp_dec X hd1) rfl ?_
  refine va_ldcS X.1 X.2.1 hown hzS (bp_dec X hd2) ?_
  intro T hT X'
  subst hT
  have hat' : ∀ w ∈ Bundle.ownAtoms M.1.cls ic rC.1 names, w.before args s₀ = true := fun w hw => (hat w hw).elim (hts w) (bp_OW_at hz.2.2.2.1 hH w)
  have htr : e.platform.stackTraces = false := by rw [X'.admits.platform]; exact htl
  obtain ⟨U, g1, g2, g3, g4, g5, ce, g6, g7⟩ := X'.ctorThrowS (a := s₀.heap.size) (msg := .ref (G.2.2.2.1 i)) X.1 htr hown hfit hfits hat' (fun x hx => by cases hx) hfc hkC e0 (Nat.le_refl _) rfl
    (g := F0 m (pc + 6) lr (.ref (G.2.2.2.1 i) :: .ref s₀.heap.size :: .ref s₀.heap.size :: st)) rfl (hl.1.trans X.2.2.1.symm) rfl rfl rfl (by rw [X.2.1]; exact bp_dec X hd3) (by rw [X.2.1]; exact bp_dec X hd4)
    (fun x hx => by
      have := X.2.2.2.2.2.2.2.2.2.2.2.1.2
      rw [hh, List.map_eq_nil_iff] at this
      rw [this] at hx
      cases hx) (by omega) (by
      show 2 * 0 + ((Value.ref s₀.heap.size :: st).map fun v => v.category).sum + _ ≤ R.locals
      rw [List.map_cons, List.sum_cons]
      show 2 * 0 + (1 + (st.map fun v => v.category).sum) + _ ≤ R.locals
      omega) X.2.2.2.2.2.2.2.2.1
  have hsame := g5
  obtain ⟨-, q2, q3, -, -, q6⟩ := g5
  have hold : ∀ b : Nat, b < s₀.heap.size → U.heap[b]? = s₀.heap[b]? := by
    intro b hb
    have hcb : s₀.heap[b]? = some s₀.heap[b] := Array.getElem?_eq_getElem hb
    obtain ⟨c', i1, i2, i3, i4⟩ := q6 b _ hcb
    have hc' : c' = s₀.heap[b] := by
      rw [i2]
      have : c'.slots = s₀.heap[b].slots := by
        apply Array.ext_getElem?
        intro j
        exact i4 j (by simp)
      rw [this]
    rw [hcb, ← hc']
    exact i1
  refine ⟨U, g1, .threw s₀.heap.size, g2, g3, [], 0 + 1, 0 + 6, bp_new h s₀.heap.size (ci + 6) 0, c, s, g4, hsame, (fun q hq => by cases hq), ?_, by omega, by omega, (fun _ v hv => by cases hv), hQ _ (bp_fresh hR)⟩
  refine ⟨bp_cell_off hR.1 (bp_cell_of (by rw [bp_K_new, if_pos rfl]) ?_) (fun b hb => by rw [bp_K_new, if_neg hb]) (fun b hb => by rw [bp_L_new, if_neg hb]) (fun b hb k => by rw [bp_I_new, if_neg hb]) (fun b hb k => by rw [bp_J_new, if_neg hb]) (fun b hb k => by rw [bp_R_new, if_neg hb]) (fun b hb hk => hold b (bp_lt (hR.1 b) hk)), fun b hb => ?_, Nat.le_trans hR.2.2.1 q2, fun q hq => (hold q (Nat.lt_of_lt_of_le hq hR.2.2.1)).trans (hH q hq)⟩
  · rw [bp_N_of hr, hN0]
    exact ⟨ce, g6, Option.some.inj (g7.cls.symm.trans hfc), g7.vm, fun k hk => absurd hk (Nat.not_lt_zero k)⟩
  · by_cases hs : b = s₀.heap.size
    · rw [hs]; exact hR.2.2.1
    · rw [bp_K_new, if_neg hs] at hb; exact hR.2.1 b hb
end BPT
