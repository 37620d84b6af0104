/-! System.arraycopy between two int[] -/
def bp_cp (h : bp_H) (src dst sp dp n : Nat) : bp_H := (h.1, h.2.1, bp_u1 h.2.2.1 dst (va_cpy (h.2.2.1 src) (h.2.2.1 dst) sp dp n), h.2.2.2.1, h.2.2.2.2)
theorem bp_I_cp (h : bp_H) (src dst sp dp n b : Nat) : bp_I (bp_cp h src dst sp dp n) b = if b = dst then va_cpy (bp_I h src) (bp_I h dst) sp dp n else bp_I h b := by
  funext k
  show bp_u1 h.2.2.1 dst (va_cpy (h.2.2.1 src) (h.2.2.1 dst) sp dp n) b k = _
  unfold bp_u1
  split <;> rfl
section BPCP
variable {l : Launch} {G : bp_G} {H0 : Heap} {d : bp_Dp} {M : bp_M} {h : bp_H} {c s pc q : Nat} {ls ls' : List (Option Value)} {st : List Value} {Q : Outcome → bp_H → Nat → Nat → Prop}
theorem bp_acopy {src dst index : Nat} {sp dp n : Int32} (k : Nat) (hd : M.2.2.2.2[k]? = some (pc, .invokestatic index, 3)) (hq : pc + 3 = q) (w1 : Cond.methodLink M.1.cls index arraycopyName ∈ bp_WS) (w2 : Cond.native arraycopyName ∈ bp_WS) (w3 : Cond.static arraycopyName ∈ bp_WS) (w4 : Cond.initialized "java/lang/System" ∈ bp_WS) (hK0 : bp_K h src = 1) (hK1 : bp_K h dst = 1)
    (h1' : ¬ sp < 0) (h2' : ¬ dp < 0) (h3' : ¬ n < 0) (h4 : sp.toNatClampNeg + n.toNatClampNeg ≤ bp_L h src) (h5 : dp.toNatClampNeg + n.toNatClampNeg ≤ bp_L h dst) (hfr : 1 ≤ d.1) (hlo : (st.map fun v => v.category).sum + (nativeFrameWords "java/lang/System" "arraycopy" 5 + 11) ≤ d.2.1)
    (w : bp_A l G H0 d M (bp_cp h src dst sp.toNatClampNeg dp.toNatClampNeg n.toNatClampNeg) c s q ls st Q) (hk : d.2.2.1 = false := by rfl) : bp_A l G H0 d M h c s pc ls (.int n :: .int dp :: .ref dst :: .int sp :: .ref src :: st) Q := by
  subst hq
  intro p e R s₀ m args below meth cd H locs cells slots lr X hR h1 h2 h3 hl hcl hz T hT X'
  have hts := X.2.2.2.2.1
  have hok := X.2.2.2.2.2.2.1
  have hfrR := X.2.2.2.2.2.2.2.2.2.1
  have hloR := X.2.2.2.2.2.2.2.2.2.2.1
  have nn : ∀ z : Int32, ¬ z < 0 → z.toInt = (z.toNatClampNeg : Int) := by
    intro z hz
    have hz0 : (0 : Int) ≤ z.toInt := by
      have := Int32.not_lt.mp hz
      simpa using Int32.le_iff_toInt_le.mp this
    show z.toInt = ((z.toInt.toNat : Nat) : Int)
    omega
  have hc0 := (bp_arr_of (hR.1 src)).1 hK0
  have hc1 := (bp_arr_of (hR.1 dst)).1 hK1
  have h0 : bp_K h dst ≠ 0 := by rw [hK1]; decide
  obtain ⟨-, k0, hk0, cm0, hkk0⟩ := (hok.2 0 _ rfl).1 (bp_L h src) (fun j => .int (bp_I h src j))
  obtain ⟨-, k1, hk1, cm1, hkk1⟩ := (hok.2 0 _ rfl).1 (bp_L h dst) (fun j => .int (bp_I h dst j))
  obtain ⟨vm', X'', step⟩ := X'.arraycopy X.1 X.2.2.2.1 (hts _ w1) (hts _ w2) (hts _ w3) (hts _ w4) (src := src) (dst := dst) (srcPos := sp) (destPos := dp) (n := n) (by rw [hT]; exact hc0) (by rw [hT]; exact hc1)
    (fun _ h => by cases h) (fun _ h => by cases h) (fun h => by cases h) (fun h => by cases h) hk0 hk1 hkk0 hkk1 (by simp [show refKind FieldType.int = false from rfl]) h1' h2' h3'
    (by rw [nn sp h1', nn n h3', arrV_size]; omega) (by rw [nn dp h2', nn n h3', arrV_size]; omega)
    (fun vm₁ _ i hi => by
      have e : (arrV (G.2.2.1 1) (bp_L h src) (fun j => Value.int (bp_I h src j))).slots.getD (sp.toNatClampNeg + i) .null = .int (bp_I h src (sp.toNatClampNeg + i)) := by
        rw [Array.getD_eq_getD_getElem?, arrV_read _ _ (by omega)]
        rfl
      rw [e]
      exact ⟨rfl, trivial⟩)
    (g := F0 m pc lr (.int n :: .int dp :: .ref dst :: .int sp :: .ref src :: st)) rfl (hl.1.trans X.2.2.1.symm) (rest := st) rfl (by rw [X.2.1]; exact bp_dec X hd) (by omega) (by show 2 * 0 + _ + _ ≤ _; omega)
  have e1 : copied (arrV (G.2.2.1 1) (bp_L h src) (fun j => Value.int (bp_I h src j))) (arrV (G.2.2.1 1) (bp_L h dst) (fun j => Value.int (bp_I h dst j))) sp dp n = arrV (G.2.2.1 1) (bp_L h dst) (fun j => .int (va_cpy (bp_I h src) (bp_I h dst) sp.toNatClampNeg dp.toNatClampNeg n.toNatClampNeg j)) := va_copied (fun z => .int z) _ _ (bp_I h src) (bp_I h dst) h4
  rw [e1] at X'' step
  have hlt : dst < H.size := (Array.getElem?_eq_some_iff.mp hc1).1
  have hheap : ((T.setVm vm').setCell dst (arrV (G.2.2.1 1) (bp_L h dst) (fun j => .int (va_cpy (bp_I h src) (bp_I h dst) sp.toNatClampNeg dp.toNatClampNeg n.toNatClampNeg j)))).heap = H.setIfInBounds dst (arrV (G.2.2.1 1) (bp_L h dst) (fun j => .int (va_cpy (bp_I h src) (bp_I h dst) sp.toNatClampNeg dp.toNatClampNeg n.toNatClampNeg j))) := by rw [← hT]; rfl
  have oq : ∀ q : Nat, q ≠ dst → (H.setIfInBounds dst (arrV (G.2.2.1 1) (bp_L h dst) (fun j => .int (va_cpy (bp_I h src) (bp_I h dst) sp.toNatClampNeg dp.toNatClampNeg n.toNatClampNeg j))))[q]? = H[q]? := fun q hq => by simp [Array.getElem?_setIfInBounds, Ne.symm hq]
  have hlo2 := hR.2.1 dst h0
  have key1 : bp_cell G (bp_cp h src dst sp.toNatClampNeg dp.toNatClampNeg n.toNatClampNeg) dst (H.setIfInBounds dst (arrV (G.2.2.1 1) (bp_L h dst) (fun j => .int (va_cpy (bp_I h src) (bp_I h dst) sp.toNatClampNeg dp.toNatClampNeg n.toNatClampNeg j)))) := by
    unfold bp_cell bp_arr
    rw [show bp_K (bp_cp h src dst sp.toNatClampNeg dp.toNatClampNeg n.toNatClampNeg) dst = bp_K h dst from rfl, hK1, bp_I_cp, if_pos rfl]
    show (H.setIfInBounds dst _)[dst]? = some _
    rw [Array.getElem?_setIfInBounds, if_pos rfl, if_pos hlt]
    rfl
  obtain ⟨t, a1, b1⟩ := w p e R s₀ m args below meth cd _ _ cells slots lr X ⟨bp_cell_off (a0 := dst) hR.1 key1 (fun b _ => rfl) (fun b _ => rfl) (fun b hb k => by rw [bp_I_cp, if_neg hb]) (fun b _ k => rfl) (fun b _ k => rfl) (fun b hb _ => oq b hb), hR.2.1, by simpa using hR.2.2.1, fun q hq => (oq q (by omega)).trans (hR.2.2.2 q hq)⟩ h1 h2 (fun q hq => (List.mem_append.mp hq).elim (h3 q) (fun hh => by obtain ⟨z, -, hz⟩ := List.mem_map.mp hh; rw [← hz]; exact hlo2)) hl (fun z => by rw [hk] at z; cases z) hz _ hheap X''
  exact ⟨t, step t a1, b1⟩
end BPCP
/-- the same for a class of the library -/
theorem bp_ofF {l : Launch} {G : bp_G} {H0 : Heap} {d : bp_Dp} {M : bp_M} {h : bp_H} {c s : Nat} {av : List Value} {ls : List (Option Value)} {Q : Option Value → bp_H → Nat → Nat → Prop}
    (hy : plainFor M.1 = true) (ht : ∀ e ∈ M.2.2.2.2, decode M.2.1 e.1 = .ok e.2) (hn : (lg_sl av).length ≤ M.2.2.1) (hl : ∀ q ∈ bp_al 0 ls, q ∈ lv_args 0 av)
    (kn : Bool) (body : bp_A l G H0 (d.1, d.2.1, kn, d.2.2.2) M h c s 0 ls [] (fun o h' c' s' => ∃ v, o = .returned v ∧ Q v h' c' s')) (hh : bp_hh M.1 = [] := by decide +kernel) : bp_AM l G H0 d M h c s av Q := by
  refine MetFree.of_bodySF (code := M.2.1) (maxLocals := M.2.2.1) (ret := M.2.2.2.1) hy ?_ ?_
  · intro args s m h hn
    obtain ⟨meth, c, h1, h2, h3, h4, h5, h6, -, -⟩ := Cond.code_spec hn (atoms_spec (ws := [.code M.1 M.2.1 M.2.2.1 M.2.2.2.1]) h _ List.mem_cons_self)
    exact ⟨meth, c, h1, h2, h3, h4, h5, h6⟩
  · intro p e s₀ m args below meth cd s₁ B hml hP _
    obtain ⟨rfl, hHW, hok, hR, hz⟩ := hP
    have hh0 : s₁.heap = s₀.heap := by rw [B.state]; rfl
    have X := Stand.of_body B
    have hl0 := lv_more (lv_entry av (n := M.2.2.1) hn) hl
    have w := body p e (bp_room d c s) s₀ m av.toArray below meth cd s₀.heap [] 0 0 _
      ⟨B.exec, B.bytes, hml, findClass_of_methodNamed B.named, bp_HW_args hHW _, hHW, hok, B.returns, B.notSynchronized, Nat.le_refl _, Nat.le_refl _, ⟨(name_of_methodNamed B.named B.method).1, by
        have hne := B.noHandlers (atoms_spec (ws := [.code M.1 M.2.1 M.2.2.1 M.2.2.2.1]) B.pre _ List.mem_cons_self)
        simp only [Array.isEmpty_iff] at hne
        rw [hne, hh]
        rfl⟩, ht⟩ hR (Nat.zero_add _) (Nat.zero_add _) (fun q hq => by cases hq) hl0 (fun _ => ⟨rfl, rfl, rfl, rfl⟩) hz
    rw [lg_entry_eq]
    obtain ⟨t, a1, o, b1, b2, L, k, n, h', c', s', e1, e2, e3, e4, e5, e6, e8, v, rfl, hq⟩ := w s₁ hh0 X
    exact ⟨t, .returned v, a1, b1, b2, v, L, k, n, h', c', s', rfl, ⟨⟨v, rfl⟩, e1, e2⟩, e3, e4, e5, e6, (fun z => e8 z v rfl), hq⟩
section JCOPY
variable {l : Launch} {G : bp_G} {H0 : Heap} {h : bp_H} {c s : Nat} {Q : Option Value → bp_H → Nat → Nat → Prop}
set_option maxRecDepth 100000 in
set_option maxHeartbeats 4000000 in
theorem s_JM_min {ro : Bool} {x y : Int32} (hQ : Q (some (.int (if y < x then y else x))) h c s) : bp_AM l G H0 (0, 0, ro, ro) M_JM_min h c s [.int x, .int y] Q := by
  refine bp_ofF (ls := [some (.int x), some (.int y)]) (by decide +kernel) dt_JM_min (Nat.le_of_ble_eq_true rfl) (fun q hq => hq) ro ?_
  refine bp_iload_n (q := 1) 0 rfl rfl rfl rfl ?_
  refine bp_iload_n (q := 2) 1 rfl rfl rfl rfl ?_
  refine bp_icmp_gt (q := 5) (tgt := 9) 2 rfl rfl (by decide) (fun z2 => ?_) (fun z2 => ?_)
  · refine bp_iload_n (q := 10) 5 rfl rfl rfl rfl ?_
    refine bp_iret 6 rfl rfl rfl ⟨_, rfl, ?_⟩
    rw [if_pos z2] at hQ
    exact hQ
  · refine bp_iload_n (q := 6) 3 rfl rfl rfl rfl ?_
    refine bp_goto (tgt := 10) 4 rfl (by decide) ?_
    refine bp_iret 6 rfl rfl rfl ⟨_, rfl, ?_⟩
    rw [if_neg z2] at hQ
    exact hQ
set_option maxRecDepth 100000 in
set_option maxHeartbeats 4000000 in
theorem s_JA_copyOf {a N : Nat} (ha : bp_K h a = 1) (hlt : bp_L h a < N) (hN : N < 1000000) (hQ : ∀ q, bp_K h q = 0 → Q (some (.ref q)) (bp_cp (bp_new h q 1 N) a q 0 0 (bp_L h a)) c s) : bp_AM l G H0 (2, 41, false, false) M_JA_copyOf h (c + 1) (s + N) [.ref a, .int (nI N)] Q := by
  refine bp_ofF (ls := [some (.ref a), some (.int (nI N)), none]) (by decide +kernel) dt_JA_copyOf (Nat.le_of_ble_eq_true rfl) (fun q hq => hq) false ?_
  refine bp_iload_n (q := 1) 0 rfl rfl rfl rfl ?_
  refine bp_aload_n (q := 2) 1 rfl rfl rfl rfl ?_
  refine bp_alen (q := 3) 2 rfl rfl (Or.inl ha) rfl ?_
  refine bp_icmp_ne (q := 6) (tgt := 14) 3 rfl rfl (by decide) (fun z3 => ?_) (fun z3 => ?_)
  · refine bp_iload_n (q := 15) 8 rfl rfl rfl rfl ?_
    refine bp_newa (q := 17) (kd := 1) (N := N) (ty := .int) 9 rfl rfl wd136 rfl (Or.inl ⟨rfl, rfl⟩) (nI_pos (by omega)) (nI_clamp (by omega)) (by omega) (fun q0 hq0 => ?_)
    have hne : a ≠ q0 := fun e => by rw [← e, ha] at hq0; cases hq0
    have hKq : bp_K (bp_new h q0 1 N) q0 = 1 := by rw [bp_K_new, if_pos rfl]
    have hKa2 : bp_K (bp_new h q0 1 N) a = 1 := by rw [bp_K_new, if_neg hne]; exact ha
    have hLa2 : bp_L (bp_new h q0 1 N) a = bp_L h a := by rw [bp_L_new, if_neg hne]
    have hmin : (if nI N < Int32.ofNat (bp_L (bp_new h q0 1 N) a) then nI N else Int32.ofNat (bp_L (bp_new h q0 1 N) a)) = nI (bp_L h a) := by
      rw [hLa2, if_neg]
      · rfl
      · exact nI_nlt (by omega) (by omega)
    refine bp_astore_n (q := 18) 10 rfl rfl rfl (by decide) (bp_up2 rfl) ?_
    refine bp_aload_n (q := 19) 11 rfl rfl rfl rfl ?_
    refine bp_iconst (v := 0) (q := 20) 12 rfl rfl (by decide) ?_
    refine bp_aload_n (q := 21) 13 rfl rfl rfl rfl ?_
    refine bp_iconst (v := 0) (q := 22) 14 rfl rfl (by decide) ?_
    refine bp_aload_n (q := 23) 15 rfl rfl rfl rfl ?_
    refine bp_alen (q := 24) 16 rfl rfl (Or.inl hKa2) rfl ?_
    refine bp_iload_n (q := 25) 17 rfl rfl rfl rfl ?_
    refine bp_callS (q := 28) 18 rfl rfl cw_JM_min lk_JA_304 wd499 rfl rfl (Nat.le_of_ble_eq_true rfl) ⟨Nat.le_of_ble_eq_true rfl, Nat.le_of_ble_eq_true rfl⟩ (s_JM_min (ro := false) ?_)
    rw [hmin]
    refine bp_acopy (q := 31) 19 rfl rfl wd501 wd503 wd502 wd108 hKa2 hKq (by decide) (by decide) (nI_pos (by omega)) (by rw [nI_clamp (by omega), sb_cl0]; show 0 + bp_L h a ≤ bp_L (bp_new h q0 1 N) a; rw [bp_L_new, if_neg hne]; omega) (by rw [nI_clamp (by omega), sb_cl0]; show 0 + bp_L h a ≤ bp_L (bp_new h q0 1 N) q0; rw [bp_L_new, if_pos rfl]; omega) (by decide) (by decide) ?_
    rw [nI_clamp (by omega), sb_cl0]
    refine bp_aload_n (q := 32) 20 rfl rfl rfl rfl ?_
    exact bp_aret 21 rfl rfl (Or.inr ⟨_, rfl⟩) ⟨_, rfl, hQ q0 hq0⟩
  · exfalso
    have e0 : nI N = nI (bp_L h a) := z3
    have := (nI_eq (by omega) (by omega)).mp e0
    omega
end JCOPY
