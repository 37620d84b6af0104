/-! new cells -/
theorem bp_val_new (h : bp_H) (a kd len k : Nat) (ty : FieldType) (h1 : ty ≠ .float) (h2 : ty ≠ .double) : defaultValue ty = bp_val ty (bp_new h a kd len) a k := by
  cases ty <;> first | exact absurd rfl h1 | exact absurd rfl h2 | simp [bp_val, bp_I_new, bp_J_new, bp_R_new, defaultValue, va_rf]
def bp_Nw (own : String) (index ci n : Nat) : Prop := ∃ r : vw_C, bp_cl[ci]? = some r ∧ (∀ w ∈ u_ws r.1 r.2.1 r.2.2, w ∈ bp_WS) ∧ Cond.classLink own index r.1 ∈ bp_WS ∧ Cond.instantiable r.1 n ∈ bp_WS ∧ Cond.initialized r.1 ∈ bp_WS ∧ ∀ k, k < r.2.2 → bp_ty ci k ≠ .float ∧ bp_ty ci k ≠ .double
section BPN
variable {l : Launch} {G : bp_G} {H0 : Heap} {d : bp_Dp} {M : bp_M} {h : bp_H} {c s pc q : Nat} {ls ls' : List (Option Value)} {st : List Value} {Q : Outcome → bp_H → Nat → Nat → Prop}
theorem bp_fresh {H : Heap} (hR : bp_Rel G H0 h H) : bp_K h H.size = 0 := by
  by_cases hk : bp_K h H.size = 0
  · exact hk
  · exact absurd (bp_lt (hR.1 _) hk) (Nat.lt_irrefl _)
theorem bp_Rel_new {H H' : Heap} {kd len : Nat} (hR : bp_Rel G H0 h H) (c0 : bp_cell G (bp_new h H.size kd len) H.size H') (z : H'.size = H.size + 1) (o : ∀ q, q < H.size → H'[q]? = H[q]?) : bp_Rel G H0 (bp_new h H.size kd len) H' := by
  refine ⟨bp_cell_off hR.1 c0 (fun b hb => by rw [bp_K_new, if_neg hb]) (fun b hb => by rw [bp_L_new, if_neg hb]) (fun b hb k => by rw [bp_I_new, if_neg hb]) (fun b hb k => by rw [bp_J_new, if_neg hb]) (fun b hb k => by rw [bp_R_new, if_neg hb]) (fun b hb hk => o b (bp_lt (hR.1 b) hk)), fun b hb => ?_, by rw [z]; exact Nat.le_succ_of_le hR.2.2.1, fun q hq => (o q (Nat.lt_of_lt_of_le hq hR.2.2.1)).trans (hR.2.2.2 q hq)⟩
  by_cases hs : b = H.size
  · rw [hs]; exact hR.2.2.1
  · rw [bp_K_new, if_neg hs] at hb; exact hR.2.1 b hb
theorem bp_newo {index ci n : Nat} (k : Nat) (hd : M.2.2.2.2[k]? = some (pc, .new index, 3)) (hq : pc + 3 = q) (hN : bp_Nw M.1.cls index ci n) (hC : bp_Cl ci) (w : ∀ a, bp_K h a = 0 → bp_A l G H0 d M (bp_new h a (ci + 6) 0) c s q ls (.ref a :: st) Q) (hk : d.2.2.1 = false := by rfl) : bp_A l G H0 d M h (c + 1) (s + n) pc ls st Q := by
  subst hq
  intro p e R s₀ m args below meth cd H locs cells slots lr X hR h1 h2 h3 hl hcl hz
  obtain ⟨r, hr, hin, w1, w2, w3, hnf⟩ := hN
  obtain ⟨hty, -⟩ := hC r hr
  obtain ⟨C, T, N⟩ := r
  have hts := X.2.2.2.2.1
  have hok := X.2.2.2.2.2.2.1
  refine W.newcK X.1 X.2.1 X.2.2.2.1 (hts _ w1) (hts _ w2) (hts _ w3) rfl (bp_dec X hd) (by omega) (by omega) (hok.1 ci _ hr).2.1 rfl (fun H' kC hkC e0 z o => ?_)
  refine w H.size (bp_fresh hR) p e R s₀ m args below meth cd H' locs (cells + 1) (slots + n) lr X (bp_Rel_new hR (bp_cell_of (by rw [bp_K_new, if_pos rfl]) ?_) z o) (by omega) (by omega) h3 hl (fun z => by rw [hk] at z; cases z) hz
  rw [bp_N_of hr]
  exact (u_born (bp_ty ci) hts hin (hok.1 ci _ hr) hkC e0 hty).to fun k hk => bp_val_new _ _ _ _ _ _ (hnf k hk).1 (hnf k hk).2
theorem bp_newa {atype : ArrayType} {kd N : Nat} {n : Int32} {ty : FieldType} (k : Nat) (hd : M.2.2.2.2[k]? = some (pc, .newarray atype, 2)) (hq : pc + 2 = q) (hw : Cond.arrayClass ty ∈ bp_WS) (hty : newarray.typeOf atype = ty) (hkd : (kd = 1 ∧ ty = .int) ∨ (kd = 2 ∧ ty = .long) ∨ (kd = 3 ∧ ty = .char) ∨ (kd = 4 ∧ ty = .byte)) (hn : ¬ n < 0) (hN : n.toNatClampNeg = N) (hb : N * 8 ≤ 536870912)
    (w : ∀ a, bp_K h a = 0 → bp_A l G H0 d M (bp_new h a kd N) c s q ls (.ref a :: st) Q) (hk : d.2.2.1 = false := by rfl) : bp_A l G H0 d M h (c + 1) (s + N) pc ls (.int n :: st) Q := by
  subst hq
  subst hty
  intro p e R s₀ m args below meth cd H locs cells slots lr X hR h1 h2 h3 hl hcl hz
  have hts := X.2.2.2.2.1
  have hok := X.2.2.2.2.2.2.1
  have hcb : componentBytes (newarray.typeOf atype) ≤ 8 := by rcases hkd with ⟨-, e⟩ | ⟨-, e⟩ | ⟨-, e⟩ | ⟨-, e⟩ <;> rw [e] <;> decide
  refine va_newaK X.1 X.2.1 (hts _ hw) rfl (bp_dec X hd) rfl hn hN (Nat.le_trans (Nat.mul_le_mul_left N hcb) hb) (by omega) (by omega) rfl (fun H' cA e0 z o hA hf => ?_)
  refine w H.size (bp_fresh hR) p e R s₀ m args below meth cd H' locs (cells + 1) (slots + N) lr X (bp_Rel_new hR ?_ z o) (by omega) (by omega) h3 hl (fun z => by rw [hk] at z; cases z) hz
  have hcA : cA = G.2.2.1 kd := by
    rcases hkd with ⟨e1, e2⟩ | ⟨e1, e2⟩ | ⟨e1, e2⟩ | ⟨e1, e2⟩ <;> rw [e2] at hf <;> subst e1
    · exact Option.some.inj (hf.symm.trans (hok.2 0 _ rfl).2)
    · exact Option.some.inj (hf.symm.trans (hok.2 1 _ rfl).2)
    · exact Option.some.inj (hf.symm.trans (hok.2 2 _ rfl).2)
    · exact Option.some.inj (hf.symm.trans (hok.2 3 _ rfl).2)
  subst hcA
  unfold bp_cell bp_arr
  rw [bp_K_new, if_pos rfl, bp_L_new, if_pos rfl]
  rcases hkd with ⟨e1, e2⟩ | ⟨e1, e2⟩ | ⟨e1, e2⟩ | ⟨e1, e2⟩ <;> rw [e2] at e0 <;> subst e1 <;> simp only [bp_I_new, bp_J_new, if_true] <;> exact e0
/-! the words stay true -/
theorem bp_HW_warm {s U : State} (hW : s.WarmedH U.vm) (h : bp_HW s) : bp_HW U := fun w hw => bp_sw_go (bp_WS_sw w hw) hW (h w hw)
theorem bp_HW_vm {s U : State} (hv : s.WarmedH U.vm) (h : bp_HW s) : bp_HW U := bp_HW_warm hv h
/-! calls -/
def bp_C (l : Launch) (G : bp_G) (H0 : Heap) (d : bp_Dp) (M : bp_M) (q : Nat) (ls : List (Option Value)) (st : List Value) (Q : Outcome → bp_H → Nat → Nat → Prop) : Option Value → bp_H → Nat → Nat → Prop := fun v h' c' s' => bp_A l G H0 d M h' c' s' q ls (v.toList ++ st) Q
/-- what a call asks of the callee -/
def bp_Cw (M' : bp_M) (n : Nat) : Prop := (M'.1.cls ≠ "java/lang/invoke/MethodHandle" ∧ M'.1.cls ≠ "java/lang/invoke/VarHandle") ∧ (parseMethodDescriptor M'.1.desc).map (fun d => d.parameters.length) = some n ∧ Cond.code M'.1 M'.2.1 M'.2.2.1 M'.2.2.2.1 ∈ bp_WS ∧ Cond.initialized M'.1.cls ∈ bp_WS
def bp_Lk (own : String) (index : Nat) (y : MethodName) : Prop := Cond.methodLink own index y ∈ bp_WS ∨ ∃ host, Cond.methodLinkNest own index y host ∈ bp_WS
theorem bp_back {p : Program} {e : Env} {R : Room} {s₀ : State} {m : MethodId} {args : Array Value} {below : List Frame} {meth : Method} {cd : Code} {M' : bp_M} {d' : bp_Dp} {n : Nat} {av : List Value} {Q' : Option Value → bp_H → Nat → Nat → Prop} (X : bp_Cx G d M p R s₀ m args meth cd) (hz : bp_St G H0 s₀) (hM : bp_AM l G H0 d' M' h c s av Q') (hdd : d'.1 + 1 ≤ d.1 ∧ 8 + (M'.2.2.1 + 11) + d'.2.1 ≤ d.2.1) (hw : bp_Cw M' n) :
    Back l R p e below s₀ args M'.1 3 8 (fun A a => a = av.toArray ∧ A.cells + c = R.cells ∧ A.slots + s = R.slots ∧ bp_Rel G H0 h A.U.heap)
      (fun A a v B => ∃ (h' : bp_H) (c' s' : Nat) (L : List Loc), B.cells + c' = R.cells ∧ B.slots + s' = R.slots ∧ B.locs = A.locs ++ L ∧ (∀ q ∈ L, H0.size ≤ q.base) ∧ bp_Rel G H0 h' B.U.heap ∧ (d'.2.2.2 = true → B.U.heap = A.U.heap ∧ L = [] ∧ B.cells = A.cells ∧ B.slots = A.slots) ∧ Q' v h' c' s') := by
  obtain ⟨hy, hpar, w1, w2⟩ := hw
  have hfr := X.2.2.2.2.2.2.2.2.2.1
  have hlo := X.2.2.2.2.2.2.2.2.2.2.1
  refine Back.of_free (S := headSpec [.code M'.1 M'.2.1 M'.2.2.1 M'.2.2.2.1] (bp_room d' c s)) (P := bp_P G H0 h av) (K := fun _ _ _ _ _ => True) (Q := bp_Qm G H0 d'.2.2.2 c s Q') (bytes := M'.2.1) (maxL := M'.2.2.1) (ret := M'.2.2.2.1)
    (E := fun a st o t L k n => (∀ q ∈ L, H0.size ≤ q.base) ∧ ∃ (v : Option Value) (h' : bp_H) (c' s' : Nat), o = .returned v ∧ bp_Rel G H0 h' t.heap ∧ k + c' = c ∧ n + s' = s ∧ (d'.2.2.2 = true → t.heap = st.heap ∧ L = [] ∧ k = 0 ∧ n = 0) ∧ Q' v h' c' s') hM ?_ ?_ ?_ ?_ (fun _ _ _ _ _ _ _ _ _ => trivial) ?_ ?_
  · show d'.1 + 1 ≤ R.frames; omega
  · show 8 + (M'.2.2.1 + 11) + d'.2.1 ≤ R.locals; omega
  · intro m' meth' c' A a X' hp
    have hh := bp_HW_args (bp_HW_warm X'.warmed X.2.2.2.2.2.1) a
    refine ⟨atoms_intro fun w hw => ?_, hh _ w1, hh _ w2, ?_, ?_⟩
    · rcases List.mem_cons.mp hw with rfl | hw
      · exact hh _ w1
      · cases hw
    · show A.cells + c ≤ R.cells; exact Nat.le_of_eq hp.2.1
    · show A.slots + s ≤ R.slots; exact Nat.le_of_eq hp.2.2.1
  · intro m' meth' c' A a g mk X' hp
    exact ⟨hp.1, bp_HW_vm (s := A.U) (State.WarmedH.refl A.U) (bp_HW_warm X'.warmed X.2.2.2.2.2.1), va_K.moved (u := A.U) (U := A.U.calling g mk a) (Vm.Alike.refl A.U.vm) (va_K.moved X'.warmed.alike X.2.2.2.2.2.2.1), hp.2.2.2, bp_St_warm (s := s₀) (U := A.U.calling g mk a) X'.warmed hz⟩
  · rintro a first o t ⟨v, L, k, n, h', c', s', e1, e2, e3, e4, e5, e6, e8, e7⟩
    exact ⟨L, k, n, e2, e3, v, h', c', s', e1, e4, e5, e6, e8, e7⟩
  · rintro m' meth' cc A a g mk v t L k n X' hp - - ⟨e3, v', h', c', s', e1, e4, e5, e6, e8, e7⟩
    cases e1
    refine ⟨h', c', s', L, ?_, ?_, rfl, e3, e4, fun z => ?_, e7⟩
    · show A.cells + k + c' = R.cells; have := hp.2.1; omega
    · show A.slots + n + s' = R.slots; have := hp.2.2.1; omega
    · obtain ⟨z1, z2, z3, z4⟩ := e8 z
      exact ⟨z1, z2, by show A.cells + k = A.cells; omega, by show A.slots + n = A.slots; omega⟩
theorem bp_len {M' : bp_M} {n : Nat} {av : List Value} (hw : bp_Cw M' n) (hn : av.length = n) : ∀ sig, parseMethodDescriptor M'.1.desc = some sig → av.length = sig.parameters.length := by
  intro sig h
  have h2 := hw.2.1
  rw [h] at h2
  exact hn.trans (Option.some.inj h2).symm
theorem bp_locsA {locs L : List Loc} (h3 : ∀ q ∈ locs, H0.size ≤ q.base) (hL : ∀ q ∈ L, H0.size ≤ q.base) : ∀ q ∈ locs ++ L, H0.size ≤ q.base := fun z hz => (List.mem_append.mp hz).elim (h3 z) (hL z)
theorem bp_fin {p : Program} {e : Env} {R : Room} {s₀ : State} {m : MethodId} {args : Array Value} {below : List Frame} {meth : Method} {cd : Code} {locs : List Loc} {lr : Array Slot} {T : State} {st0 : List Value} (X : bp_Cx G d M p R s₀ m args meth cd) (hz : bp_St G H0 s₀) (h3 : ∀ q ∈ locs, H0.size ≤ q.base) (hl : lv_has lr M.2.2.1 (bp_al 0 ls)) {cells slots : Nat} {H : Heap} {e' : Bool} (hT : T.heap = H) (hcl : d.2.2.1 = true → H = s₀.heap ∧ locs = [] ∧ cells = 0 ∧ slots = 0) (hkc : d.2.2.1 = true → e' = true) {v : Option Value} {B : Pt}
    (X'' : Stand p l e R s₀ m args below meth cd B.U B.locs B.cells B.slots) (hp : ∃ (h' : bp_H) (c' s' : Nat) (L : List Loc), B.cells + c' = R.cells ∧ B.slots + s' = R.slots ∧ B.locs = locs ++ L ∧ (∀ q ∈ L, H0.size ≤ q.base) ∧ bp_Rel G H0 h' B.U.heap ∧ (e' = true → B.U.heap = T.heap ∧ L = [] ∧ B.cells = cells ∧ B.slots = slots) ∧ bp_C l G H0 d M (pc + 3) ls st Q v h' c' s')
    (stp : ∀ target, Steps p.tables e below (B.U.setTop { F0 m pc lr st0 with pc := pc + 3, stack := v.toList ++ st }) target → Steps p.tables e below (T.setTop (F0 m pc lr st0)) target) : ∃ t, Steps p.tables e below (T.setTop (F0 m pc lr st0)) t ∧ bp_E G H0 d below s₀ R Q t := by
  obtain ⟨U', l2, c2, s2⟩ := B
  obtain ⟨h', c', s', L, e1, e2, e3, e4, e5, e8, e6⟩ := hp
  dsimp only [Pt.U, Pt.locs, Pt.cells, Pt.slots] at *
  subst e3
  obtain ⟨t, a1, b1⟩ := e6 p e R s₀ m args below meth cd U'.heap (locs ++ L) c2 s2 lr X e5 e1 e2 (bp_locsA h3 e4) hl (fun z => by
    obtain ⟨g1, g2, g3, g4⟩ := hcl z
    obtain ⟨i1, i2, i3, i4⟩ := e8 (hkc z)
    exact ⟨i1.trans (hT.trans g1), by rw [g2, i2]; rfl, i3.trans g3, i4.trans g4⟩) hz U' rfl X''
  exact ⟨t, stp t a1, b1⟩
theorem bp_pre {R : Room} {T : State} {H : Heap} {locs : List Loc} {cells slots : Nat} {av : List Value} (hR : bp_Rel G H0 h H) (hT : T.heap = H) (h1 : cells + c = R.cells) (h2 : slots + s = R.slots) (vm₁ : Vm) : (fun (A : Pt) (a : Array Value) => a = av.toArray ∧ A.cells + c = R.cells ∧ A.slots + s = R.slots ∧ bp_Rel G H0 h A.U.heap) ⟨T.setVm vm₁, locs, cells, slots⟩ av.toArray := ⟨rfl, h1, h2, by show bp_Rel G H0 h T.heap; rw [hT]; exact hR⟩
theorem bp_recv {p : Program} {R : Room} {s₀ : State} {m : MethodId} {args : Array Value} {meth : Method} {cd : Code} {H : Heap} {b ci : Nat} {r : vw_C} (X : bp_Cx G d M p R s₀ m args meth cd) (hR : bp_Rel G H0 h H) (hK : bp_K h b = ci + 6) (hr : bp_cl[ci]? = some r) : ∃ cell : Cell, H[b]? = some cell ∧ cell.vm.isStatics = false ∧ s₀.vm.findClass r.1 = some cell.cls := by
  obtain ⟨cell, q1, q2, q3, -⟩ := bp_cell_ob (hR.1 b) hK
  exact ⟨cell, q1, by rw [q3]; rfl, by rw [q2]; exact (X.2.2.2.2.2.2.1.1 ci _ hr).2.1⟩
theorem bp_callS {M' : bp_M} {d' : bp_Dp} {n index : Nat} {av st0 : List Value} (k : Nat) (hd : M.2.2.2.2[k]? = some (pc, .invokestatic index, 3)) (hq : pc + 3 = q) (hw : bp_Cw M' n) (hk : bp_Lk M.1.cls index M'.1) (hsta : Cond.static M'.1 ∈ bp_WS) (hn : av.length = n) (hst : st0 = av.reverse ++ st) (hrm : (st.map fun v => v.category).sum ≤ 8) (hdd : d'.1 + 1 ≤ d.1 ∧ 8 + (M'.2.2.1 + 11) + d'.2.1 ≤ d.2.1)
    (hM : bp_AM l G H0 d' M' h c s av (bp_C l G H0 d M q ls st Q)) (hkc : d.2.2.1 = true → d'.2.2.2 = true := by first | exact id | exact fun _ => rfl | exact fun z => nomatch z) : bp_A l G H0 d M h c s pc ls st0 Q := by
  subst hq
  subst hst
  intro p e R s₀ m args below meth cd H locs cells slots lr X hR h1 h2 h3 hl hcl hz T hT X'
  have hts := X.2.2.2.2.1
  have hsz : lr.size = cd.maxLocals := hl.1.trans X.2.2.1.symm
  have hB := bp_back (e := e) (below := below) X hz hM hdd hw
  rcases hk with hk | ⟨host, hk⟩
  · obtain ⟨v, vm₁, B, hW₁, X'', hp, stp⟩ := callS X' X.1 (bytes := M'.2.1) (maxL := M'.2.2.1) (ret := M'.2.2.2.1) X.2.2.2.1 (hts _ hk) (hts _ hsta) (hts _ hw.2.2.2) (hts _ hw.2.2.1) hw.1 hB (g := F0 m pc lr (av.reverse ++ st)) rfl hsz (argsL := av) (rest := st) (bp_len hw hn) rfl (lv_room hrm) (by rw [X.2.1]; exact bp_dec X hd) (fun vm₁ _ => bp_pre hR hT h1 h2 vm₁)
    exact bp_fin X hz h3 hl hT hcl hkc X'' hp stp
  · obtain ⟨v, vm₁, B, hW₁, X'', hp, stp⟩ := va_callSN X' X.1 (bytes := M'.2.1) (maxL := M'.2.2.1) (ret := M'.2.2.2.1) X.2.2.2.1 (hts _ hk) (hts _ hsta) (hts _ hw.2.2.2) (hts _ hw.2.2.1) hw.1 hB (g := F0 m pc lr (av.reverse ++ st)) rfl hsz (argsL := av) (rest := st) (bp_len hw hn) rfl (lv_room hrm) (by rw [X.2.1]; exact bp_dec X hd) (fun vm₁ _ => bp_pre hR hT h1 h2 vm₁)
    exact bp_fin X hz h3 hl hT hcl hkc X'' hp stp
theorem bp_callV {M' : bp_M} {d' : bp_Dp} {n index : Nat} {av st0 : List Value} (k : Nat) (hd : M.2.2.2.2[k]? = some (pc, .invokevirtual index, 3)) (hq : pc + 3 = q) (hw : bp_Cw M' n) (hk : bp_Lk M.1.cls index M'.1) {b ci : Nat} {r : vw_C} (hr : bp_cl[ci]? = some r) (hK : bp_K h b = ci + 6) (hi : Cond.instanceMethod M'.1 ∈ bp_WS) (hs : Cond.selects r.1 M'.1 M'.1 ∈ bp_WS) (hn : av.length = n) (hst : st0 = av.reverse ++ .ref b :: st) (hrm : (st.map fun v => v.category).sum ≤ 8) (hdd : d'.1 + 1 ≤ d.1 ∧ 8 + (M'.2.2.1 + 11) + d'.2.1 ≤ d.2.1)
    (hM : bp_AM l G H0 d' M' h c s (.ref b :: av) (bp_C l G H0 d M q ls st Q)) (hkc : d.2.2.1 = true → d'.2.2.2 = true := by first | exact id | exact fun _ => rfl | exact fun z => nomatch z) : bp_A l G H0 d M h c s pc ls st0 Q := by
  subst hq
  subst hst
  intro p e R s₀ m args below meth cd H locs cells slots lr X hR h1 h2 h3 hl hcl hz T hT X'
  have hts := X.2.2.2.2.1
  have hsz : lr.size = cd.maxLocals := hl.1.trans X.2.2.1.symm
  have hB := bp_back (e := e) (below := below) X hz hM hdd hw
  obtain ⟨cB, g1, g2, g3⟩ := bp_recv X hR hK hr
  rcases hk with hk | ⟨host, hk⟩
  · obtain ⟨v, vm₁, B, hW₁, X'', hp, stp⟩ := callV X' X.1 (C := r.1) (bytes := M'.2.1) (maxL := M'.2.2.1) (ret := M'.2.2.2.1) X.2.2.2.1 (hts _ hk) (hts _ hi) (hts _ hs) (hts _ hw.2.2.1) hw.1 hB (by rw [hT]; exact g1) g2 g3 (g := F0 m pc lr (av.reverse ++ .ref b :: st)) rfl hsz (argsL := av) (rest := st) (bp_len hw hn) rfl (lv_room hrm) (by rw [X.2.1]; exact bp_dec X hd) (fun vm₁ _ => bp_pre hR hT h1 h2 vm₁)
    exact bp_fin X hz h3 hl hT hcl hkc X'' hp stp
  · obtain ⟨v, vm₁, B, hW₁, X'', hp, stp⟩ := va_callVN X' X.1 (C := r.1) (bytes := M'.2.1) (maxL := M'.2.2.1) (ret := M'.2.2.2.1) X.2.2.2.1 (hts _ hk) (hts _ hi) (hts _ hs) (hts _ hw.2.2.1) hw.1 hB (by rw [hT]; exact g1) g2 g3 (g := F0 m pc lr (av.reverse ++ .ref b :: st)) rfl hsz (argsL := av) (rest := st) (bp_len hw hn) rfl (lv_room hrm) (by rw [X.2.1]; exact bp_dec X hd) (fun vm₁ _ => bp_pre hR hT h1 h2 vm₁)
    exact bp_fin X hz h3 hl hT hcl hkc X'' hp stp
theorem bp_callI {M' : bp_M} {d' : bp_Dp} {n index : Nat} {av st0 : List Value} (k : Nat) (hd : M.2.2.2.2[k]? = some (pc, .invokespecial index, 3)) (hq : pc + 3 = q) (hw : bp_Cw M' n) (hk : bp_Lk M.1.cls index M'.1) {b : Nat} (hret : M'.2.2.2.1 = none) (hy1 : M'.1.name = "<init>") (hi : Cond.instanceMethod M'.1 ∈ bp_WS) (hn : av.length = n) (hst : st0 = av.reverse ++ .ref b :: st) (hrm : (st.map fun v => v.category).sum ≤ 8) (hdd : d'.1 + 1 ≤ d.1 ∧ 8 + (M'.2.2.1 + 11) + d'.2.1 ≤ d.2.1)
    (hM : bp_AM l G H0 d' M' h c s (.ref b :: av) (bp_C l G H0 d M q ls st Q)) (hkc : d.2.2.1 = true → d'.2.2.2 = true := by first | exact id | exact fun _ => rfl | exact fun z => nomatch z) : bp_A l G H0 d M h c s pc ls st0 Q := by
  subst hq
  subst hst
  intro p e R s₀ m args below meth cd H locs cells slots lr X hR h1 h2 h3 hl hcl hz T hT X'
  have hts := X.2.2.2.2.1
  have hsz : lr.size = cd.maxLocals := hl.1.trans X.2.2.1.symm
  have hB := bp_back (e := e) (below := below) X hz hM hdd hw
  have w1 := hts _ hw.2.2.1
  rw [hret] at w1
  rcases hk with hk | ⟨host, hk⟩
  · obtain ⟨v, vm₁, B, hW₁, X'', hp, stp⟩ := callI X' X.1 (bytes := M'.2.1) (maxL := M'.2.2.1) X.2.2.2.1 hy1 (hts _ hk) (hts _ hi) w1 hw.1 hB (g := F0 m pc lr (av.reverse ++ .ref b :: st)) rfl hsz (argsL := av) (rest := st) (bp_len hw hn) rfl (lv_room hrm) (by rw [X.2.1]; exact bp_dec X hd) (fun vm₁ _ => bp_pre hR hT h1 h2 vm₁)
    exact bp_fin X hz h3 hl hT hcl hkc X'' hp stp
  · obtain ⟨v, vm₁, B, hW₁, X'', hp, stp⟩ := va_callIN X' X.1 (bytes := M'.2.1) (maxL := M'.2.2.1) X.2.2.2.1 hy1 (hts _ hk) (hts _ hi) w1 hw.1 hB (g := F0 m pc lr (av.reverse ++ .ref b :: st)) rfl hsz (argsL := av) (rest := st) (bp_len hw hn) rfl (lv_room hrm) (by rw [X.2.1]; exact bp_dec X hd) (fun vm₁ _ => bp_pre hR hT h1 h2 vm₁)
    exact bp_fin X hz h3 hl hT hcl hkc X'' hp stp
/-- a virtual call by the name x, of which the receiver's class selects M' -/
theorem bp_callU {M' : bp_M} {x : MethodName} {owner : String} {d' : bp_Dp} {n index : Nat} {av st0 : List Value} (k : Nat) (hd : M.2.2.2.2[k]? = some (pc, .invokevirtual index, 3)) (hq : pc + 3 = q) (hw : bp_Cw M' n) (hk : Cond.methodLink M.1.cls index x ∈ bp_WS) (hsm : Cond.sameMethod x.cls owner x.name x.desc ∈ bp_WS) (hdc : Cond.declares ⟨owner, x.name, x.desc⟩ ∈ bp_WS ∨ (M'.1 = ⟨owner, x.name, x.desc⟩)) (ho : owner ≠ "java/lang/invoke/MethodHandle" ∧ owner ≠ "java/lang/invoke/VarHandle") (hpx : parseMethodDescriptor x.desc = parseMethodDescriptor M'.1.desc) {b ci : Nat} {r : vw_C} (hr : bp_cl[ci]? = some r) (hK : bp_K h b = ci + 6) (hi : Cond.instanceMethod M'.1 ∈ bp_WS) (hs : Cond.selects r.1 x M'.1 ∈ bp_WS) (hn : av.length = n) (hst : st0 = av.reverse ++ .ref b :: st) (hrm : (st.map fun v => v.category).sum ≤ 8) (hdd : d'.1 + 1 ≤ d.1 ∧ 8 + (M'.2.2.1 + 11) + d'.2.1 ≤ d.2.1)
    (hM : bp_AM l G H0 d' M' h c s (.ref b :: av) (bp_C l G H0 d M q ls st Q)) (hkc : d.2.2.1 = true → d'.2.2.2 = true := by first | exact id | exact fun _ => rfl | exact fun z => nomatch z) : bp_A l G H0 d M h c s pc ls st0 Q := by
  subst hq
  subst hst
  intro p e R s₀ m args below meth cd H locs cells slots lr X hR h1 h2 h3 hl hcl hz T hT X'
  have hts := X.2.2.2.2.1
  have hsz : lr.size = cd.maxLocals := hl.1.trans X.2.2.1.symm
  have hB := bp_back (e := e) (below := below) X hz hM hdd hw
  obtain ⟨cB, g1, g2, g3⟩ := bp_recv X hR hK hr
  have hdecl : va_Decl s₀ ⟨owner, x.name, x.desc⟩ := by
    rcases hdc with hdc | hdc
    · exact va_Decl.abs (X.2.2.2.2.2.1 _ hdc)
    · rw [← hdc]; exact va_Decl.of (hts _ hi) (hts _ hw.2.2.1)
  obtain ⟨v, vm₁, B, hW₁, X'', hp, stp⟩ := va_callVU X' X.1 (C := r.1) (owner := owner) (bytes := M'.2.1) (maxL := M'.2.2.1) (ret := M'.2.2.2.1) X.2.2.2.1 (hts _ hk) (hts _ hsm) hdecl ho (hts _ hs) (hts _ hi) (hts _ hw.2.2.1) hB (by rw [hT]; exact g1) g2 g3 (g := F0 m pc lr (av.reverse ++ .ref b :: st)) rfl hsz (argsL := av) (rest := st) (fun sig z => bp_len hw hn sig (hpx ▸ z)) rfl (lv_room hrm) (by rw [X.2.1]; exact bp_dec X hd) (fun vm₁ _ => bp_pre hR hT h1 h2 vm₁)
  exact bp_fin X hz h3 hl hT hcl hkc X'' hp stp
theorem bp_objInit {index a : Nat} (k : Nat) (hd : M.2.2.2.2[k]? = some (pc, .invokespecial index, 3)) (hq : pc + 3 = q) (w1 : Cond.methodLink M.1.cls index Lib.objectInit ∈ bp_WS) (w2 : Cond.instanceMethod Lib.objectInit ∈ bp_WS) (w3 : Cond.code Lib.objectInit ⟨#[0xb1]⟩ 1 none ∈ bp_WS) (hrm : (st.map fun v => v.category).sum ≤ 8) (hdd : 1 ≤ d.1 ∧ 20 ≤ d.2.1) (w : bp_A l G H0 d M h c s q ls st Q) : bp_A l G H0 d M h c s pc ls (.ref a :: st) Q := by
  subst hq
  intro p e R s₀ m args below meth cd H locs cells slots lr X hR h1 h2 h3 hl hcl hz
  have hts := X.2.2.2.2.1
  have hfr := X.2.2.2.2.2.2.2.2.2.1
  have hlo := X.2.2.2.2.2.2.2.2.2.2.1
  refine W.objInit X.1 X.2.1 X.2.2.2.1 (hts _ w1) (hts _ w2) (hts _ w3) rfl (hl.1.trans X.2.2.1.symm) rfl (bp_dec X hd) (by omega) ?_ (w p e R s₀ m args below meth cd H locs cells slots lr X hR h1 h2 h3 hl hcl hz)
  show 2 * 0 + (st.map fun v => v.category).sum + 12 ≤ R.locals
  omega
theorem bp_ldc {index : Nat} {v : Int32} (k : Nat) (hd : M.2.2.2.2[k]? = some (pc, .ldc index, 2)) (hq : pc + 2 = q) (hw : Cond.constant M.1.cls index v ∈ bp_WS) (w : bp_A l G H0 d M h c s q ls (.int v :: st) Q) : bp_A l G H0 d M h c s pc ls st Q := by
  subst hq
  intro p e R s₀ m args below meth cd H locs cells slots lr X hR h1 h2 h3 hl hcl hz
  exact lv_ldc X.1 X.2.1 X.2.2.2.1 (X.2.2.2.2.1 _ hw) (bp_dec X hd) (w p e R s₀ m args below meth cd H locs cells slots lr X hR h1 h2 h3 hl hcl hz)
theorem bp_ldc2 {index : Nat} {v : Int64} (k : Nat) (hd : M.2.2.2.2[k]? = some (pc, .ldc2_w index, 3)) (hq : pc + 3 = q) (hw : Cond.constantLong M.1.cls index v ∈ bp_WS) (w : bp_A l G H0 d M h c s q ls (.long v :: st) Q) : bp_A l G H0 d M h c s pc ls st Q := by
  subst hq
  intro p e R s₀ m args below meth cd H locs cells slots lr X hR h1 h2 h3 hl hcl hz
  exact lv_ldc2 X.1 X.2.1 X.2.2.2.1 (X.2.2.2.2.1 _ hw) (bp_dec X hd) (w p e R s₀ m args below meth cd H locs cells slots lr X hR h1 h2 h3 hl hcl hz)
/-- what was known of the start may be forgotten -/
theorem bp_dirty {a b : Nat} (w : bp_A l G H0 (a, b, false, false) M h c s pc ls st Q) : bp_A l G H0 (a, b, true, false) M h c s pc ls st Q := by
  intro p e R s₀ m args below meth cd H locs cells slots lr X hR h1 h2 h3 hl hcl hz
  exact w p e R s₀ m args below meth cd H locs cells slots lr X hR h1 h2 h3 hl (fun z => by cases z) hz
end BPN
