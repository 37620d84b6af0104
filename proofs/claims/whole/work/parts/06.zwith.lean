/-! methods with handlers: their contract, and a static call of one -/
def bp_AW (l : Launch) (G : bp_G) (H0 : Heap) (d : bp_Dp) (M : bp_M) (h : bp_H) (c s : Nat) (av : List Value) (Q : Option Value → bp_H → Nat → Nat → Prop) : Prop :=
  MetFree l M.1 (headSpec [.codeWith M.1 M.2.1 M.2.2.1 M.2.2.2.1 (bp_hh M.1)] (bp_room d c s)) (bp_P G H0 h av) (fun _ _ _ _ _ => True) (bp_Qm G H0 d.2.2.2 c s Q)
theorem bp_ofW {l : Launch} {G : bp_G} {H0 : Heap} {d : bp_Dp} {M : bp_M} {h : bp_H} {c s : Nat} {av : List Value} {ls : List (Option Value)} {Q : Option Value → bp_H → Nat → Nat → Prop}
    (hy : plainName M.1.cls = true) (ht : ∀ e ∈ M.2.2.2.2, decode M.2.1 e.1 = .ok e.2) (hn : (lg_sl av).length ≤ M.2.2.1) (hl : ∀ q ∈ bp_al 0 ls, q ∈ lv_args 0 av)
    (kn : Bool) (body : bp_A l G H0 (d.1, d.2.1, kn, d.2.2.2) M h c s 0 ls [] (fun o h' c' s' => ∃ v, o = .returned v ∧ Q v h' c' s')) : bp_AW l G H0 d M h c s av Q := by
  refine MetFree.of_bodyS (code := M.2.1) (maxLocals := M.2.2.1) (ret := M.2.2.2.1) hy ?_ ?_
  · intro args s m h hn
    obtain ⟨m', meth, c, h0, h1, h2, h3, h4, -, h5, h6, -⟩ := Cond.codeWith_spec (atoms_spec (ws := [.codeWith M.1 M.2.1 M.2.2.1 M.2.2.2.1 (bp_hh M.1)]) h _ List.mem_cons_self)
    cases hn.symm.trans h0
    exact ⟨meth, c, h1, h2, h3, h4, h5, h6⟩
  · intro p e s₀ m args below meth cd s₁ B hml hP _
    obtain ⟨rfl, hHW, hok, hR, hz⟩ := hP
    have hh0 : s₁.heap = s₀.heap := by rw [B.state]; rfl
    have X := Stand.of_body B
    have hl0 := lv_more (lv_entry av (n := M.2.2.1) hn) hl
    have hmap : cd.exceptionTable.toList.map (fun x => (x.startPc, x.endPc, x.handlerPc, x.catchType)) = bp_hh M.1 := by
      obtain ⟨m', meth', c', g0, g1, g2, -, -, g5, -, -, -⟩ := Cond.codeWith_spec (atoms_spec (ws := [.codeWith M.1 M.2.1 M.2.2.1 M.2.2.2.1 (bp_hh M.1)]) B.pre _ List.mem_cons_self)
      cases B.named.symm.trans g0
      cases B.method.symm.trans g1
      cases X.code.symm.trans g2
      exact g5
    have w := body p e (bp_room d c s) s₀ m av.toArray below meth cd s₀.heap [] 0 0 _
      ⟨B.exec, B.bytes, hml, findClass_of_methodNamed B.named, bp_HW_args hHW _, hHW, hok, B.returns, B.notSynchronized, Nat.le_refl _, Nat.le_refl _, ⟨(name_of_methodNamed B.named B.method).1, hmap⟩, ht⟩ hR (Nat.zero_add _) (Nat.zero_add _) (fun q hq => by cases hq) hl0 (fun _ => ⟨rfl, rfl, rfl, rfl⟩) hz
    rw [lg_entry_eq]
    obtain ⟨t, a1, o, b1, b2, L, k, n, h', c', s', e1, e2, e3, e4, e5, e6, e8, v, rfl, hq⟩ := w s₁ hh0 X
    exact ⟨t, .returned v, a1, b1, b2, v, L, k, n, h', c', s', rfl, ⟨⟨v, rfl⟩, e1, e2⟩, e3, e4, e5, e6, (fun z => e8 z v rfl), hq⟩
def bp_Cx2 (M' : bp_M) (n : Nat) : Prop := (M'.1.cls ≠ "java/lang/invoke/MethodHandle" ∧ M'.1.cls ≠ "java/lang/invoke/VarHandle") ∧ (parseMethodDescriptor M'.1.desc).map (fun d => d.parameters.length) = some n ∧ Cond.codeWith M'.1 M'.2.1 M'.2.2.1 M'.2.2.2.1 (bp_hh M'.1) ∈ bp_WS ∧ Cond.initialized M'.1.cls ∈ bp_WS
section BPY
variable {l : Launch} {G : bp_G} {H0 : Heap} {d : bp_Dp} {M : bp_M} {h : bp_H} {c s pc q : Nat} {ls ls' : List (Option Value)} {st : List Value} {Q : Outcome → bp_H → Nat → Nat → Prop}
set_option maxHeartbeats 4000000 in
theorem bp_callSW {M' : bp_M} {d' : bp_Dp} {n index : Nat} {av st0 : List Value} (k : Nat) (hd : M.2.2.2.2[k]? = some (pc, .invokestatic index, 3)) (hq : pc + 3 = q) (hw : bp_Cx2 M' n) (hk : Cond.methodLink M.1.cls index M'.1 ∈ bp_WS) (hsta : Cond.static M'.1 ∈ bp_WS) (hn : av.length = n) (hst : st0 = av.reverse ++ st) (hrm : (st.map fun v => v.category).sum ≤ 8) (hdd : d'.1 + 1 ≤ d.1 ∧ 8 + (M'.2.2.1 + 11) + d'.2.1 ≤ d.2.1)
    (hM : bp_AW l G H0 d' M' h c s av (bp_C l G H0 d M q ls st Q)) (hkc : d.2.2.1 = true → d'.2.2.2 = true := by first | exact id | exact fun _ => rfl | exact fun z => nomatch z) : bp_A l G H0 d M h c s pc ls st0 Q := by
  subst hq
  subst hst
  intro p e R s₀ m args below meth cd H locs cells slots lr X hR h1 h2 h3 hl hcl hz T hT X'
  have hts := X.2.2.2.2.1
  have hsz : lr.size = cd.maxLocals := hl.1.trans X.2.2.1.symm
  have hfrR := X.2.2.2.2.2.2.2.2.2.1
  have hloR := X.2.2.2.2.2.2.2.2.2.2.1
  obtain ⟨hy, hpar, w1, w2⟩ := hw
  have hB : Back l R p e below s₀ args M'.1 3 8 (fun A a => a = av.toArray ∧ A.cells + c = R.cells ∧ A.slots + s = R.slots ∧ bp_Rel G H0 h A.U.heap)
      (fun A a v B => ∃ (h' : bp_H) (c' s' : Nat) (L : List Loc), B.cells + c' = R.cells ∧ B.slots + s' = R.slots ∧ B.locs = A.locs ++ L ∧ (∀ q ∈ L, H0.size ≤ q.base) ∧ bp_Rel G H0 h' B.U.heap ∧ (d'.2.2.2 = true → B.U.heap = A.U.heap ∧ L = [] ∧ B.cells = A.cells ∧ B.slots = A.slots) ∧ bp_C l G H0 d M (pc + 3) ls st Q v h' c' s') := by
    refine va_ofFreeW (S := headSpec [.codeWith M'.1 M'.2.1 M'.2.2.1 M'.2.2.2.1 (bp_hh M'.1)] (bp_room d' c s)) (P := bp_P G H0 h av) (K := fun _ _ _ _ _ => True) (Q := bp_Qm G H0 d'.2.2.2 c s (bp_C l G H0 d M (pc + 3) ls st Q)) (bytes := M'.2.1) (maxL := M'.2.2.1) (ret := M'.2.2.2.1) (hh := bp_hh M'.1)
      (E := fun a st' o t L k n => (∀ q ∈ L, H0.size ≤ q.base) ∧ ∃ (v : Option Value) (h' : bp_H) (c' s' : Nat), o = .returned v ∧ bp_Rel G H0 h' t.heap ∧ k + c' = c ∧ n + s' = s ∧ (d'.2.2.2 = true → t.heap = st'.heap ∧ L = [] ∧ k = 0 ∧ n = 0) ∧ bp_C l G H0 d M (pc + 3) ls st Q v h' c' s') hM ?_ ?_ ?_ ?_ (fun _ _ _ _ _ _ _ _ _ => trivial) ?_ ?_
    · show d'.1 + 1 ≤ R.frames; omega
    · show 8 + (M'.2.2.1 + 11) + d'.2.1 ≤ R.locals; omega
    · intro m' meth' c' A a X' hp
      have hh := bp_HW_args (bp_HW_warm X'.warmed X.2.2.2.2.2.1) a
      refine ⟨atoms_intro fun w hw => ?_, hh _ w1, hh _ w2, ?_, ?_⟩
      · rcases List.mem_cons.mp hw with rfl | hw
        · exact hh _ w1
        · cases hw
      · show A.cells + c ≤ R.cells; exact Nat.le_of_eq hp.2.1
      · show A.slots + s ≤ R.slots; exact Nat.le_of_eq hp.2.2.1
    · intro m' meth' c' A a g mk X' hp
      exact ⟨hp.1, bp_HW_vm (s := A.U) (State.WarmedH.refl A.U) (bp_HW_warm X'.warmed X.2.2.2.2.2.1), va_K.moved (u := A.U) (U := A.U.calling g mk a) (Vm.Alike.refl A.U.vm) (va_K.moved X'.warmed.alike X.2.2.2.2.2.2.1), hp.2.2.2, bp_St_warm (s := s₀) (U := A.U.calling g mk a) X'.warmed hz⟩
    · rintro a first o t ⟨v, L, k, n, h', c', s', e1, e2, e3, e4, e5, e6, e8, e7⟩
      exact ⟨L, k, n, e2, e3, v, h', c', s', e1, e4, e5, e6, e8, e7⟩
    · rintro m' meth' cc A a g mk v t L k n X' hp - - ⟨e3, v', h', c', s', e1, e4, e5, e6, e8, e7⟩
      cases e1
      refine ⟨h', c', s', L, ?_, ?_, rfl, e3, e4, fun z => ?_, e7⟩
      · show A.cells + k + c' = R.cells; have := hp.2.1; omega
      · show A.slots + n + s' = R.slots; have := hp.2.2.1; omega
      · obtain ⟨z1, z2, z3, z4⟩ := e8 z
        exact ⟨z1, z2, by show A.cells + k = A.cells; omega, by show A.slots + n = A.slots; omega⟩
  obtain ⟨mk, methM, cM, hnamed, hmethM, -, -, -, -, -, -, hsigM⟩ := Cond.codeWith_spec (hts _ w1)
  have hstatic : methM.isStatic = true := Cond.static_spec hnamed hmethM (hts _ hsta)
  obtain ⟨kP, hkP, -⟩ := className_of_methodNamed hnamed
  have hinitP : kP.init = .initialized := Cond.initialized_spec (findClass_of_methodNamed hnamed) hkP (hts _ w2)
  have hlen : av.length = methM.sig.parameters.length := by
    rw [hsigM] at hpar
    exact hn.trans (Option.some.inj hpar).symm
  obtain ⟨vm₁, X₁, hstep₁⟩ := X'.invokestatic X.1 X.2.2.2.1 (hts _ hk) hnamed hmethM hstatic hkP hinitP hy (g := F0 m pc lr (av.reverse ++ st)) rfl (argsL := av) (rest := st) hlen rfl (by rw [X.2.1]; exact bp_dec X hd)
  obtain ⟨v, B, X'', hpost, hsteps⟩ := hB m meth cd ⟨T.setVm vm₁, locs, cells, slots⟩ (F0 m pc lr st) (.invokestatic index) mk av.toArray X₁ rfl hsz (by rw [X.2.1]; exact bp_dec X hd) (lv_room hrm) (X₁.named hnamed) (bp_pre hR hT h1 h2 vm₁)
  exact bp_fin X hz h3 hl hT hcl hkc X'' hpost (fun target h => hstep₁ _ fun acts => by rw [doInvoke_state]; exact hsteps.trans h)
end BPY
