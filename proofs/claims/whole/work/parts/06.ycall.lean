/-! contracts of methods that throw; a call of one, inside a method that catches -/
def bp_Qt (G : bp_G) (H0 : Heap) (c s : Nat) (Q : Addr → bp_H → Nat → Nat → Prop) : Array Value → State → Outcome → State → Prop := fun _ st o t =>
  ∃ (x : Addr) (L : List Loc) (k n : Nat) (h' : bp_H) (c' s' : Nat), o = .threw x ∧ st.WarmedH t.vm ∧ st.sameButNew ({ t with vm := st.vm } : State) L k n ∧ (∀ q ∈ L, H0.size ≤ q.base) ∧ bp_Rel G H0 h' t.heap ∧ k + c' = c ∧ n + s' = s ∧ Q x h' c' s'
def bp_AT (l : Launch) (G : bp_G) (H0 : Heap) (d : bp_Dp) (M : bp_M) (h : bp_H) (c s : Nat) (av : List Value) (Q : Addr → bp_H → Nat → Nat → Prop) : Prop :=
  MetFree l M.1 (headSpec [.code M.1 M.2.1 M.2.2.1 M.2.2.2.1] (bp_room d c s)) (bp_P G H0 h av) (fun _ _ _ _ _ => True) (bp_Qt G H0 c s Q)
theorem bp_ofT {l : Launch} {G : bp_G} {H0 : Heap} {d : bp_Dp} {M : bp_M} {h : bp_H} {c s : Nat} {av : List Value} {ls : List (Option Value)} {Q : Addr → bp_H → Nat → Nat → Prop}
    (hy : plainName M.1.cls = true) (ht : ∀ e ∈ M.2.2.2.2, decode M.2.1 e.1 = .ok e.2) (hn : (lg_sl av).length ≤ M.2.2.1) (hl : ∀ q ∈ bp_al 0 ls, q ∈ lv_args 0 av)
    (body : bp_A l G H0 (d.1, d.2.1, true, false) M h c s 0 ls [] (fun o h' c' s' => ∃ x, o = .threw x ∧ Q x h' c' s')) (hh : bp_hh M.1 = [] := by decide +kernel) : bp_AT l G H0 d M h c s av Q := by
  refine MetFree.of_bodyS (code := M.2.1) (maxLocals := M.2.2.1) (ret := M.2.2.2.1) hy ?_ ?_
  · intro args s m h hn
    obtain ⟨meth, c, h1, h2, h3, h4, h5, h6, -, -⟩ := Cond.code_spec hn (atoms_spec (ws := [.code M.1 M.2.1 M.2.2.1 M.2.2.2.1]) h _ List.mem_cons_self)
    exact ⟨meth, c, h1, h2, h3, h4, h5, h6⟩
  · intro p e s₀ m args below meth cd s₁ B hml hP _
    obtain ⟨rfl, hHW, hok, hR, hz⟩ := hP
    have hh0 : s₁.heap = s₀.heap := by rw [B.state]; rfl
    have X := Stand.of_body B
    have hl0 := lv_more (lv_entry av (n := M.2.2.1) hn) hl
    have w := body p e (bp_room d c s) s₀ m av.toArray below meth cd s₀.heap [] 0 0 _
      ⟨B.exec, B.bytes, hml, findClass_of_methodNamed B.named, bp_HW_args hHW _, hHW, hok, B.returns, B.notSynchronized, Nat.le_refl _, Nat.le_refl _, ⟨(name_of_methodNamed B.named B.method).1, by
        have hne := B.noHandlers (atoms_spec (ws := [.code M.1 M.2.1 M.2.2.1 M.2.2.2.1]) B.pre _ List.mem_cons_self)
        simp only [Array.isEmpty_iff] at hne
        rw [hne, hh]
        rfl⟩, ht⟩ hR (Nat.zero_add _) (Nat.zero_add _) (fun q hq => by cases hq) hl0 (fun _ => ⟨rfl, rfl, rfl, rfl⟩) hz
    rw [lg_entry_eq]
    obtain ⟨t, a1, o, b1, b2, L, k, n, h', c', s', e1, e2, e3, e4, e5, e6, -, x, rfl, hq⟩ := w s₁ hh0 X
    exact ⟨t, .threw x, a1, b1, b2, x, L, k, n, h', c', s', rfl, e1, e2, e3, e4, e5, e6, hq⟩
def bp_firstT : List (Nat × Nat × Nat × Nat) → List (String × Bool) → Option Nat
  | x :: t, C :: r => if C.2 = true then some x.2.2.1 else bp_firstT t r
  | _, _ => none
theorem bp_first_eq : ∀ (es : List ExceptionTableEntry) (Cs : List (String × Bool)), bp_first es Cs = bp_firstT (es.map (fun x => (x.startPc, x.endPc, x.handlerPc, x.catchType))) Cs
  | [], [] => rfl
  | [], _ :: _ => rfl
  | _ :: _, [] => rfl
  | x :: t, C :: r => by
    show (if C.2 = true then some x.handlerPc else bp_first t r) = if C.2 = true then some x.handlerPc else bp_firstT (t.map _) r
    rw [bp_first_eq t r]
/-- which handler of M takes an exception of class ce at pc -/
def bp_Ca (M : bp_M) (pc ce hp : Nat) : Prop := ∃ (rE : vw_C) (Cs : List (String × Bool)), bp_cl[ce]? = some rE ∧ bp_firstT (bp_hh M.1) Cs = some hp ∧ Cond.castable rE.1 rE.1 ∈ bp_WS ∧
  ∀ (i : Nat) (e : Nat × Nat × Nat × Nat) (C : String × Bool), (bp_hh M.1)[i]? = some e → Cs[i]? = some C → e.1 ≤ pc ∧ pc < e.2.1 ∧ e.2.2.2 ≠ 0 ∧ Cond.classLink M.1.cls e.2.2.2 C.1 ∈ bp_WS ∧ ((C.2 = true ∧ C.1 = rE.1) ∨ (C.2 = false ∧ (rE.1, C.1) ∈ bp_NC))
section BPX
variable {l : Launch} {G : bp_G} {H0 : Heap} {d : bp_Dp} {M : bp_M} {h : bp_H} {c s pc q : Nat} {ls ls' : List (Option Value)} {st : List Value} {Q : Outcome → bp_H → Nat → Nat → Prop}
set_option maxHeartbeats 4000000 in
theorem bp_callVT {M' : bp_M} {d' : bp_Dp} {n index : Nat} {av st0 : List Value} (k : Nat) (hd : M.2.2.2.2[k]? = some (pc, .invokevirtual index, 3)) (hw : bp_Cw M' n) (hk : Cond.methodLink M.1.cls index M'.1 ∈ bp_WS) {b ci : Nat} {r : vw_C} (hr : bp_cl[ci]? = some r) (hK : bp_K h b = ci + 6) (hi : Cond.instanceMethod M'.1 ∈ bp_WS) (hs : Cond.selects r.1 M'.1 M'.1 ∈ bp_WS) (hn : av.length = n) (hst : st0 = av.reverse ++ .ref b :: st) (hrm : (st.map fun v => v.category).sum ≤ 8) (hdd : d'.1 + 1 ≤ d.1 ∧ 8 + (M'.2.2.1 + 11) + d'.2.1 ≤ d.2.1) (hdk : d.2.2.1 = false)
    (hM : bp_AT l G H0 d' M' h c s (.ref b :: av) (fun x h' c' s' => ∃ ce hp, bp_K h' x = ce + 6 ∧ bp_Ca M pc ce hp ∧ bp_A l G H0 d M h' c' s' hp ls [.ref x] Q)) : bp_A l G H0 d M h c s pc ls st0 Q := by
  subst hst
  intro p e R s₀ m args below meth cd H locs cells slots lr X hR h1 h2 h3 hl hcl hz T hT X'
  have hts := X.2.2.2.2.1
  have hsz : lr.size = cd.maxLocals := hl.1.trans X.2.2.1.symm
  have hpl : e.platform.magicAccessors = ({} : Platform).magicAccessors := by rw [X'.admits.platform]
  obtain ⟨cB, g1, g2, g3⟩ := bp_recv X hR hK hr
  obtain ⟨mk, methM, hnamed, hmethM, hstM, habM⟩ := Cond.instanceMethod_spec (hts _ hi)
  obtain ⟨methM', cM, hmethM', -, -, -, -, -, -, hsigM⟩ := Cond.code_spec hnamed (hts _ hw.2.2.1)
  cases hmethM.symm.trans hmethM'
  obtain ⟨c2, r2, m2, q1, q2, q3, q4, kP, hkP, hkPi⟩ := Cond.selects_spec (hts _ hs)
  cases g3.symm.trans q1
  cases (State.methodFound?_of_named hnamed hw.1).symm.trans q2
  cases hnamed.symm.trans q3
  have hselP : selectMethod e.platform s₀.vm cB.cls mk = .method mk := by rw [Launch.admits_selectMethod X'.admits]; exact q4
  have hdg : decode cd.code pc = .ok (.invokevirtual index, 3) := by rw [X.2.1]; exact bp_dec X hd
  obtain ⟨vm₁, X₁, hstep₁⟩ := X'.invokevirtual X.1 X.2.2.2.1 (hts _ hk) hnamed hmethM hstM hkP hkPi hw.1 (a := b) (cell := cB) (by rw [hT]; exact g1)
    (fun z h => by rw [h] at g2; cases g2) hselP hmethM habM hkP hkPi (g := F0 m pc lr (av.reverse ++ .ref b :: st)) rfl (argsL := av) (rest := st) (bp_len hw hn _ hsigM) rfl hdg
  have hUheap : (T.setVm vm₁).heap = H := hT
  generalize T.setVm vm₁ = U at X₁ hstep₁ hUheap
  have hn' : U.methodNamed? M'.1 = some mk := X₁.named hnamed
  have hHW := bp_HW_warm X₁.warmed X.2.2.2.2.2.1
  have hHa := bp_HW_args hHW (Value.ref b :: av).toArray
  obtain ⟨kY, hkY, -⟩ := className_of_methodNamed hn'
  have hinitY : kY.init = .initialized := Cond.initialized_spec (findClass_of_methodNamed hn') hkY (hHa _ hw.2.2.2)
  obtain ⟨methY, cY, hmY, hcY, -, hlY, -, -, -, -⟩ := Cond.code_spec hn' (hHa _ hw.2.2.1)
  have hfrR := X.2.2.2.2.2.2.2.2.2.1
  have hloR := X.2.2.2.2.2.2.2.2.2.2.1
  have hAt : At U (F0 m pc lr st).method cd below := X₁.here
  have hrm2 : 2 * (F0 m pc lr st).monitorRoom + ((F0 m pc lr st).stack.map fun v => v.category).sum ≤ 8 := lv_room hrm
  have happ : (headSpec [.code M'.1 M'.2.1 M'.2.2.1 M'.2.2.2.1] (bp_room d' c s)).appliesLoose M'.1 e.platform (U.calling (F0 m pc lr st) mk (Value.ref b :: av).toArray) = true :=
    Spec.appliesLoose_calling (g := F0 m pc lr st) hAt hdg hn' hkY hinitY
      (X₁.room_calling (g := F0 m pc lr st) (R' := bp_room d' c s) hsz hmY hcY (by show d'.1 + 1 ≤ R.frames; omega) (by
        rw [hlY]
        show _ + (M'.2.2.1 + 11) + d'.2.1 ≤ R.locals
        omega) (by show cells + c ≤ R.cells; omega) (by show slots + s ≤ R.slots; omega))
      (atoms_intro fun w hw' => by
        rcases List.mem_cons.mp hw' with rfl | hw'
        · exact hHa _ hw.2.2.1
        · cases hw')
  obtain ⟨mid, hmid⟩ := hAt.above
  have hfr : (U.setTop (F0 m pc lr st)).frames = (.java (F0 m pc lr st) :: mid) ++ below := by rw [State.frames_setTop' _ hAt.top, hmid]; rfl
  have hP : bp_P G H0 h (Value.ref b :: av) (Value.ref b :: av).toArray (U.calling (F0 m pc lr st) mk (Value.ref b :: av).toArray) :=
    ⟨rfl, bp_HW_warm (s := U) (State.WarmedH.refl U) hHW, va_K.moved (u := U) (U := U.calling (F0 m pc lr st) mk (Value.ref b :: av).toArray) (Vm.Alike.refl U.vm) (va_K.moved X₁.warmed.alike X.2.2.2.2.2.2.1), by show bp_Rel G H0 h U.heap; rw [hUheap]; exact hR, bp_St_warm (s := s₀) (U := U.calling (F0 m pc lr st) mk (Value.ref b :: av).toArray) X₁.warmed hz⟩
  obtain ⟨o, s₂, hsteps, -, hend, hq⟩ := Steps.callFree hM p X₁.admits X₁.cas X₁.clock (acts := []) hfr happ hP trivial
  rw [State.frames_setTop' _ hAt.top] at hend
  have hq' : bp_Qt G H0 c s _ (Value.ref b :: av).toArray (U.calling (F0 m pc lr st) mk (Value.ref b :: av).toArray) o s₂ := hq
  obtain ⟨x, L, kk, nn, h', c', s', rfl, hW₂, ⟨e2, p2, p3, p4, p5, p6⟩, hL, hR', hc', hs', ce, hp, hKx, hCa, hA⟩ := hq'
  have hW' : U.WarmedH s₂.vm := hW₂
  have e3 : s₂ = ({ (U.calling (F0 m pc lr st) mk (Value.ref b :: av).toArray).setFrames s₂.frames with heap := s₂.heap, slotsUsed := s₂.slotsUsed } : State).setVm s₂.vm := by
    have : s₂ = ({ s₂ with vm := (U.calling (F0 m pc lr st) mk (Value.ref b :: av).toArray).vm } : State).setVm s₂.vm := rfl
    rw [e2] at this
    exact this
  have hf₂ : s₂.frames = .throwing x :: .java (F0 m pc lr st) :: U.frames.tail := hend
  obtain ⟨g₀, hg0⟩ := Option.isSome_iff_exists.mp hAt.top
  obtain ⟨rr, hrr⟩ := State.topJava?_eq_some.mp hg0
  have hs₂ : s₂ = ((({ U with heap := s₂.heap, slotsUsed := s₂.slotsUsed } : State).setVm s₂.vm).setTop (F0 m pc lr st)).pushFrame (.throwing x) := by
    have hr' : (({ U with heap := s₂.heap, slotsUsed := s₂.slotsUsed } : State).setVm s₂.vm).frames = .java g₀ :: rr := hrr
    refine e3.trans ?_
    rw [hf₂, State.calling_eq hAt.top, State.setFrames_setFrames, State.pushFrame, State.frames_setTop _ hr', State.setTop_of_frames _ hr', State.setFrames_setFrames, hrr]
    rfl
  have hsame : U.sameButNew ({ U with heap := s₂.heap, slotsUsed := s₂.slotsUsed } : State) L kk nn := by
    refine ⟨?_, p2, p3, p4, p5, p6⟩
    obtain ⟨t, ht, -⟩ := State.frames_cons hrr
    show ({ U with heap := s₂.heap, slotsUsed := s₂.slotsUsed } : State) = { U.setFrames U.frames with heap := s₂.heap, slotsUsed := s₂.slotsUsed }
    rw [State.setFrames_self ht]
  have X₂ : Stand p l e R s₀ m args below meth cd (({ U with heap := s₂.heap, slotsUsed := s₂.slotsUsed } : State).setVm s₂.vm) (locs ++ L) (cells + kk) (slots + nn) :=
    ⟨X₁.admits, X₁.cas, X₁.clock, X₁.frames, X₁.room, X₁.hears, X₁.method, X₁.code, (X₁.here.setHeapUsed s₂.heap s₂.slotsUsed).setVm hW'.alike, X₁.tail, State.WarmedH.trans X₁.warmed hW', X₁.limits, X₁.bytes, X₁.same.trans (hsame.setVm s₀.vm)⟩
  rw [hs₂] at hsteps
  have hB : (({ U with heap := s₂.heap, slotsUsed := s₂.slotsUsed } : State).setVm s₂.vm).heap = s₂.heap := rfl
  generalize (({ U with heap := s₂.heap, slotsUsed := s₂.slotsUsed } : State).setVm s₂.vm) = B at X₂ hsteps hB
  -- the search for a handler
  obtain ⟨rE, Cs, hrE, hft, hcast, hall⟩ := hCa
  obtain ⟨cell, i1, i2, i3, -⟩ := bp_cell_ob (hR'.1 x) hKx
  have hclE := (X.2.2.2.2.2.2.1.1 ce _ hrE).2
  have hmap := X.2.2.2.2.2.2.2.2.2.2.2.1.2
  have hUx : ((B.setTop (F0 m pc lr st)).pushFrame (.throwing x)).heap[x]? = some cell := by rw [Stand.throwing_heap, hB]; exact i1
  have hvB : ((B.setTop (F0 m pc lr st)).pushFrame (.throwing x)).vm = B.vm := Stand.throwing_vm _ _ _
  obtain ⟨vm', hw', hfind⟩ := bp_find (e := e) (s₀ := s₀) (args := args) (own := M.1.cls) (g := F0 m pc lr st) (a := x) (cell := cell) (U := (B.setTop (F0 m pc lr st)).pushFrame (.throwing x)) hpl X.2.2.2.1 hUx (fun z hz' => by rw [i3] at hz'; cases hz') (by rw [i2]; exact hclE.2.imp fun _ h => h.1) cd.exceptionTable.toList Cs B.vm hp X₂.warmed
    (by rw [bp_first_eq, hmap]; exact hft) (fun i y C hy hC => by
      have hy' : (bp_hh M.1)[i]? = some (y.startPc, y.endPc, y.handlerPc, y.catchType) := by rw [← hmap, List.getElem?_map, hy]; rfl
      obtain ⟨j1, j2, j3, j4, j5⟩ := hall i _ C hy' hC
      refine ⟨by simp only [covers, Bool.and_eq_true, decide_eq_true_eq]; exact ⟨j1, j2⟩, j3, hts _ j4, fun cc hcc => ?_⟩
      rcases j5 with ⟨k1, k2⟩ | ⟨k1, k2⟩
      · rw [k1]
        rw [k2] at hcc
        cases hclE.1.symm.trans hcc
        rw [i2]
        exact va_asg _ _
      · rw [k1]
        obtain ⟨u1, u2, u3, u4, u5⟩ := hz.2.2.2.2.1 _ k2
        cases hclE.1.symm.trans u3
        cases hcc.symm.trans u4
        rw [i2]
        exact u5)
  have hFd : bp_Fd e ((B.setTop (F0 m pc lr st)).pushFrame (.throwing x)) (F0 m pc lr st) x (.found hp) vm' := by
    intro Q' E' d' acts'
    have hmm : ((B.setTop (F0 m pc lr st)).pushFrame (.throwing x)).vm.method? (F0 m pc lr st).method = some meth := by rw [hvB]; exact X₂.method'
    rw [W.findHandler_eq hmm X₂.code]
    have := hfind Q' E' d' acts'
    rw [← hvB] at this
    exact this
  have X₃ := X₂.noted hw'
  obtain ⟨t, a1, b1⟩ := hA p e R s₀ m args below meth cd (B.setVm vm').heap (locs ++ L) (cells + kk) (slots + nn) lr X (by show bp_Rel G H0 h' B.heap; rw [hB]; exact hR') (by omega) (by omega) (bp_locsA h3 hL) hl (fun z => by rw [hdk] at z; cases z) hz (B.setVm vm') rfl X₃
  refine ⟨t, hstep₁ _ (fun acts => ?_), b1⟩
  rw [doInvoke_state]
  exact hsteps.trans (bp_caught (c := cd) X₂.here hFd a1)
end BPX
