/-! catching: the catch types may not be resolved yet: the search resolves them, and the tables grow warmer -/
def bp_Fd (e : Env) (s : State) (f : JFrame) (a : Addr) (h : Handler) (vm' : Vm) : Prop := ∀ (Q : Handler → Pre) (E : CtlPost) (d : Bool) (acts : List Action), wp (findHandler f a) Q E e d acts s ↔ Q h d acts (s.setVm vm')
theorem bp_go_cold {e : Env} {s : State} {f : JFrame} {a : Addr} {x : ExceptionTableEntry} {t : List ExceptionTableEntry} {c : ClassId} {vm' : Vm} {Q : Handler → Pre} {E : CtlPost} {d : Bool} {acts : List Action} (hx : covers x f.pc = true) (h0 : x.catchType ≠ 0)
    (hg : (Jvm.resolveClass f.method.cls x.catchType).Gives e.toSetting s.vm (.ok c) vm') (hr : vm'.classReady f.method.cls x.catchType c) (hsz : vm'.classes.size ≤ s.vm.classes.size) :
    wp (findHandler.go f a (x :: t)) Q E e d acts s ↔ wp (findHandler.go f a (x :: t)) Q E e d acts (s.setVm vm') := by
  simp only [covers] at hx
  obtain ⟨ha, ht⟩ := hg.op (op := VmOp.resolveClass f.method.cls x.catchType) rfl
  obtain ⟨k, hkd, hres⟩ := hr
  have hm := resolveClass_memo e hkd hres
  simp [findHandler.go, hx, h0, ha, ht, hsz, hm, VmOp.dirties, VmOp.acts]
  exact Iff.rfl
theorem bp_catch {e : Env} {s : State} {a : Addr} {f : JFrame} {r : List Frame} {pc : Nat} {vm' : Vm} (hfind : bp_Fd e s f a (.found pc) vm') :
    (stepThrowing e s a (.java f :: r)).Is ((s.setVm vm').setFrames (.java { f with pc := pc, stack := [.ref a] } :: r)) [] := by
  simp only [stepThrowing, searchFrame, vmDo]
  generalize hr : Sem.go _ e false [] s = res
  obtain ⟨as, rfl, ha⟩ := Sem.eq_ok_of hr (a := Handler.found pc) (s' := s.setVm vm') (acts' := []) (by simp [hfind _ _ _ _])
  exact ⟨rfl, ha⟩
theorem bp_caught {tb : Tables} {e : Env} {s target : State} {g : JFrame} {c : Code} {below : List Frame} {a : Addr} {vm' : Vm} (h : At s g.method c below) {pc : Nat} (hfind : bp_Fd e ((s.setTop g).pushFrame (.throwing a)) g a (.found pc) vm')
    (hrest : Steps tb e below ((s.setVm vm').setTop { g with pc := pc, stack := [.ref a] }) target) :
    Steps tb e below ((s.setTop g).pushFrame (.throwing a)) target := by
  obtain ⟨hgo, hw⟩ := h.throwing a
  refine Steps.head hgo hw ?_
  rw [stepThread_throwing (frames_entered h.top _), (bp_catch (s := (s.setTop g).pushFrame (.throwing a)) hfind).1]
  obtain ⟨g₀, hg⟩ := Option.isSome_iff_exists.mp h.top
  obtain ⟨r, hr⟩ := State.topJava?_eq_some.mp hg
  have hr' : (s.setVm vm').frames = .java g₀ :: r := hr
  rw [State.setTop_of_frames _ hr'] at hrest
  have e1 : ((((s.setTop g).pushFrame (.throwing a)).setVm vm').setFrames (.java { g with pc := pc, stack := [.ref a] } :: s.frames.tail)) = (s.setVm vm').setFrames (.java { g with pc := pc, stack := [.ref a] } :: r) := by
    rw [State.pushFrame, State.setTop_of_frames _ hr, State.setFrames_setFrames, hr]
    show ((s.setVm vm').setFrames _).setFrames _ = _
    rw [State.setFrames_setFrames]
    rfl
  rw [e1]
  exact hrest
def bp_first : List ExceptionTableEntry → List (String × Bool) → Option Nat
  | x :: t, C :: r => if C.2 = true then some x.handlerPc else bp_first t r
  | _, _ => none
theorem bp_find {e : Env} {s₀ : State} {args : Array Value} {own : String} {g : JFrame} {a : Addr} {cell : Cell} {U : State} (hpl : e.platform.magicAccessors = ({} : Platform).magicAccessors) (hown : s₀.vm.findClass own = some g.method.cls) (hcell : U.heap[a]? = some cell) (hobj : ∀ k, cell.vm ≠ .statics k) (hk : ∃ k, s₀.vm.classes[cell.cls]? = some k) :
    ∀ (es : List ExceptionTableEntry) (Cs : List (String × Bool)) (vm₀ : Vm) (pc : Nat), s₀.WarmedH vm₀ → bp_first es Cs = some pc →
      (∀ (i : Nat) (x : ExceptionTableEntry) (C : String × Bool), es[i]? = some x → Cs[i]? = some C → covers x g.pc = true ∧ x.catchType ≠ 0 ∧ (Cond.classLink own x.catchType C.1).before args s₀ = true ∧ ∀ cc, s₀.vm.findClass C.1 = some cc → s₀.vm.assignable cell.cls cc = C.2) →
      ∃ vm', s₀.WarmedH vm' ∧ ∀ (Q : Handler → Pre) (E : CtlPost) (d : Bool) (acts : List Action), wp (findHandler.go g a es) Q E e d acts (U.setVm vm₀) ↔ Q (.found pc) d acts (U.setVm vm')
  | [], _, _, _, _, hf, _ => by simp [bp_first] at hf
  | x :: t, [], _, _, _, hf, _ => by simp [bp_first] at hf
  | x :: t, C :: r, vm₀, pc, hW, hf, hall => by
    obtain ⟨hx, h0, hl, hasg⟩ := hall 0 x C rfl rfl
    obtain ⟨cc, hfc, hcl⟩ := Cond.classLink_spec hown hl e.platform hpl
    obtain ⟨hg₁, hw₁, hr₁⟩ := State.classEntry (e := e) hW hcl
    have hsz : (vm₀.noted g.method.cls x.catchType (.cls cc)).classes.size ≤ (U.setVm vm₀).vm.classes.size := by
      show _ ≤ vm₀.classes.size
      rw [Vm.size_noted]
      exact Nat.le_refl _
    generalize vm₀.noted g.method.cls x.catchType (.cls cc) = vm₁ at hg₁ hw₁ hr₁ hsz
    have hk1 : ∃ k, vm₁.classes[cell.cls]? = some k := by
      obtain ⟨k, hk⟩ := hk
      obtain ⟨k', hk', -⟩ := hw₁.alike.2.2 _ _ hk
      exact ⟨k', hk'⟩
    have hc1 : ∃ k, vm₁.classes[cc]? = some k := by
      obtain ⟨k, hk⟩ := Vm.classAt_of_findClass hfc
      obtain ⟨k', hk', -⟩ := hw₁.alike.2.2 _ _ hk
      exact ⟨k', hk'⟩
    have hasg1 : vm₁.assignable cell.cls cc = C.2 := (hw₁.alike.assignable _ _).trans (hasg cc hfc)
    have step : ∀ (Q : Handler → Pre) (E : CtlPost) (d : Bool) (acts : List Action), wp (findHandler.go g a (x :: t)) Q E e d acts (U.setVm vm₀) ↔ if vm₁.assignable cell.cls cc = true then Q (.found x.handlerPc) d acts (U.setVm vm₁) else wp (findHandler.go g a t) Q E e d acts (U.setVm vm₁) := by
      intro Q E d acts
      rw [bp_go_cold (s := U.setVm vm₀) hx h0 hg₁ hr₁ hsz]
      exact W.findHandler_go_class (s := U.setVm vm₁) hx h0 hr₁ hcell hobj hk1 hc1
    cases hC : C.2 with
    | true =>
      rw [hC] at hasg1
      simp only [bp_first, hC, if_true] at hf
      cases hf
      exact ⟨vm₁, hw₁, fun Q E d acts => by rw [step, if_pos hasg1]⟩
    | false =>
      rw [hC] at hasg1
      simp only [bp_first, hC] at hf
      obtain ⟨vm', h1, h2⟩ := bp_find hpl hown hcell hobj hk t r vm₁ pc hw₁ hf (fun i y D hy hD => hall (i + 1) y D hy hD)
      exact ⟨vm', h1, fun Q E d acts => by rw [step, if_neg (by rw [hasg1]; decide)]; exact h2 Q E d acts⟩
