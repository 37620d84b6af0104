/-! the flat heap: the kind of a cell (0: none of ours; 1 int[], 2 long[], 3 char[], 4 byte[], 5 an array of references; n + 6: an object of class n of bp_cl), an array's length, ints, longs, references -/
abbrev bp_H : Type := (Nat → Nat) × (Nat → Nat) × (Nat → Nat → Int32) × (Nat → Nat → Int64) × (Nat → Nat → Option Nat)
def bp_K (h : bp_H) (a : Nat) : Nat := h.1 a
def bp_L (h : bp_H) (a : Nat) : Nat := h.2.1 a
def bp_I (h : bp_H) (a k : Nat) : Int32 := h.2.2.1 a k
def bp_J (h : bp_H) (a k : Nat) : Int64 := h.2.2.2.1 a k
def bp_R (h : bp_H) (a k : Nat) : Option Nat := h.2.2.2.2 a k
def bp_u1 {α : Type} (f : Nat → α) (a : Nat) (v : α) : Nat → α := fun x => if x = a then v else f x
def bp_u2 {α : Type} (f : Nat → Nat → α) (a k : Nat) (v : α) : Nat → Nat → α := fun x y => if x = a ∧ y = k then v else f x y
def bp_sI (h : bp_H) (a k : Nat) (v : Int32) : bp_H := (h.1, h.2.1, bp_u2 h.2.2.1 a k v, h.2.2.2.1, h.2.2.2.2)
def bp_sJ (h : bp_H) (a k : Nat) (v : Int64) : bp_H := (h.1, h.2.1, h.2.2.1, bp_u2 h.2.2.2.1 a k v, h.2.2.2.2)
def bp_sR (h : bp_H) (a k : Nat) (v : Option Nat) : bp_H := (h.1, h.2.1, h.2.2.1, h.2.2.2.1, bp_u2 h.2.2.2.2 a k v)
def bp_new (h : bp_H) (a kd len : Nat) : bp_H := (bp_u1 h.1 a kd, bp_u1 h.2.1 a len, bp_u1 h.2.2.1 a (fun _ => 0), bp_u1 h.2.2.2.1 a (fun _ => 0), bp_u1 h.2.2.2.2 a (fun _ => none))
theorem bp_K_sI (h : bp_H) (a k : Nat) (v : Int32) (b : Nat) : bp_K (bp_sI h a k v) b = bp_K h b := rfl
theorem bp_K_sJ (h : bp_H) (a k : Nat) (v : Int64) (b : Nat) : bp_K (bp_sJ h a k v) b = bp_K h b := rfl
theorem bp_K_sR (h : bp_H) (a k : Nat) (v : Option Nat) (b : Nat) : bp_K (bp_sR h a k v) b = bp_K h b := rfl
theorem bp_L_sI (h : bp_H) (a k : Nat) (v : Int32) (b : Nat) : bp_L (bp_sI h a k v) b = bp_L h b := rfl
theorem bp_L_sJ (h : bp_H) (a k : Nat) (v : Int64) (b : Nat) : bp_L (bp_sJ h a k v) b = bp_L h b := rfl
theorem bp_L_sR (h : bp_H) (a k : Nat) (v : Option Nat) (b : Nat) : bp_L (bp_sR h a k v) b = bp_L h b := rfl
theorem bp_I_sI (h : bp_H) (a k : Nat) (v : Int32) (b j : Nat) : bp_I (bp_sI h a k v) b j = if b = a ∧ j = k then v else bp_I h b j := rfl
theorem bp_I_sJ (h : bp_H) (a k : Nat) (v : Int64) (b j : Nat) : bp_I (bp_sJ h a k v) b j = bp_I h b j := rfl
theorem bp_I_sR (h : bp_H) (a k : Nat) (v : Option Nat) (b j : Nat) : bp_I (bp_sR h a k v) b j = bp_I h b j := rfl
theorem bp_J_sI (h : bp_H) (a k : Nat) (v : Int32) (b j : Nat) : bp_J (bp_sI h a k v) b j = bp_J h b j := rfl
theorem bp_J_sJ (h : bp_H) (a k : Nat) (v : Int64) (b j : Nat) : bp_J (bp_sJ h a k v) b j = if b = a ∧ j = k then v else bp_J h b j := rfl
theorem bp_J_sR (h : bp_H) (a k : Nat) (v : Option Nat) (b j : Nat) : bp_J (bp_sR h a k v) b j = bp_J h b j := rfl
theorem bp_R_sI (h : bp_H) (a k : Nat) (v : Int32) (b j : Nat) : bp_R (bp_sI h a k v) b j = bp_R h b j := rfl
theorem bp_R_sJ (h : bp_H) (a k : Nat) (v : Int64) (b j : Nat) : bp_R (bp_sJ h a k v) b j = bp_R h b j := rfl
theorem bp_R_sR (h : bp_H) (a k : Nat) (v : Option Nat) (b j : Nat) : bp_R (bp_sR h a k v) b j = if b = a ∧ j = k then v else bp_R h b j := rfl
theorem bp_K_new (h : bp_H) (a kd len b : Nat) : bp_K (bp_new h a kd len) b = if b = a then kd else bp_K h b := rfl
theorem bp_L_new (h : bp_H) (a kd len b : Nat) : bp_L (bp_new h a kd len) b = if b = a then len else bp_L h b := rfl
theorem bp_I_new (h : bp_H) (a kd len b j : Nat) : bp_I (bp_new h a kd len) b j = if b = a then 0 else bp_I h b j := by
  show bp_u1 h.2.2.1 a (fun _ => 0) b j = _
  unfold bp_u1; split <;> rfl
theorem bp_J_new (h : bp_H) (a kd len b j : Nat) : bp_J (bp_new h a kd len) b j = if b = a then 0 else bp_J h b j := by
  show bp_u1 h.2.2.2.1 a (fun _ => 0) b j = _
  unfold bp_u1; split <;> rfl
theorem bp_R_new (h : bp_H) (a kd len b j : Nat) : bp_R (bp_new h a kd len) b j = if b = a then none else bp_R h b j := by
  show bp_u1 h.2.2.2.2 a (fun _ => none) b j = _
  unfold bp_u1; split <;> rfl
/-! the heap of the machine holds a flat heap -/
abbrev bp_G : Type := (Nat → ClassId) × (Nat → Nat → Nat) × (Nat → ClassId) × (Nat → Nat) × (Nat → Nat)

/-- frames, words of locals; whether nothing has been written or made so far; whether nothing may have been at a return -/
abbrev bp_Dp : Type := Nat × Nat × Bool × Bool
abbrev bp_M : Type := MethodName × ByteArray × Nat × Option FieldType × List (Nat × Instr × Nat)
def bp_val (ty : FieldType) (h : bp_H) (a k : Nat) : Value := match ty with
  | .long => .long (bp_J h a k)
  | .object _ => va_rf (bp_R h a k)
  | .array _ => va_rf (bp_R h a k)
  | _ => .int (bp_I h a k)
def bp_N (n : Nat) : Nat := match bp_cl[n]? with
  | some r => r.2.2
  | none => 0
def bp_arr (G : bp_G) (h : bp_H) (a : Nat) (i : Nat) (f : Nat → Value) (H : Heap) : Prop := H[a]? = some (arrV (G.2.2.1 i) (bp_L h a) f)
def bp_cell (G : bp_G) (h : bp_H) (a : Nat) (H : Heap) : Prop := match bp_K h a with
  | 0 => True
  | 1 => bp_arr G h a 1 (fun j => .int (bp_I h a j)) H
  | 2 => bp_arr G h a 2 (fun j => .long (bp_J h a j)) H
  | 3 => bp_arr G h a 3 (fun j => .int (bp_I h a j)) H
  | 4 => bp_arr G h a 4 (fun j => .int (bp_I h a j)) H
  | 5 => bp_arr G h a 5 (fun j => va_rf (bp_R h a j)) H
  | n + 6 => t_OB a (G.1 n) (bp_N n) (G.2.1 n) H (fun k => bp_val (bp_ty n k) h a k)
def bp_Rel (G : bp_G) (H0 : Heap) (h : bp_H) (H : Heap) : Prop := (∀ a, bp_cell G h a H) ∧ (∀ a, bp_K h a ≠ 0 → H0.size ≤ a) ∧ H0.size ≤ H.size ∧ ∀ q : Nat, q < H0.size → H[q]? = H0[q]?
def bp_tys (G : bp_G) : List (ClassId × FieldType) := [(G.2.2.1 1, .int), (G.2.2.1 2, .long), (G.2.2.1 3, .char), (G.2.2.1 4, .byte), (G.2.2.1 5, .object bp_EC)]
def bp_ok (G : bp_G) (U : State) : Prop := va_K (G.1, G.2.1) bp_cl (bp_tys G) U
/-- a static of Throwable's that holds a reference or null, since the start -/
def bp_Zs (H0 : Heap) (C n d : String) (U : State) : Prop := ∃ (c : ClassId) (k : Class) (i : Nat) (f : Field) (a : Nat) (cell : Cell) (v : Value), U.vm.findClass C = some c ∧ U.fieldFound? C n d = some (c, k, i, f) ∧ f.isStatic = true ∧ k.statics = some a ∧ a < H0.size ∧ H0[a]? = some cell ∧ cell.vm.isStatics = true ∧ cell.cls = c ∧ f.slot < cell.slots.size ∧ k.staticTypes[f.slot]? = some f.type ∧ cell.slots[f.slot]? = some v ∧ v.isRef = true
theorem bp_Zs_moved {H0 : Heap} {C n d : String} {u U : State} (hvm : u.vm.Alike U.vm) (h : bp_Zs H0 C n d u) : bp_Zs H0 C n d U := by
  obtain ⟨c, k, i, f, a, cell, v, h1, h2, h3, h4, h5⟩ := h
  obtain ⟨k', hi', he⟩ := State.fieldFound?_setVm hvm h2
  exact ⟨c, k', i, f, a, cell, v, by rw [hvm.findClass]; exact h1, hi', h3, by rw [he]; exact h4, by rw [he]; exact h5⟩
def bp_Th (H0 : Heap) (U : State) : Prop := bp_Zs H0 "java/lang/Throwable" "UNASSIGNED_STACK" "[Ljava/lang/StackTraceElement;" U ∧ bp_Zs H0 "java/lang/Throwable" "SUPPRESSED_SENTINEL" "Ljava/util/List;" U
theorem bp_Th_moved {H0 : Heap} {u U : State} (hvm : u.vm.Alike U.vm) (h : bp_Th H0 u) : bp_Th H0 U := ⟨bp_Zs_moved hvm h.1, bp_Zs_moved hvm h.2⟩
def bp_HW (U : State) : Prop := ∀ w ∈ bp_WS, w.before #[] U = true
/-- the String constants, and statics that are only read: as at the start -/
def bp_A0 (H0 : Heap) : Nat → Prop := fun q => H0.size ≤ q
def bp_Str (G : bp_G) (H0 : Heap) (U : State) : Prop := ∀ (i : Nat) (r : String × Nat × String × List Int32), bp_S[i]? = some r → vk_R r.1 r.2.1 r.2.2.1 (G.2.2.2.1 i) U ∧ va_O "java/lang/String" (G.2.2.2.1 i) (bp_A0 H0) U H0 ∧ va_OF "java/lang/String" "coder" "B" (.int 0) (G.2.2.2.1 i) (bp_A0 H0) U H0 ∧ va_OF "java/lang/String" "value" "[B" (.ref (G.2.2.2.2 i)) (G.2.2.2.1 i) (bp_A0 H0) U H0 ∧ va_T .byte (G.2.2.2.2 i) r.2.2.2.length (fun j => .int (r.2.2.2.getD j 0)) (bp_A0 H0) U H0
def bp_St (G : bp_G) (H0 : Heap) (U : State) : Prop := bp_Str G H0 U ∧ va_Z "java/lang/String" "COMPACT_STRINGS" "Z" (.int 1) (bp_A0 H0) U H0 ∧ va_Zq "jdk/internal/util/Preconditions" "SIOOBE_FORMATTER" "Ljava/util/function/BiFunction;" (bp_A0 H0) U H0 ∧ bp_Th H0 U ∧ (∀ q ∈ bp_NC, va_Nc q.1 q.2 U) ∧ ArrOfT U (G.2.2.1 0) .int
theorem bp_St_warm {G : bp_G} {H0 : Heap} {s U : State} (hW : s.WarmedH U.vm) (h : bp_St G H0 s) : bp_St G H0 U := by
  obtain ⟨h1, h2, h3, h4, h5, h6⟩ := h
  refine ⟨fun i r hr => ?_, h2.moved hW.alike, h3.moved hW.alike, bp_Th_moved hW.alike h4, fun q hq => (h5 q hq).moved hW.alike, arrOfT_moved hW.alike h6⟩
  obtain ⟨a, b, c, d, e⟩ := h1 i r hr
  exact ⟨a.warm hW, b.moved hW.alike, c.moved hW.alike, d.moved hW.alike, e.moved hW.alike⟩
theorem bp_cell_kept {G : bp_G} {h h' : bp_H} {a : Nat} {H H' : Heap} (c : bp_cell G h a H) (e1 : bp_K h' a = bp_K h a) (e2 : bp_L h' a = bp_L h a) (e3 : ∀ k, bp_I h' a k = bp_I h a k) (e4 : ∀ k, bp_J h' a k = bp_J h a k) (e5 : ∀ k, bp_R h' a k = bp_R h a k) (eh : H'[a]? = H[a]?) : bp_cell G h' a H' := by
  unfold bp_cell bp_arr at *
  rw [e1]
  have f3 : (fun j => Value.int (bp_I h' a j)) = fun j => Value.int (bp_I h a j) := funext fun j => by rw [e3]
  have f4 : (fun j => Value.long (bp_J h' a j)) = fun j => Value.long (bp_J h a j) := funext fun j => by rw [e4]
  have f5 : (fun j => va_rf (bp_R h' a j)) = fun j => va_rf (bp_R h a j) := funext fun j => by rw [e5]
  rw [e2, f3, f4, f5, eh]
  split at c <;> first | exact c | skip
  refine (t_OB.kept c eh).to fun k _ => ?_
  unfold bp_val
  split <;> simp [e3, e4, e5]
theorem bp_cell_off {G : bp_G} {h h' : bp_H} {H H' : Heap} {a0 : Nat} (c : ∀ a, bp_cell G h a H) (c0 : bp_cell G h' a0 H') (e1 : ∀ a, a ≠ a0 → bp_K h' a = bp_K h a) (e2 : ∀ a, a ≠ a0 → bp_L h' a = bp_L h a) (e3 : ∀ a, a ≠ a0 → ∀ k, bp_I h' a k = bp_I h a k) (e4 : ∀ a, a ≠ a0 → ∀ k, bp_J h' a k = bp_J h a k) (e5 : ∀ a, a ≠ a0 → ∀ k, bp_R h' a k = bp_R h a k)
    (eh : ∀ a, a ≠ a0 → bp_K h a ≠ 0 → H'[a]? = H[a]?) : ∀ a, bp_cell G h' a H' := by
  intro a
  by_cases ha : a = a0
  · subst ha; exact c0
  · by_cases hk : bp_K h a = 0
    · unfold bp_cell
      rw [e1 a ha, hk]
      trivial
    · exact bp_cell_kept (c a) (e1 a ha) (e2 a ha) (e3 a ha) (e4 a ha) (e5 a ha) (eh a ha hk)
theorem bp_lt {G : bp_G} {h : bp_H} {a : Nat} {H : Heap} (c : bp_cell G h a H) (hk : bp_K h a ≠ 0) : a < H.size := by
  unfold bp_cell bp_arr at c
  have ar : ∀ {x : Cell}, H[a]? = some x → a < H.size := fun e => (Array.getElem?_eq_some_iff.mp e).1
  split at c
  · rename_i e; exact absurd e hk
  · exact ar c
  · exact ar c
  · exact ar c
  · exact ar c
  · exact ar c
  · obtain ⟨cell, e, -⟩ := c; exact ar e
/-- locals: a list of slots; the second half of a long, and what isn't known, is none -/
def bp_al : Nat → List (Option Value) → List (Nat × Value)
  | _, [] => []
  | i, none :: t => bp_al (i + 1) t
  | i, some v :: t => (i, v) :: bp_al (i + 1) t
/-- what a method's end says -/
def bp_E (G : bp_G) (H0 : Heap) (d : bp_Dp) (below : List Frame) (s₀ : State) (R : Room) (Q : Outcome → bp_H → Nat → Nat → Prop) : State → Prop := fun t => ∃ o, t.status = .running ∧ Ended t below o ∧
  ∃ (L : List Loc) (k n : Nat) (h' : bp_H) (c' s' : Nat), s₀.WarmedH t.vm ∧ s₀.sameButNew ({ t with vm := s₀.vm } : State) L k n ∧ (∀ q ∈ L, H0.size ≤ q.base) ∧ bp_Rel G H0 h' t.heap ∧ k + c' = R.cells ∧ n + s' = R.slots ∧ (d.2.2.2 = true → ∀ v, o = .returned v → t.heap = s₀.heap ∧ L = [] ∧ k = 0 ∧ n = 0) ∧ Q o h' c' s'
/-- where a walk stands -/
def bp_Cx (G : bp_G) (d : bp_Dp) (M : bp_M) (p : Program) (R : Room) (s₀ : State) (m : MethodId) (args : Array Value) (meth : Method) (cd : Code) : Prop :=
  p.tables.exec = Jvm.exec ∧ cd.code = M.2.1 ∧ cd.maxLocals = M.2.2.1 ∧ s₀.vm.findClass M.1.cls = some m.cls ∧ (∀ w ∈ bp_WS, w.before args s₀ = true) ∧ bp_HW s₀ ∧ bp_ok G s₀ ∧ meth.sig.returnType = M.2.2.2.1 ∧ meth.locks = false ∧ d.1 ≤ R.frames ∧ d.2.1 ≤ R.locals ∧ (meth.name = M.1.name ∧ cd.exceptionTable.toList.map (fun x => (x.startPc, x.endPc, x.handlerPc, x.catchType)) = bp_hh M.1) ∧ ∀ e ∈ M.2.2.2.2, decode M.2.1 e.1 = .ok e.2
def bp_A (l : Launch) (G : bp_G) (H0 : Heap) (d : bp_Dp) (M : bp_M) (h : bp_H) (c s pc : Nat) (ls : List (Option Value)) (st : List Value) (Q : Outcome → bp_H → Nat → Nat → Prop) : Prop :=
  ∀ (p : Program) (e : Env) (R : Room) (s₀ : State) (m : MethodId) (args : Array Value) (below : List Frame) (meth : Method) (cd : Code) (H : Heap) (locs : List Loc) (cells slots : Nat) (lr : Array Slot),
    bp_Cx G d M p R s₀ m args meth cd → bp_Rel G H0 h H → cells + c = R.cells → slots + s = R.slots → (∀ q ∈ locs, H0.size ≤ q.base) → lv_has lr M.2.2.1 (bp_al 0 ls) → (d.2.2.1 = true → H = s₀.heap ∧ locs = [] ∧ cells = 0 ∧ slots = 0) → bp_St G H0 s₀ →
    W p l e R s₀ m args below meth cd H locs cells slots (bp_E G H0 d below s₀ R Q) (F0 m pc lr st)
def bp_Qm (G : bp_G) (H0 : Heap) (e : Bool) (c s : Nat) (Q : Option Value → bp_H → Nat → Nat → Prop) : Array Value → State → Outcome → State → Prop := fun _ st o t =>
  ∃ (v : Option Value) (L : List Loc) (k n : Nat) (h' : bp_H) (c' s' : Nat), o = .returned v ∧ FrameEnd st o t L k n ∧ (∀ q ∈ L, H0.size ≤ q.base) ∧ bp_Rel G H0 h' t.heap ∧ k + c' = c ∧ n + s' = s ∧ (e = true → t.heap = st.heap ∧ L = [] ∧ k = 0 ∧ n = 0) ∧ Q v h' c' s'
def bp_P (G : bp_G) (H0 : Heap) (h : bp_H) (av : List Value) : Array Value → State → Prop := fun a U => a = av.toArray ∧ bp_HW U ∧ bp_ok G U ∧ bp_Rel G H0 h U.heap ∧ bp_St G H0 U
def bp_room (d : bp_Dp) (c s : Nat) : Room := { frames := d.1, cells := c, slots := s, locals := d.2.1 }
/-- a method's contract: it returns, and Q holds of the answer, the new heap and the room that is left -/
def bp_AM (l : Launch) (G : bp_G) (H0 : Heap) (d : bp_Dp) (M : bp_M) (h : bp_H) (c s : Nat) (av : List Value) (Q : Option Value → bp_H → Nat → Nat → Prop) : Prop :=
  MetFree l M.1 (headSpec [.code M.1 M.2.1 M.2.2.1 M.2.2.2.1] (bp_room d c s)) (bp_P G H0 h av) (fun _ _ _ _ _ => True) (bp_Qm G H0 d.2.2.2 c s Q)
theorem bp_Wmono {p : Program} {l : Launch} {e : Env} {R : Room} {s : State} {m : MethodId} {args : Array Value} {below : List Frame} {meth : Method} {c : Code} {H : Heap} {locs : List Loc} {cells slots : Nat} {Q Q' : State → Prop} {g : JFrame} (hq : ∀ t, Q t → Q' t) (w : W p l e R s m args below meth c H locs cells slots Q g) : W p l e R s m args below meth c H locs cells slots Q' g := by
  intro T hT X
  obtain ⟨t, a, b⟩ := w T hT X
  exact ⟨t, a, hq t b⟩
theorem bp_HW_args {U : State} (h : bp_HW U) (a : Array Value) : ∀ w ∈ bp_WS, w.before a U = true := fun w hw => bp_sw_go (bp_WS_sw w hw) (State.WarmedH.refl U) (h w hw)
theorem bp_al_args : ∀ (vs : List Value) (i : Nat), (∀ v ∈ vs, v.category = 1) → bp_al i (vs.map some) = lv_args i vs
  | [], _, _ => rfl
  | v :: vs, i, h => by
    have h1 : v.category = 1 := h v List.mem_cons_self
    show (i, v) :: bp_al (i + 1) (vs.map some) = (i, v) :: lv_args (if v.category = 2 then i + 2 else i + 1) vs
    rw [h1, bp_al_args vs (i + 1) (fun w hw => h w (List.mem_cons_of_mem _ hw))]
    rfl
theorem lv_more {ls : Array Slot} {nL : Nat} {l l' : List (Nat × Value)} (h : lv_has ls nL l) (hs : ∀ q ∈ l', q ∈ l) : lv_has ls nL l' := ⟨h.1, h.2.1, fun q hq => h.2.2 q (hs q hq)⟩
/-- a contract out of a walk -/
theorem bp_of {l : Launch} {G : bp_G} {H0 : Heap} {d : bp_Dp} {M : bp_M} {h : bp_H} {c s : Nat} {av : List Value} {ls : List (Option Value)} {Q : Option Value → bp_H → Nat → Nat → Prop}
    (hy : plainName M.1.cls = true) (ht : ∀ e ∈ M.2.2.2.2, decode M.2.1 e.1 = .ok e.2) (hn : (lg_sl av).length ≤ M.2.2.1) (hl : ∀ q ∈ bp_al 0 ls, q ∈ lv_args 0 av)
    (kn : Bool) (body : bp_A l G H0 (d.1, d.2.1, kn, d.2.2.2) M h c s 0 ls [] (fun o h' c' s' => ∃ v, o = .returned v ∧ Q v h' c' s')) (hh : bp_hh M.1 = [] := by decide +kernel) : bp_AM l G H0 d M h c s av Q := by
  refine MetFree.of_bodyS (code := M.2.1) (maxLocals := M.2.2.1) (ret := M.2.2.2.1) hy ?_ ?_
  · intro args s m h hn
    obtain ⟨meth, c, h1, h2, h3, h4, h5, h6, -, -⟩ := Cond.code_spec hn (atoms_spec (ws := [.code M.1 M.2.1 M.2.2.1 M.2.2.2.1]) h _ List.mem_cons_self)
    exact ⟨meth, c, h1, h2, h3, h4, h5, h6⟩
  · intro p e s₀ m args below meth cd s₁ B hml hP _
    obtain ⟨rfl, hHW, hok, hR, hz⟩ := hP
    have hh0 : s₁.heap = s₀.heap := by rw [B.state]; rfl
    have X := Stand.of_body B
    have hl0 := lv_more (lv_entry av (n := M.2.2.1) hn) hl
    have w := body p e (bp_room d c s) s₀ m av.toArray below meth cd s₀.heap [] 0 0 _
      ⟨B.exec, B.bytes, hml, findClass_of_methodNamed B.named, bp_HW_args hHW _, hHW, hok, B.returns, B.notSynchronized, Nat.le_refl _, Nat.le_refl _, ⟨(name_of_methodNamed B.named B.method).1, by
        have hne := B.noHandlers (atoms_spec (ws := [.code M.1 M.2.1 M.2.2.1 M.2.2.2.1]) B.pre _ List.mem_cons_self)
        simp only [Array.isEmpty_iff] at hne
        rw [hne, hh]
        rfl⟩, ht⟩ hR (Nat.zero_add _) (Nat.zero_add _) (fun q hq => by cases hq) hl0 (fun _ => ⟨rfl, rfl, rfl, rfl⟩) hz
    rw [lg_entry_eq]
    obtain ⟨t, a1, o, b1, b2, L, k, n, h', c', s', e1, e2, e3, e4, e5, e6, e8, v, rfl, hq⟩ := w s₁ hh0 X
    exact ⟨t, .returned v, a1, b1, b2, v, L, k, n, h', c', s', rfl, ⟨⟨v, rfl⟩, e1, e2⟩, e3, e4, e5, e6, (fun z => e8 z v rfl), hq⟩
