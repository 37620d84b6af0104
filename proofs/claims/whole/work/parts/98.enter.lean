def R_law : String := "BracedPagesLaw"
def lw_P (b : Addr) (xs : List Int32) (args : Array Value) (s : State) : Prop := args = #[.ref b] ∧ s.IntsAt b xs ∧ xs.length ≤ 2560 ∧ (Jvm.Cond.and given_1 narrow_1).before args s = true
def lw_Q (_ : Array Value) (s : State) (o : Outcome) (t : State) : Prop := o = .returned (some (.int 1)) ∧ Framed s o t [] 601024 7293034
def lw_Z (below : List Frame) (a : Array Value) (s : State) : State → Prop := fun t => ∃ o, t.status = .running ∧ Ended t below o ∧ lw_Q a s o t
/-- the law's own end, with 1 on the stack, nothing written that was there before, its room as the claim has it -/
theorem lw_ret {p : Program} {l : Launch} {e : Env} {s : State} {m : MethodId} {below : List Frame} {meth : Method} {c : Code} {b : Nat} (hx : p.tables.exec = Jvm.exec) (hb : c.code = code) (hr : meth.sig.returnType = ret) (hlocks : meth.locks = false) {pc : Nat} {H : Heap} {ls : Array Slot} (hdg : decode code pc = .ok (.ireturn, 1)) : W p l e room_1 s m #[Value.ref b] below meth c H [] 601024 7293034 (lw_Z below #[Value.ref b] s) (F0 m pc ls [.int 1]) := by
  intro T hT X
  obtain ⟨fs, hret, hrun, hended, hW, hframe⟩ := X.leave (v := some (.int 1)) (hlocks := hlocks) (fun h => by rw [hr] at h; cases h)
  have hmeth' : T.vm.method? m = some meth := X.method'
  refine ⟨T.setFrames fs, ?_, .returned (some (.int 1)), hrun, hended, rfl, ⟨_, rfl⟩, hW, hframe⟩
  jvm_step X.here [X.here.top, hx, hb, hdg, hmeth', hr, ret, narrow_b1]
  (try refine ⟨rfl, ?_⟩); (try refine ⟨rfl, ?_⟩)
  first | (intro acts; rw [hret _ acts rfl rfl rfl]) | rw [hret _ _ rfl rfl rfl]
  exact Steps.refl _
/-- what holds at the law's entry: the machine, the code, the tables' words (any of lw_tbl by 'hts w (by decide +kernel)'), the script of L ints xs at the cell b, what the Statement gives of the start (any of its parts by flat_of_before) -/
def lw_At (p : Program) (s : State) (m : MethodId) (meth : Method) (c : Code) (b L : Nat) (xs : Nat → Int32) : Prop :=
  p.tables.exec = Jvm.exec ∧ c.code = code ∧ meth.sig.returnType = ret ∧ c.maxLocals = 7 ∧ s.vm.findClass R_law = some m.cls ∧ (∀ w ∈ lw_tbl, w.before #[Value.ref b] s = true) ∧ va_X b L xs s s.heap ∧ b < s.heap.size ∧ meth.locks = false ∧ (Jvm.Cond.and given_1 narrow_1).before #[Value.ref b] s = true
/-! what stands at the law's entry -/
def strW (r : String × Nat × String × List Int32) : List Cond := [.exactly (.string r.1 r.2.1) "java/lang/String", .eq (.field (.string r.1 r.2.1) "java/lang/String" "coder" "B") (.int 0), .arrayOf (.field (.string r.1 r.2.1) "java/lang/String" "value" "[B") .byte, .eq (.length (.field (.string r.1 r.2.1) "java/lang/String" "value" "[B")) (.int (Int32.ofNat r.2.2.2.length))] ++ (List.range r.2.2.2.length).map (fun j => .eq (.elem (.field (.string r.1 r.2.1) "java/lang/String" "value" "[B") (.int (Int32.ofNat j))) (.int (r.2.2.2.getD j 0)))
def noSS (c : Cond) : Bool := match c with
  | .eq (.string _ _) (.string _ _) => false
  | _ => true
set_option maxRecDepth 100000 in
set_option maxHeartbeats 4000000 in
theorem bp_flat : ((flatC (Jvm.Cond.and given_1 narrow_1)).drop 63).filter noSS = bp_S.flatMap strW := by decide +kernel
theorem bp_inW {r : String × Nat × String × List Int32} (h : r ∈ bp_S) {w : Cond} (hw : w ∈ strW r) : w ∈ flatC (Jvm.Cond.and given_1 narrow_1) := by
  have q : w ∈ ((flatC (Jvm.Cond.and given_1 narrow_1)).drop 63).filter noSS := by
    rw [bp_flat]
    exact List.mem_flatMap.mpr ⟨r, h, hw⟩
  exact List.mem_of_mem_drop (List.mem_filter.mp q).1
theorem bp_str1 {A : Array Value} {s : State} {r : String × Nat × String × List Int32} (hst : (Cond.stringRef r.1 r.2.1 r.2.2.1).before A s = true) (hw : ∀ w ∈ strW r, w.before A s = true) (hlen : r.2.2.2.length < 2 ^ 31) : ∃ q : Nat × Nat, vk_R r.1 r.2.1 r.2.2.1 q.1 s ∧ va_O "java/lang/String" q.1 (bp_A0 s.heap) s s.heap ∧ va_OF "java/lang/String" "coder" "B" (.int 0) q.1 (bp_A0 s.heap) s s.heap ∧ va_OF "java/lang/String" "value" "[B" (.ref q.2) q.1 (bp_A0 s.heap) s s.heap ∧ va_T .byte q.2 r.2.2.2.length (fun j => .int (r.2.2.2.getD j 0)) (bp_A0 s.heap) s s.heap := by
  have hA : ∀ a : Nat, a < s.heap.size → ¬ bp_A0 s.heap a := fun a ha h => Nat.not_lt.mpr h ha
  have hin : ∀ w ∈ ([.exactly (.string r.1 r.2.1) "java/lang/String", .eq (.field (.string r.1 r.2.1) "java/lang/String" "coder" "B") (.int 0), .arrayOf (.field (.string r.1 r.2.1) "java/lang/String" "value" "[B") .byte, .eq (.length (.field (.string r.1 r.2.1) "java/lang/String" "value" "[B")) (.int (Int32.ofNat r.2.2.2.length))] : List Cond), w.before A s = true := fun w h => hw w (List.mem_append_left _ h)
  have hel : ∀ j : Nat, j < r.2.2.2.length → (Cond.eq (.elem (.field (.string r.1 r.2.1) "java/lang/String" "value" "[B") (.int (Int32.ofNat j))) (.int (r.2.2.2.getD j 0))).before A s = true := fun j hj => hw _ (List.mem_append_right _ (List.mem_map.mpr ⟨j, List.mem_range.mpr hj, rfl⟩))
  obtain ⟨a, c, cA, kA, q1, q2, q3, q4, q5, q6, -⟩ := Cond.exactly_spec (args := A) (first := s) (o := none) (s := s) (idx := []) (t := .string r.1 r.2.1) (cls := "java/lang/String") (hin _ List.mem_cons_self)
  obtain ⟨t, ht, hT⟩ := va_Tof (f := fun j => .int (r.2.2.2.getD j 0)) (A := bp_A0 s.heap) hlen (hin _ (List.mem_of_getElem? (i := 2) rfl)) (va_eqt (hin _ (List.mem_of_getElem? (i := 3) rfl))) (fun j hj => va_eqt (hel j hj)) hA
  exact ⟨(a, t), vk_R.of hst q1, ⟨cA, q3, q5, by rw [q6]; exact q2, hA a (Array.getElem?_eq_some_iff.mp q3).1⟩, vk_OFof q1 (va_eqt (hin _ (List.mem_of_getElem? (i := 1) rfl))) hA, vk_OFof q1 ht hA, hT⟩
theorem sr_0 : Cond.stringRef "BracedPages" 220 "red" ∈ lw_tbl := sb_496_in _ (List.mem_of_getElem? (i := 20) rfl)
theorem sr_1 : Cond.stringRef "BracedPages" 222 "green" ∈ lw_tbl := sb_496_in _ (List.mem_of_getElem? (i := 21) rfl)
theorem sr_2 : Cond.stringRef "BracedPages" 224 "blue" ∈ lw_tbl := sb_496_in _ (List.mem_of_getElem? (i := 22) rfl)
theorem sr_3 : Cond.stringRef "BracedPages" 226 "cyan" ∈ lw_tbl := sb_496_in _ (List.mem_of_getElem? (i := 23) rfl)
theorem sr_4 : Cond.stringRef "BracedPages" 228 "magenta" ∈ lw_tbl := sb_520_in _ (List.mem_of_getElem? (i := 0) rfl)
theorem sr_5 : Cond.stringRef "BracedPages" 230 "yellow" ∈ lw_tbl := sb_520_in _ (List.mem_of_getElem? (i := 1) rfl)
theorem sr_6 : Cond.stringRef "BracedPages" 232 "white" ∈ lw_tbl := sb_520_in _ (List.mem_of_getElem? (i := 2) rfl)
theorem sr_7 : Cond.stringRef "BracedPages" 234 "black" ∈ lw_tbl := sb_520_in _ (List.mem_of_getElem? (i := 3) rfl)
theorem sr_8 : Cond.stringRef "BracedPages$BracedReader" 175 "b" ∈ lw_tbl := sb_616_in _ (List.mem_of_getElem? (i := 0) rfl)
theorem sr_9 : Cond.stringRef "BracedPages$BracedReader" 177 "i" ∈ lw_tbl := sb_616_in _ (List.mem_of_getElem? (i := 1) rfl)
theorem sr_10 : Cond.stringRef "BracedPages$BracedReader" 179 "ul" ∈ lw_tbl := sb_616_in _ (List.mem_of_getElem? (i := 2) rfl)
theorem sr_11 : Cond.stringRef "BracedPages$BracedReader" 181 "fs" ∈ lw_tbl := sb_616_in _ (List.mem_of_getElem? (i := 3) rfl)
theorem sr_12 : Cond.stringRef "BracedPages$BracedReader" 183 "cf" ∈ lw_tbl := sb_616_in _ (List.mem_of_getElem? (i := 4) rfl)
theorem sr_13 : Cond.stringRef "BracedPages$BracedReader" 185 "plain" ∈ lw_tbl := sb_616_in _ (List.mem_of_getElem? (i := 5) rfl)
theorem sr_14 : Cond.stringRef "BracedPages$BracedReader" 187 "ql" ∈ lw_tbl := sb_616_in _ (List.mem_of_getElem? (i := 6) rfl)
theorem sr_15 : Cond.stringRef "BracedPages$BracedReader" 189 "qc" ∈ lw_tbl := sb_616_in _ (List.mem_of_getElem? (i := 7) rfl)
theorem sr_16 : Cond.stringRef "BracedPages$BracedReader" 191 "qr" ∈ lw_tbl := sb_616_in _ (List.mem_of_getElem? (i := 8) rfl)
theorem sr_17 : Cond.stringRef "BracedPages$BracedReader" 193 "li" ∈ lw_tbl := sb_616_in _ (List.mem_of_getElem? (i := 9) rfl)
theorem sr_18 : Cond.stringRef "BracedPages$BracedReader" 195 "pard" ∈ lw_tbl := sb_616_in _ (List.mem_of_getElem? (i := 10) rfl)
theorem sr_19 : Cond.stringRef "BracedPages$BracedReader" 197 "par" ∈ lw_tbl := sb_616_in _ (List.mem_of_getElem? (i := 11) rfl)
theorem sr_20 : Cond.stringRef "BracedPages$BracedReader" 199 "uc" ∈ lw_tbl := sb_616_in _ (List.mem_of_getElem? (i := 12) rfl)
theorem sr_21 : Cond.stringRef "BracedPages$BracedReader" 201 "u" ∈ lw_tbl := sb_616_in _ (List.mem_of_getElem? (i := 13) rfl)
theorem sr_22 : Cond.stringRef "BracedPages$BracedReader" 203 "colortbl" ∈ lw_tbl := sb_616_in _ (List.mem_of_getElem? (i := 14) rfl)
theorem sr_23 : Cond.stringRef "BracedPages$BracedReader" 205 "" ∈ lw_tbl := sb_616_in _ (List.mem_of_getElem? (i := 15) rfl)
theorem sr_24 : Cond.stringRef "BracedPages$TaggedReader" 137 "&lt;" ∈ lw_tbl := sb_784_in _ (List.mem_of_getElem? (i := 4) rfl)
theorem sr_25 : Cond.stringRef "BracedPages$TaggedReader" 143 "&gt;" ∈ lw_tbl := sb_808_in _ (List.mem_of_getElem? (i := 15) rfl)
theorem sr_26 : Cond.stringRef "BracedPages$TaggedReader" 145 "&amp;" ∈ lw_tbl := sb_808_in _ (List.mem_of_getElem? (i := 16) rfl)
theorem sr_27 : Cond.stringRef "BracedPages$BracedWriter" 49 "{\\colortbl;" ∈ lw_tbl := sb_904_in _ (List.mem_of_getElem? (i := 10) rfl)
theorem sr_28 : Cond.stringRef "BracedPages$BracedWriter" 59 "\\pard" ∈ lw_tbl := sb_928_in _ (List.mem_of_getElem? (i := 14) rfl)
theorem sr_29 : Cond.stringRef "BracedPages$BracedWriter" 61 "\\qc" ∈ lw_tbl := sb_928_in _ (List.mem_of_getElem? (i := 15) rfl)
theorem sr_30 : Cond.stringRef "BracedPages$BracedWriter" 63 "\\qr" ∈ lw_tbl := sb_928_in _ (List.mem_of_getElem? (i := 16) rfl)
theorem sr_31 : Cond.stringRef "BracedPages$BracedWriter" 65 "\\li" ∈ lw_tbl := sb_928_in _ (List.mem_of_getElem? (i := 17) rfl)
theorem sr_32 : Cond.stringRef "BracedPages$TaggedWriter" 15 "<p" ∈ lw_tbl := sb_952_in _ (List.mem_of_getElem? (i := 5) rfl)
theorem sr_33 : Cond.stringRef "BracedPages$BracedWriter" 74 "\\b" ∈ lw_tbl := sb_952_in _ (List.mem_of_getElem? (i := 23) rfl)
theorem sr_34 : Cond.stringRef "BracedPages$BracedWriter" 79 "\\i" ∈ lw_tbl := sb_976_in _ (List.mem_of_getElem? (i := 7) rfl)
theorem sr_35 : Cond.stringRef "BracedPages$BracedWriter" 81 "\\ul" ∈ lw_tbl := sb_976_in _ (List.mem_of_getElem? (i := 8) rfl)
theorem sr_36 : Cond.stringRef "BracedPages$BracedWriter" 83 "\\fs" ∈ lw_tbl := sb_976_in _ (List.mem_of_getElem? (i := 9) rfl)
theorem sr_37 : Cond.stringRef "BracedPages$BracedWriter" 88 "\\cf" ∈ lw_tbl := sb_976_in _ (List.mem_of_getElem? (i := 13) rfl)
theorem sr_38 : Cond.stringRef "BracedPages$TaggedWriter" 30 "<b>" ∈ lw_tbl := sb_976_in _ (List.mem_of_getElem? (i := 17) rfl)
theorem sr_39 : Cond.stringRef "BracedPages$TaggedWriter" 36 "<i>" ∈ lw_tbl := sb_976_in _ (List.mem_of_getElem? (i := 23) rfl)
theorem sr_40 : Cond.stringRef "BracedPages$TaggedWriter" 38 "<u>" ∈ lw_tbl := sb_1000_in _ (List.mem_of_getElem? (i := 0) rfl)
theorem sr_41 : Cond.stringRef "BracedPages$TaggedWriter" 40 "<s " ∈ lw_tbl := sb_1000_in _ (List.mem_of_getElem? (i := 1) rfl)
theorem sr_42 : Cond.stringRef "BracedPages$TaggedWriter" 49 "<c " ∈ lw_tbl := sb_1000_in _ (List.mem_of_getElem? (i := 7) rfl)
theorem sr_43 : Cond.stringRef "BracedPages$BracedWriter" 96 "\\'" ∈ lw_tbl := sb_1000_in _ (List.mem_of_getElem? (i := 19) rfl)
theorem sr_44 : Cond.stringRef "BracedPages$TaggedWriter" 67 "&lt;" ∈ lw_tbl := sb_1024_in _ (List.mem_of_getElem? (i := 2) rfl)
theorem sr_45 : Cond.stringRef "BracedPages$TaggedWriter" 69 "&gt;" ∈ lw_tbl := sb_1024_in _ (List.mem_of_getElem? (i := 3) rfl)
theorem sr_46 : Cond.stringRef "BracedPages$TaggedWriter" 71 "&amp;" ∈ lw_tbl := sb_1024_in _ (List.mem_of_getElem? (i := 4) rfl)
theorem sr_47 : Cond.stringRef "BracedPages$TaggedWriter" 54 "</c>" ∈ lw_tbl := sb_1024_in _ (List.mem_of_getElem? (i := 18) rfl)
theorem sr_48 : Cond.stringRef "BracedPages$TaggedWriter" 56 "</s>" ∈ lw_tbl := sb_1024_in _ (List.mem_of_getElem? (i := 19) rfl)
theorem sr_49 : Cond.stringRef "BracedPages$TaggedWriter" 58 "</u>" ∈ lw_tbl := sb_1024_in _ (List.mem_of_getElem? (i := 20) rfl)
theorem sr_50 : Cond.stringRef "BracedPages$TaggedWriter" 60 "</i>" ∈ lw_tbl := sb_1024_in _ (List.mem_of_getElem? (i := 21) rfl)
theorem sr_51 : Cond.stringRef "BracedPages$TaggedWriter" 62 "</b>" ∈ lw_tbl := sb_1024_in _ (List.mem_of_getElem? (i := 22) rfl)
theorem sr_52 : Cond.stringRef "BracedPages$BracedWriter" 101 "\\par" ∈ lw_tbl := sb_1048_in _ (List.mem_of_getElem? (i := 5) rfl)
theorem sr_53 : Cond.stringRef "BracedPages$TaggedWriter" 73 "</p>" ∈ lw_tbl := sb_1048_in _ (List.mem_of_getElem? (i := 9) rfl)
theorem sr_54 : Cond.stringRef "BracedPages" 75 "not a character of IN" ∈ lw_tbl := sb_1144_in _ (List.mem_of_getElem? (i := 0) rfl)
theorem sr_55 : Cond.stringRef "BracedPages" 86 "IN would be too long" ∈ lw_tbl := sb_1168_in _ (List.mem_of_getElem? (i := 12) rfl)
theorem sr_56 : Cond.stringRef "BracedPages" 95 "OUT is too long for IN" ∈ lw_tbl := sb_1192_in _ (List.mem_of_getElem? (i := 3) rfl)
theorem sr_57 : Cond.stringRef "BracedPages" 123 "no such alignment or indent" ∈ lw_tbl := sb_1192_in _ (List.mem_of_getElem? (i := 12) rfl)
theorem sr_58 : Cond.stringRef "BracedPages" 129 "the page has all its paragraphs" ∈ lw_tbl := sb_1192_in _ (List.mem_of_getElem? (i := 14) rfl)
theorem sr_59 : Cond.stringRef "BracedPages" 138 "there is no paragraph" ∈ lw_tbl := sb_1216_in _ (List.mem_of_getElem? (i := 9) rfl)
theorem sr_60 : Cond.stringRef "BracedPages" 144 "no such letter or look" ∈ lw_tbl := sb_1216_in _ (List.mem_of_getElem? (i := 19) rfl)
theorem sr_61 : Cond.stringRef "BracedPages" 149 "the page has all its letters" ∈ lw_tbl := sb_1216_in _ (List.mem_of_getElem? (i := 21) rfl)
theorem sr_62 : Cond.stringRef "BracedPages" 167 "no such paragraph" ∈ lw_tbl := sb_1240_in _ (List.mem_of_getElem? (i := 23) rfl)
theorem sr_63 : Cond.stringRef "BracedPages" 182 "a paragraph has no such number" ∈ lw_tbl := sb_1264_in _ (List.mem_of_getElem? (i := 10) rfl)
theorem sr_64 : Cond.stringRef "BracedPages" 188 "no such run" ∈ lw_tbl := sb_1264_in _ (List.mem_of_getElem? (i := 22) rfl)
theorem sr_65 : Cond.stringRef "BracedPages" 205 "a run has no such number" ∈ lw_tbl := sb_1288_in _ (List.mem_of_getElem? (i := 7) rfl)
theorem sr_66 : Cond.stringRef "BracedPages" 207 "no such letter" ∈ lw_tbl := sb_1288_in _ (List.mem_of_getElem? (i := 15) rfl)
theorem bp_strs : ∀ r ∈ bp_S, Cond.stringRef r.1 r.2.1 r.2.2.1 ∈ lw_tbl ∧ r.2.2.2.length < 2 ^ 31 := List.forall_mem_cons.mpr ⟨⟨sr_0, by decide⟩, List.forall_mem_cons.mpr ⟨⟨sr_1, by decide⟩, List.forall_mem_cons.mpr ⟨⟨sr_2, by decide⟩, List.forall_mem_cons.mpr ⟨⟨sr_3, by decide⟩, List.forall_mem_cons.mpr ⟨⟨sr_4, by decide⟩, List.forall_mem_cons.mpr ⟨⟨sr_5, by decide⟩, List.forall_mem_cons.mpr ⟨⟨sr_6, by decide⟩, List.forall_mem_cons.mpr ⟨⟨sr_7, by decide⟩, List.forall_mem_cons.mpr ⟨⟨sr_8, by decide⟩, List.forall_mem_cons.mpr ⟨⟨sr_9, by decide⟩, List.forall_mem_cons.mpr ⟨⟨sr_10, by decide⟩, List.forall_mem_cons.mpr ⟨⟨sr_11, by decide⟩, List.forall_mem_cons.mpr ⟨⟨sr_12, by decide⟩, List.forall_mem_cons.mpr ⟨⟨sr_13, by decide⟩, List.forall_mem_cons.mpr ⟨⟨sr_14, by decide⟩, List.forall_mem_cons.mpr ⟨⟨sr_15, by decide⟩, List.forall_mem_cons.mpr ⟨⟨sr_16, by decide⟩, List.forall_mem_cons.mpr ⟨⟨sr_17, by decide⟩, List.forall_mem_cons.mpr ⟨⟨sr_18, by decide⟩, List.forall_mem_cons.mpr ⟨⟨sr_19, by decide⟩, List.forall_mem_cons.mpr ⟨⟨sr_20, by decide⟩, List.forall_mem_cons.mpr ⟨⟨sr_21, by decide⟩, List.forall_mem_cons.mpr ⟨⟨sr_22, by decide⟩, List.forall_mem_cons.mpr ⟨⟨sr_23, by decide⟩, List.forall_mem_cons.mpr ⟨⟨sr_24, by decide⟩, List.forall_mem_cons.mpr ⟨⟨sr_25, by decide⟩, List.forall_mem_cons.mpr ⟨⟨sr_26, by decide⟩, List.forall_mem_cons.mpr ⟨⟨sr_27, by decide⟩, List.forall_mem_cons.mpr ⟨⟨sr_28, by decide⟩, List.forall_mem_cons.mpr ⟨⟨sr_29, by decide⟩, List.forall_mem_cons.mpr ⟨⟨sr_30, by decide⟩, List.forall_mem_cons.mpr ⟨⟨sr_31, by decide⟩, List.forall_mem_cons.mpr ⟨⟨sr_32, by decide⟩, List.forall_mem_cons.mpr ⟨⟨sr_33, by decide⟩, List.forall_mem_cons.mpr ⟨⟨sr_34, by decide⟩, List.forall_mem_cons.mpr ⟨⟨sr_35, by decide⟩, List.forall_mem_cons.mpr ⟨⟨sr_36, by decide⟩, List.forall_mem_cons.mpr ⟨⟨sr_37, by decide⟩, List.forall_mem_cons.mpr ⟨⟨sr_38, by decide⟩, List.forall_mem_cons.mpr ⟨⟨sr_39, by decide⟩, List.forall_mem_cons.mpr ⟨⟨sr_40, by decide⟩, List.forall_mem_cons.mpr ⟨⟨sr_41, by decide⟩, List.forall_mem_cons.mpr ⟨⟨sr_42, by decide⟩, List.forall_mem_cons.mpr ⟨⟨sr_43, by decide⟩, List.forall_mem_cons.mpr ⟨⟨sr_44, by decide⟩, List.forall_mem_cons.mpr ⟨⟨sr_45, by decide⟩, List.forall_mem_cons.mpr ⟨⟨sr_46, by decide⟩, List.forall_mem_cons.mpr ⟨⟨sr_47, by decide⟩, List.forall_mem_cons.mpr ⟨⟨sr_48, by decide⟩, List.forall_mem_cons.mpr ⟨⟨sr_49, by decide⟩, List.forall_mem_cons.mpr ⟨⟨sr_50, by decide⟩, List.forall_mem_cons.mpr ⟨⟨sr_51, by decide⟩, List.forall_mem_cons.mpr ⟨⟨sr_52, by decide⟩, List.forall_mem_cons.mpr ⟨⟨sr_53, by decide⟩, List.forall_mem_cons.mpr ⟨⟨sr_54, by decide⟩, List.forall_mem_cons.mpr ⟨⟨sr_55, by decide⟩, List.forall_mem_cons.mpr ⟨⟨sr_56, by decide⟩, List.forall_mem_cons.mpr ⟨⟨sr_57, by decide⟩, List.forall_mem_cons.mpr ⟨⟨sr_58, by decide⟩, List.forall_mem_cons.mpr ⟨⟨sr_59, by decide⟩, List.forall_mem_cons.mpr ⟨⟨sr_60, by decide⟩, List.forall_mem_cons.mpr ⟨⟨sr_61, by decide⟩, List.forall_mem_cons.mpr ⟨⟨sr_62, by decide⟩, List.forall_mem_cons.mpr ⟨⟨sr_63, by decide⟩, List.forall_mem_cons.mpr ⟨⟨sr_64, by decide⟩, List.forall_mem_cons.mpr ⟨⟨sr_65, by decide⟩, List.forall_mem_cons.mpr ⟨⟨sr_66, by decide⟩, fun _ h => absurd h List.not_mem_nil⟩⟩⟩⟩⟩⟩⟩⟩⟩⟩⟩⟩⟩⟩⟩⟩⟩⟩⟩⟩⟩⟩⟩⟩⟩⟩⟩⟩⟩⟩⟩⟩⟩⟩⟩⟩⟩⟩⟩⟩⟩⟩⟩⟩⟩⟩⟩⟩⟩⟩⟩⟩⟩⟩⟩⟩⟩⟩⟩⟩⟩⟩⟩⟩⟩⟩⟩
theorem bp_selW {s : State} {args : Array Value} {C : String} {y : MethodName} (hts : ∀ w ∈ lw_tbl, w.before args s = true) (hy : y.cls = "BracedPages$Writer") (h : Cond.selects C y y ∈ lw_tbl) : (Cond.selects C ⟨"BracedPages$Writer", "writeParagraph", "(I)V"⟩ ⟨"BracedPages$Writer", "writeParagraph", "(I)V"⟩).before args s = true := by
  obtain ⟨c, r, m, hc, hr, hn, hsel, mk, hmk, hni⟩ := Cond.selects_spec (hts _ h)
  obtain ⟨mw, methW, hnamed, hmethW, -, -⟩ := Cond.instanceMethod_spec (hts (.instanceMethod ⟨"BracedPages$Writer", "writeParagraph", "(I)V"⟩) (sb_904_in _ (List.mem_of_getElem? (i := 22) rfl)))
  have hpriv := hts (.privateMethod ⟨"BracedPages$Writer", "writeParagraph", "(I)V"⟩) (sb_904_in _ (List.mem_of_getElem? (i := 21) rfl))
  have hfound : s.methodFound? "BracedPages$Writer" "writeParagraph" "(I)V" = some mw := State.methodFound?_of_named (x := ⟨"BracedPages$Writer", "writeParagraph", "(I)V"⟩) hnamed ⟨by decide, by decide⟩
  have e1 := findClass_of_methodNamed hnamed
  have e2 := findClass_of_methodNamed hn
  rw [hy] at e2
  have hcls : mw.cls = m.cls := Option.some.inj (e1.symm.trans e2)
  have hsel2 : selectMethod {} s.vm c mw = .method mw := selectMethod_private hmethW (Cond.privateMethod_at hpriv mw methW hnamed hmethW)
  rw [← hcls] at hmk
  simp only [Cond.before, Cond.holds, Cond.value, hc, hfound, hnamed, hsel2, hmk]
  simp; exact hni
theorem bp_HW_of {s : State} {args : Array Value} (hts : ∀ w ∈ lw_tbl, w.before args s = true) : bp_HW s := fun w hw => by
  have e : w.before args s = true := by
    rcases List.mem_append.mp hw with h | h
    · exact hts w (List.mem_filter.mp h).1
    · rcases List.mem_cons.mp h with h | h
      · rw [h]; exact bp_selW hts rfl (sb_880_in _ (List.mem_of_getElem? (i := 4) rfl))
      · rcases List.mem_cons.mp h with h | h
        · rw [h]; exact bp_selW hts rfl (sb_880_in _ (List.mem_of_getElem? (i := 5) rfl))
        · cases h
  exact bp_sw_go (bp_WS_sw w hw) (State.WarmedH.refl s) e
theorem bp_Zs_of {s : State} {args : Array Value} {C n d : String} (h1 : (Cond.laysStatic C n d).before args s = true) (h2 : (Cond.isRef (.static C n d)).before args s = true) : bp_Zs s.heap C n d s := by
  obtain ⟨c, k, i, f, a, cell, q1, q2, q3, q4, q5, q6, q7, q8, q9⟩ := Cond.laysStatic_spec h1
  have hv : cell.slots[f.slot]? = some cell.slots[f.slot] := Array.getElem?_eq_getElem q8
  have he := Term.static_eval (args := args) (first := s) (o := none) (idx := []) q2 q3 q4 q5 q6 hv
  refine ⟨c, k, i, f, a, cell, _, q1, q2, q3, q4, (Array.getElem?_eq_some_iff.mp q5).1, q5, q6, q7, q8, q9, hv, ?_⟩
  generalize cell.slots[f.slot] = v at he
  simp only [Cond.before, Cond.holds, Cond.value, he] at h2
  cases v <;> simp_all [Value.isRef]
set_option maxRecDepth 100000 in
set_option maxHeartbeats 4000000 in
theorem bp_enter {p : Program} {s : State} {m : MethodId} {meth : Method} {c : Code} {b L : Nat} {xs : Nat → Int32} (C0 : lw_At p s m meth c b L xs) : ∃ G : bp_G, bp_ok G s ∧ bp_HW s ∧ bp_St G s.heap s ∧ bp_Sc G s.heap b L xs := by
  obtain ⟨-, -, -, -, -, hts, hX, hbl, -, hgv⟩ := C0
  have hHW : bp_HW s := bp_HW_of hts
  have hH := bp_HW_args hHW #[Value.ref b]
  have hs := flat_of_before _ hgv
  have hA : ∀ a : Nat, a < s.heap.size → ¬ bp_A0 s.heap a := fun a ha h => Nat.not_lt.mpr h ha
  obtain ⟨c0, i0, k0⟩ := u_known (ws := bp_WS) hH ly0 (hH _ wd116)
  obtain ⟨c1, i1, k1⟩ := u_known (ws := bp_WS) hH ly1 (hH _ wd124)
  obtain ⟨c2, i2, k2⟩ := u_known (ws := bp_WS) hH ly2 (hH _ wd138)
  obtain ⟨c3, i3, k3⟩ := u_known (ws := bp_WS) hH ly3 (hH _ wd165)
  obtain ⟨c4, i4, k4⟩ := u_known (ws := bp_WS) hH ly4 (hH _ wd174)
  obtain ⟨c5, i5, k5⟩ := u_known (ws := bp_WS) hH ly5 (hH _ wd206)
  obtain ⟨c6, i6, k6⟩ := u_known (ws := bp_WS) hH ly6 (hH _ wd292)
  obtain ⟨c7, i7, k7⟩ := u_known (ws := bp_WS) hH ly7 (hH _ wd335)
  obtain ⟨c8, i8, k8⟩ := u_known (ws := bp_WS) hH ly8 (hH _ wd360)
  obtain ⟨c9, i9, k9⟩ := u_known (ws := bp_WS) hH ly9 (hH _ wd1306)
  obtain ⟨c10, i10, k10⟩ := u_known (ws := bp_WS) hH ly10 (hH _ wd1103)
  obtain ⟨c11, i11, k11⟩ := u_known (ws := bp_WS) hH ly11 (hH _ wd1172)
  obtain ⟨c12, i12, k12⟩ := u_known (ws := bp_WS) hH ly12 (hH _ wd1217)
  obtain ⟨c13, i13, k13⟩ := u_known (ws := bp_WS) hH ly13 (hH _ wd1255)
  obtain ⟨a1, q1, m1, f1, g1, e1⟩ := Cond.arrayClass_spec (hH _ wd136)
  obtain ⟨a2, q2, m2, f2, g2, e2⟩ := Cond.arrayClass_spec (hH _ wd1752)
  obtain ⟨a3, q3, m3, f3, g3, e3⟩ := Cond.arrayClass_spec (hH _ wd1414)
  obtain ⟨a4, q4, m4, f4, g4, e4⟩ := Cond.arrayClass_spec (hH _ wd868)
  obtain ⟨m5, a5, q5, d5, _, g5, e5, f5⟩ := Cond.arrayOver_spec (hH _ wd204)
  obtain ⟨scr, x1, x2, x3, x4, x5⟩ := hX
  have h0 : ∀ i : Nat, ∃ q : Nat × Nat, ∀ r, bp_S[i]? = some r → vk_R r.1 r.2.1 r.2.2.1 q.1 s ∧ va_O "java/lang/String" q.1 (bp_A0 s.heap) s s.heap ∧ va_OF "java/lang/String" "coder" "B" (.int 0) q.1 (bp_A0 s.heap) s s.heap ∧ va_OF "java/lang/String" "value" "[B" (.ref q.2) q.1 (bp_A0 s.heap) s s.heap ∧ va_T .byte q.2 r.2.2.2.length (fun j => .int (r.2.2.2.getD j 0)) (bp_A0 s.heap) s s.heap := fun i => by
    cases hr : bp_S[i]? with
    | none => exact ⟨(0, 0), fun r h => by cases h⟩
    | some r =>
      have hm := List.mem_of_getElem? hr
      obtain ⟨q, hq⟩ := bp_str1 (hts _ (bp_strs r hm).1) (fun w hw => hs w (bp_inW hm hw)) (bp_strs r hm).2
      exact ⟨q, fun r' h => by cases h; exact hq⟩
  obtain ⟨ad, had⟩ := Classical.axiomOfChoice h0
  refine ⟨(fun n => [c0, c1, c2, c3, c4, c5, c6, c7, c8, c9, c10, c11, c12, c13].getD n 0, fun n => [i0, i1, i2, i3, i4, i5, i6, i7, i8, i9, i10, i11, i12, i13].getD n (fun _ => 0), fun n => [scr.cls, a1, a2, a3, a4, a5].getD n 0, fun i => (ad i).1, fun i => (ad i).2), ⟨fun n q hq => ?_, fun k q hq => ?_⟩, hHW, ⟨fun i r hr => had i r hr, ?_, ?_, ⟨?_, ?_⟩, ?_, ?_⟩, ⟨hbl, scr, x1, rfl, x2.1, x3, x4, x5⟩⟩
  · match n, hq with
    | 0, hq => obtain rfl := Option.some.inj hq; exact k0
    | 1, hq => obtain rfl := Option.some.inj hq; exact k1
    | 2, hq => obtain rfl := Option.some.inj hq; exact k2
    | 3, hq => obtain rfl := Option.some.inj hq; exact k3
    | 4, hq => obtain rfl := Option.some.inj hq; exact k4
    | 5, hq => obtain rfl := Option.some.inj hq; exact k5
    | 6, hq => obtain rfl := Option.some.inj hq; exact k6
    | 7, hq => obtain rfl := Option.some.inj hq; exact k7
    | 8, hq => obtain rfl := Option.some.inj hq; exact k8
    | 9, hq => obtain rfl := Option.some.inj hq; exact k9
    | 10, hq => obtain rfl := Option.some.inj hq; exact k10
    | 11, hq => obtain rfl := Option.some.inj hq; exact k11
    | 12, hq => obtain rfl := Option.some.inj hq; exact k12
    | 13, hq => obtain rfl := Option.some.inj hq; exact k13
    | n + 14, hq => exact absurd hq (by simp [bp_cl])
  · match k, hq with
    | 0, hq => obtain rfl := Option.some.inj hq; exact ⟨fun n z => ⟨(fun k h => by cases h), q1, g1, m1, e1⟩, f1⟩
    | 1, hq => obtain rfl := Option.some.inj hq; exact ⟨fun n z => ⟨(fun k h => by cases h), q2, g2, m2, e2⟩, f2⟩
    | 2, hq => obtain rfl := Option.some.inj hq; exact ⟨fun n z => ⟨(fun k h => by cases h), q3, g3, m3, e3⟩, f3⟩
    | 3, hq => obtain rfl := Option.some.inj hq; exact ⟨fun n z => ⟨(fun k h => by cases h), q4, g4, m4, e4⟩, f4⟩
    | 4, hq => obtain rfl := Option.some.inj hq; exact ⟨fun n z => ⟨(fun k h => by cases h), q5, g5, m5, e5⟩, q5, m5, g5, e5, d5, f5⟩
    | k + 5, hq => exact absurd hq (by simp [bp_tys])
  · exact va_Zof (hts _ (sb_520_in _ (List.mem_of_getElem? (i := 17) rfl))) (hH _ wd109) (va_eqt (hs _ (List.mem_of_getElem? (i := 4) (by rfl)))) hA
  · exact va_Zqof (hts _ (sb_544_in _ (List.mem_of_getElem? (i := 9) rfl))) (hH _ wd111) (hs _ (List.mem_of_getElem? (i := 5) (by rfl))) hA
  · exact bp_Zs_of (hts _ (sb_1120_in _ (List.mem_of_getElem? (i := 9) rfl))) (hs _ (List.mem_of_getElem? (i := 9) (by rfl)))
  · exact bp_Zs_of (hts _ (sb_1120_in _ (List.mem_of_getElem? (i := 11) rfl))) (hs _ (List.mem_of_getElem? (i := 10) (by rfl)))
  · exact List.forall_mem_cons.mpr ⟨va_Nc.of (hs _ (List.mem_of_getElem? (i := 21) (by rfl))), List.forall_mem_cons.mpr ⟨va_Nc.of (hs _ (List.mem_of_getElem? (i := 47) (by rfl))), List.forall_mem_cons.mpr ⟨va_Nc.of (hs _ (List.mem_of_getElem? (i := 48) (by rfl))), List.forall_mem_cons.mpr ⟨va_Nc.of (hs _ (List.mem_of_getElem? (i := 60) (by rfl))), fun _ h => absurd h List.not_mem_nil⟩⟩⟩⟩
  · obtain ⟨-, k, hk, comp, hkind⟩ := x2
    exact fun n z => ⟨(fun k h => by cases h), k, hk, comp, hkind⟩
