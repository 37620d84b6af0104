/-! throwing an exception whose constructor names its superclass's by another place of its pool -/
def bp_oT (own : String) (ic : Nat) (X : String) : List Cond := [.methodLink own ic (Bundle.initS X), .instantiable X 6, .selects X Bundle.tFill0 Bundle.tFill0, .selects X Bundle.tFill Bundle.tFill, .isRef (.static Bundle.tN "UNASSIGNED_STACK" Bundle.steD), .isRef (.static Bundle.tN "SUPPRESSED_SENTINEL" Bundle.listD), .fieldLink Bundle.tN 198 Bundle.tN "backtrace" "Ljava/lang/Object;", .lays Bundle.tN Bundle.tN "backtrace" "Ljava/lang/Object;", .lays X Bundle.tN "cause" "Ljava/lang/Throwable;", .lays X Bundle.tN "stackTrace" Bundle.steD, .lays X Bundle.tN "suppressedExceptions" Bundle.listD, .lays X Bundle.tN "detailMessage" "Ljava/lang/String;", .lays X Bundle.tN "backtrace" "Ljava/lang/Object;"]
def bp_oI (own : String) (ic : Nat) (X : String) (i0 : Nat) (b0 : ByteArray) (Y : String) (names : List String) : List Cond := Bundle.throwableAtoms ++ (Bundle.throwableSAtoms ++ (Bundle.passSAtoms X Y i0 b0 ++ (Bundle.chainSAtoms Y names ++ bp_oT own ic X)))
set_option maxHeartbeats 4000000 in
theorem bp_ctorI {p : Program} {l : Launch} {e : Env} {R : Room} {s : State} {m₀ : MethodId} {args : Array Value} {below : List Frame} {meth : Method} {c : Code} {V : State} {locs : List Loc} {cells slots : Nat} (X : Stand p l e R s m₀ args below meth c V locs cells slots)
    {i0 : Nat} {b0 : ByteArray} {Y : String} (z0 : decode b0 0 = .ok (.aload_n 0, 1)) (z1 : decode b0 1 = .ok (.aload_n 1, 1)) (z2 : decode b0 2 = .ok (.invokespecial i0, 3)) (z5 : decode b0 5 = .ok (.return_, 1)) (hYf : Bundle.fit Y = true)
    (hexec : p.tables.exec = Jvm.exec) (htr : e.platform.stackTraces = false) {own cls : String} {names : List String} {ic : Nat} (hown : s.vm.findClass own = some m₀.cls) (hcls : Bundle.fit cls = true) (hnames : ∀ n ∈ names, Bundle.fit n = true)
    (h : ∀ w ∈ bp_oI own ic cls i0 b0 Y names, w.before args s = true) (hlocs : ∀ x ∈ locs, ∀ cell, s.heap[x.base]? = some cell → cell.vm.isStatics = false)
    {a : Addr} {cX : ClassId} {kX : Class} (hfX : s.vm.findClass cls = some cX) (hkX : s.vm.classes[cX]? = some kX) (hcell : V.heap[a]? = some (freshCell cX kX)) (hnew : s.heap.size ≤ a) {msg : Value} (hmsg : msg.isRef = true)
    {g : JFrame} (hg : g.method = m₀) (hsize : g.locals.size = c.maxLocals) (hlocked : g.locked = none) (hentered : g.entered = []) {rest : List Value} (hstack : g.stack = msg :: .ref a :: .ref a :: rest)
    (hd6 : decode c.code g.pc = .ok (.invokespecial ic, 3)) (hd9 : decode c.code (g.pc + 3) = .ok (.athrow, 1)) (hout : ∀ x ∈ c.exceptionTable.toList, covers x (g.pc + 3) = false)
    (hF : names.length + 4 < R.frames) (hLo : 2 * g.monitorRoom + ((Value.ref a :: rest).map fun v => v.category).sum + (13 * (names.length + 2) + 42) ≤ R.locals) (hlocks : meth.locks = false) :
    ∃ U : State, Steps p.tables e below (V.setTop g) U ∧ U.status = .running ∧ Ended U below (.threw a) ∧ s.WarmedH U.vm ∧ s.sameButNew ({ U with vm := s.vm } : State) locs cells slots ∧ ∃ ce, U.heap[a]? = some ce ∧ s.vm.findClass cls = some ce.cls ∧ ce.vm = .none := by
  have pm : e.platform.magicAccessors = ({} : Platform).magicAccessors := by rw [X.admits.platform]
  have hT : ∀ w ∈ bp_oT own ic cls, w.before args s = true := fun w hw => h w (List.mem_append_right _ (List.mem_append_right _ (List.mem_append_right _ (List.mem_append_right _ hw))))
  have at_ : ∀ (k : Nat) (w : Cond), (bp_oT own ic cls)[k]? = some w → w.holds args s none s [] = true := fun k w hw => hT w (List.mem_of_getElem? hw)
  obtain ⟨Tc, Z0, Lk, -, Ti⟩ := ThrowableC.of_atoms (args := args) (pl := e.platform) (by rw [X.admits.platform]) (by rw [X.admits.platform]) pm (fun w hw => h w (List.mem_append_left _ hw))
  obtain ⟨Zc, Mc, LZ, LM, hTop⟩ := Init0T.ofS_atoms (args := args) pm Lk Ti (fun w hw => h w (List.mem_append_right _ (List.mem_append_left _ hw)))
  have hpas : ∀ w ∈ Bundle.passSAtoms cls Y i0 b0, w.before args s = true := fun w hw => h w (List.mem_append_right _ (List.mem_append_right _ (List.mem_append_left _ hw)))
  obtain ⟨P0, K0, n0, u0⟩ := PassC.ofS_atoms (args := args) (s := s) pm (Bundle.fit_spec hcls).1 (Bundle.fit_spec hYf).2 z0 z1 z2 z5 hpas
  obtain ⟨P1, Ps, hlen, K1, Ks, n1, v1, vs⟩ := Bundle.chainS (args := args) pm hTop names Y hYf hnames (fun w hw => h w (List.mem_append_right _ (List.mem_append_right _ (List.mem_append_right _ (List.mem_append_left _ hw)))))
  have hfc : s.vm.findClass cls = some P0.m.cls := findClass_of_methodNamed n0
  cases Option.some.inj (hfX.symm.trans hfc)
  obtain ⟨_, _, y1, y2, hord, -, -, -⟩ := Cond.instantiable_spec (at_ 1 _ rfl)
  cases Option.some.inj (y1.symm.trans hfc)
  cases Option.some.inj (hkX.symm.trans y2)
  have sl0 : selectMethod e.platform s.vm P0.m.cls Tc.fill0 = .method Tc.fill0 := by
    obtain ⟨_, _, _, q1, q2, q3, q4, -⟩ := Cond.selects_spec (at_ 2 _ rfl)
    cases Option.some.inj (q1.symm.trans hfc)
    cases Option.some.inj (q2.symm.trans (State.methodFound?_of_named Ti.fill0 (by decide)))
    cases Option.some.inj (q3.symm.trans Ti.fill0)
    rw [Launch.admits_selectMethod X.admits]; exact q4
  have slF : selectMethod e.platform s.vm P0.m.cls Tc.fill = .method Tc.fill := by
    obtain ⟨_, _, _, q1, q2, q3, q4, -⟩ := Cond.selects_spec (at_ 3 _ rfl)
    cases Option.some.inj (q1.symm.trans hfc)
    cases Option.some.inj (q2.symm.trans (State.methodFound?_of_named Ti.fill (by decide)))
    cases Option.some.inj (q3.symm.trans Ti.fill)
    rw [Launch.admits_selectMethod X.admits]; exact q4
  obtain ⟨cS0, hS0, hSs⟩ := Ti.statics
  obtain ⟨r0, hr0⟩ := Cond.staticRefV Ti.unassigned Lk.unassignedStatic Lk.statics hS0 hSs (at_ 4 _ rfl)
  obtain ⟨r1, hr1⟩ := Cond.staticRefV Ti.sentinel Lk.sentinelStatic Lk.statics hS0 hSs (at_ 5 _ rfl)
  obtain ⟨cB, iB, fB, b1, b2, b3, b4, -, b5, b6, b7⟩ := Cond.ownField (t := .object "java/lang/Object") Ti.found Lk.cls (by decide +kernel) (at_ 6 _ rfl) (at_ 7 _ rfl) e.platform pm
  obtain ⟨cS, hS, eS, -, keep⟩ := X.same.2.2.2.2.2 Tc.aS cS0 hS0
  have apart : ∀ i, (⟨Tc.aS, i⟩ : Loc) ∉ locs := fun i hm => by
    have := hlocs _ hm cS0 hS0
    rw [hSs] at this; cases this
  have known : cS.vm ≠ .unknown := by
    rw [eS]; intro hu
    rw [show cS0.vm = .unknown from hu] at hSs
    cases hSs
  have neS : Tc.aS ≠ a := Nat.ne_of_lt (Nat.lt_of_lt_of_le (Array.getElem?_eq_some_iff.mp hS0).1 hnew)
  obtain ⟨_, ffM⟩ := Ti.msg
  obtain ⟨tC, dC, eC, nC⟩ := Cond.laysAt hfc y2 Ti.cause (at_ 8 _ rfl)
  obtain ⟨tS, dS, eS', nS⟩ := Cond.laysAt hfc y2 Ti.stack (at_ 9 _ rfl)
  obtain ⟨tP, dP, eP, nP⟩ := Cond.laysAt hfc y2 Ti.supp (at_ 10 _ rfl)
  obtain ⟨tM, dM, eM, nM⟩ := Cond.laysAt hfc y2 ffM (at_ 11 _ rfl)
  obtain ⟨tB, dB, eB, nB⟩ := Cond.laysAt hfc y2 b7 (at_ 12 _ rfl)
  have aC := Cond.laysApart eB eC nB nC (by rw [b5, Ti.causeName]; decide)
  have aS := Cond.laysApart eB eS' nB nS (by rw [b5, Ti.stackName]; decide)
  have aP := Cond.laysApart eB eP nB nP (by rw [b5, Ti.suppName]; decide)
  have skip : SkipFacts Tc e.platform s (fun u => u) r0 ((preparedCellV Tc.toThrowableT (freshCell P0.m.cls kX) a r0 r1).withEntry V.cur) :=
    ⟨{ ci198 := cB, i198 := iB, fBack := fB }, ⟨b1, b2, b3, b4⟩, by
      have := fresh_default (c := P0.m.cls) tB
      rw [b6] at this
      simpa [preparedCellV, Cell.setSlot, Cell.withEntry, Array.getElem?_setIfInBounds, aC, aS, aP, aC.symm, aS.symm, aP.symm, defaultValue] using this, fun _ _ => rfl⟩
  obtain ⟨_, _, _, _, vm1, m1, -, -, -, -, -, -, -, w1, go1⟩ := Steps.initColdS (tb := p.tables) (e := e) (below := below) (s := s) (U := V) X.here hexec X.warmed pm hown (t := Bundle.initS cls) rfl rfl (Bundle.fit_spec hcls).2
    (at_ 0 _ rfl) (hpas _ (List.mem_of_getElem? (i := 0) rfl)) (bytes := b0) (maxL := 2) (hpas _ (List.mem_of_getElem? (i := 1) rfl)) (f := g) hg (a := a) (msg := msg) (rest := .ref a :: rest) hstack hd6
  cases Option.some.inj (m1.symm.trans n0)
  have X1 := X.noted w1
  have hsup : P0.sup = P1.m := Option.some.inj (u0.symm.trans n1)
  obtain ⟨vm2, X2, go2⟩ := X1.ctorMessageOffV hexec (g := { g with stack := .ref a :: rest }) hg hsize Tc Lk Zc LZ Mc LM (P0 :: P1 :: Ps)
    (fun P hP => by
      rcases List.mem_cons.mp hP with rfl | hP
      · exact K0
      · rcases List.mem_cons.mp hP with rfl | hP
        · exact K1
        · exact Ks P hP) ⟨hsup, v1, vs⟩ (u0 := r0) (sen := r1) (self := a) hmsg (cell := freshCell P0.m.cls kX) (cellS := cS)
    hcell (fun _ => by simp) (by simp) rfl rfl sl0 slF hS neS known (by rw [keep _ (apart _)]; exact hr0) (by rw [keep _ (apart _)]; exact hr1)
    (Takes.of_laid y2 hord tC (by rw [Ti.causeType]; rfl)) (Takes.of_laid y2 hord tS (by rw [Ti.stackType]; exact fits_refV_array _ r0)) (Takes.of_laid y2 hord tP (by rw [Ti.suppType]; exact fits_refV_object _ r1))
    (Takes.of_laid y2 hord tM (by rw [Ti.msgType]; exact fits_refV_object _ ⟨msg, hmsg⟩)) Ti.objLocals skip htr [] hd6 (by simp only [List.length_cons, hlen]; omega) (by simp only [List.length_cons, hlen]; exact hLo)
  obtain ⟨go3, hrun, hend, hW, hsame⟩ := X2.athrowLeaves hexec (g := { g with stack := .ref a :: rest, pc := g.pc + 3 }) hg hlocked hentered hout (a := a) (rest := rest) rfl hd9
  have hlt : a < ((V.setVm vm1).setVm vm2).heap.size := (Array.getElem?_eq_some_iff.mp hcell).1
  refine ⟨_, go1 _ (fun acts => ?_), hrun, hend, hW, hsame.weaken (fun y hy hl => ?_) (Nat.le_refl _) (Nat.le_refl _), _, heapAt_setCell_self (s := (V.setVm vm1).setVm vm2) (plainBareV Tc.toThrowableT (freshCell P0.m.cls kX) a r0 r1 msg) hlt, hfc, rfl⟩
  · rw [doInvoke_state]
    exact go2 _ go3
  · rcases List.mem_append.mp hy with q | q
    · exact q
    · have hb : y.base = a := by
        simp only [List.mem_cons, List.not_mem_nil, or_false] at q
        rcases q with rfl | rfl | rfl | rfl | rfl <;> rfl
      rw [hb] at hl
      exact absurd hl (Nat.not_lt.mpr hnew)
section BPT2
variable {l : Launch} {G : bp_G} {H0 : Heap} {d : bp_Dp} {M : bp_M} {h : bp_H} {c s pc q : Nat} {ls ls' : List (Option Value)} {st : List Value} {Q : Outcome → bp_H → Nat → Nat → Prop}
set_option maxHeartbeats 4000000 in
theorem bp_throwI {ix il ic ci i : Nat} {r : String × Nat × String × List Int32} {rC : vw_C} {names : List String} {i0 : Nat} {b0 : ByteArray} {Y : String} (z0 : decode b0 0 = .ok (.aload_n 0, 1)) (z1 : decode b0 1 = .ok (.aload_n 1, 1)) (z2 : decode b0 2 = .ok (.invokespecial i0, 3)) (z5 : decode b0 5 = .ok (.return_, 1)) (hYf : Bundle.fit Y = true) (htl : l.stackTraces = false) (k : Nat) (hd0 : M.2.2.2.2[k]? = some (pc, .new ix, 3)) (hd1 : M.2.2.2.2[k + 1]? = some (pc + 3, .dup, 1)) (hd2 : M.2.2.2.2[k + 2]? = some (pc + 4, .ldc il, 2)) (hd3 : M.2.2.2.2[k + 3]? = some (pc + 6, .invokespecial ic, 3)) (hd4 : M.2.2.2.2[k + 4]? = some (pc + 9, .athrow, 1))
    (hN : bp_Nw M.1.cls ix ci 6) (hr : bp_cl[ci]? = some rC) (hN0 : rC.2.2 = 0) (hS : bp_S[i]? = some r) (hr1 : r.1 = M.1.cls) (hr2 : r.2.1 = il) (hfit : Bundle.fit rC.1 = true) (hfits : ∀ n ∈ names, Bundle.fit n = true)
    (hat : ∀ w ∈ bp_oI M.1.cls ic rC.1 i0 b0 Y names, w ∈ bp_WS ∨ w ∈ bp_OW) (hst : (st.map fun v => v.category).sum ≤ 8) (hfr : names.length + 4 < d.1) (hlo : 9 + (13 * (names.length + 2) + 42) ≤ d.2.1) (hk : d.2.2.1 = true) (hh : bp_hh M.1 = [])
    (hQ : ∀ a, bp_K h a = 0 → Q (.threw a) (bp_new h a (ci + 6) 0) c s) : bp_A l G H0 d M h (c + 1) (s + 6) pc ls st Q := by
  intro p e R s₀ m args below meth cd H locs cells slots lr X hR h1 h2 h3 hl hcl hz
  obtain ⟨rfl, rfl, rfl, rfl⟩ := hcl hk
  obtain ⟨r', hr', hin, w1, w2, w3, hnf⟩ := hN
  cases hr.symm.trans hr'
  subst hr2
  have hts := X.2.2.2.2.1
  have hown := X.2.2.2.1
  have hok := X.2.2.2.2.2.2.1
  have hfc := (hok.1 ci _ hr).2.1
  have hfrR := X.2.2.2.2.2.2.2.2.2.1
  have hloR := X.2.2.2.2.2.2.2.2.2.2.1
  have hH : ∀ q : Nat, q < H0.size → s₀.heap[q]? = H0[q]? := hR.2.2.2
  have hzS := (hz.1 i r hS).1
  rw [hr1] at hzS
  refine W.newcK X.1 X.2.1 hown (hts _ w1) (hts _ w2) (hts _ w3) rfl (bp_dec X hd0) (by omega) (by omega) hfc rfl (fun H' kC hkC e0 z o => ?_)
  refine lv_dup X.1 X.2.1 (bp_dec X hd1) rfl ?_
  refine va_ldcS X.1 X.2.1 hown hzS (bp_dec X hd2) ?_
  intro T hT X'
  subst hT
  have hat' : ∀ w ∈ bp_oI M.1.cls ic rC.1 i0 b0 Y names, w.before args s₀ = true := fun w hw => (hat w hw).elim (hts w) (bp_OW_at hz.2.2.2.1 hH w)
  have htr : e.platform.stackTraces = false := by rw [X'.admits.platform]; exact htl
  obtain ⟨U, g1, g2, g3, g4, g5, ce, g6, g7, g8⟩ := bp_ctorI X' z0 z1 z2 z5 hYf (a := s₀.heap.size) (msg := .ref (G.2.2.2.1 i)) X.1 htr hown hfit hfits hat' (fun x hx => by cases hx) hfc hkC e0 (Nat.le_refl _) rfl
    (g := F0 m (pc + 6) lr (.ref (G.2.2.2.1 i) :: .ref s₀.heap.size :: .ref s₀.heap.size :: st)) rfl (hl.1.trans X.2.2.1.symm) rfl rfl rfl (by rw [X.2.1]; exact bp_dec X hd3) (by rw [X.2.1]; exact bp_dec X hd4)
    (fun x hx => by
      have := X.2.2.2.2.2.2.2.2.2.2.2.1.2
      rw [hh, List.map_eq_nil_iff] at this
      rw [this] at hx
      cases hx) (by omega) (by
      show 2 * 0 + ((Value.ref s₀.heap.size :: st).map fun v => v.category).sum + _ ≤ R.locals
      rw [List.map_cons, List.sum_cons]
      show 2 * 0 + (1 + (st.map fun v => v.category).sum) + _ ≤ R.locals
      omega) X.2.2.2.2.2.2.2.2.1
  have hsame := g5
  obtain ⟨-, q2, q3, -, -, q6⟩ := g5
  have hold : ∀ b : Nat, b < s₀.heap.size → U.heap[b]? = s₀.heap[b]? := by
    intro b hb
    have hcb : s₀.heap[b]? = some s₀.heap[b] := Array.getElem?_eq_getElem hb
    obtain ⟨c', i1, i2, i3, i4⟩ := q6 b _ hcb
    have hc' : c' = s₀.heap[b] := by
      rw [i2]
      have : c'.slots = s₀.heap[b].slots := by
        apply Array.ext_getElem?
        intro j
        exact i4 j (by simp)
      rw [this]
    rw [hcb, ← hc']
    exact i1
  refine ⟨U, g1, .threw s₀.heap.size, g2, g3, [], 0 + 1, 0 + 6, bp_new h s₀.heap.size (ci + 6) 0, c, s, g4, hsame, (fun q hq => by cases hq), ?_, by omega, by omega, (fun _ v hv => by cases hv), hQ _ (bp_fresh hR)⟩
  refine ⟨bp_cell_off hR.1 (bp_cell_of (by rw [bp_K_new, if_pos rfl]) ?_) (fun b hb => by rw [bp_K_new, if_neg hb]) (fun b hb => by rw [bp_L_new, if_neg hb]) (fun b hb k => by rw [bp_I_new, if_neg hb]) (fun b hb k => by rw [bp_J_new, if_neg hb]) (fun b hb k => by rw [bp_R_new, if_neg hb]) (fun b hb hk => hold b (bp_lt (hR.1 b) hk)), fun b hb => ?_, Nat.le_trans hR.2.2.1 q2, fun q hq => (hold q (Nat.lt_of_lt_of_le hq hR.2.2.1)).trans (hH q hq)⟩
  · rw [bp_N_of hr, hN0]
    exact ⟨ce, g6, Option.some.inj (g7.symm.trans hfc), g8, fun k hk => absurd hk (Nat.not_lt_zero k)⟩
  · by_cases hs : b = s₀.heap.size
    · rw [hs]; exact hR.2.2.1
    · rw [bp_K_new, if_neg hs] at hb; exact hR.2.1 b hb
end BPT2
