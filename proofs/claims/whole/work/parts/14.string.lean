theorem wx536 : (Jvm.Cond.fieldLink "java/lang/String" (38 : Nat) "java/lang/String" "COMPACT_STRINGS" "Z") ∈ bp_WS := bp_mem ⟨sb_520_in _ (List.mem_of_getElem? (i := 16) rfl), rfl⟩
theorem wx1756 : (Jvm.Cond.fieldLink "java/lang/String" (15 : Nat) "java/lang/String" "coder" "B") ∈ bp_WS := bp_mem ⟨sb_1744_in _ (List.mem_of_getElem? (i := 12) rfl), rfl⟩
theorem wx1755 : (Jvm.Cond.fieldLink "java/lang/String" (9 : Nat) "java/lang/String" "value" "[B") ∈ bp_WS := bp_mem ⟨sb_1744_in _ (List.mem_of_getElem? (i := 11) rfl), rfl⟩
theorem wx552 : (Jvm.Cond.fieldLink "java/lang/String" (1053 : Nat) "jdk/internal/util/Preconditions" "SIOOBE_FORMATTER" "Ljava/util/function/BiFunction;") ∈ bp_WS := bp_mem ⟨sb_544_in _ (List.mem_of_getElem? (i := 8) rfl), rfl⟩
/-! String constants: cells of the start that nobody writes -/
def sOK (r : String × Nat × String × List Int32) : Bool := decide (r.2.2.2.length < 1000) && r.2.2.2.all (fun x => decide (x = nI x.toNatClampNeg) && decide (x.toNatClampNeg < 128))
set_option maxRecDepth 100000 in
theorem bp_S_ok : ∀ r ∈ bp_S, sOK r = true := by decide +kernel
def sT (r : String × Nat × String × List Int32) : List Nat := r.2.2.2.map (fun x => x.toNatClampNeg)
theorem sT_len (r : String × Nat × String × List Int32) : (sT r).length = r.2.2.2.length := List.length_map ..
theorem sT_short {i : Nat} {r : String × Nat × String × List Int32} (hS : bp_S[i]? = some r) : (sT r).length < 1000 := by
  have h := bp_S_ok r (List.mem_of_getElem? hS)
  simp only [sOK, Bool.and_eq_true, decide_eq_true_eq] at h
  rw [sT_len]
  exact h.1
theorem sT_get {i j : Nat} {r : String × Nat × String × List Int32} (hS : bp_S[i]? = some r) (hj : j < (sT r).length) : r.2.2.2.getD j 0 = nI ((sT r).getD j 0) ∧ (sT r).getD j 0 < 128 := by
  have h := bp_S_ok r (List.mem_of_getElem? hS)
  simp only [sOK, Bool.and_eq_true, decide_eq_true_eq] at h
  have hj' : j < r.2.2.2.length := by rw [← sT_len]; exact hj
  have h2 := List.all_eq_true.mp h.2 r.2.2.2[j] (List.getElem_mem hj')
  simp only [Bool.and_eq_true, decide_eq_true_eq] at h2
  have e1 : r.2.2.2.getD j 0 = r.2.2.2[j] := by rw [List.getD_eq_getElem?_getD, List.getElem?_eq_getElem hj']; rfl
  have e2 : (sT r).getD j 0 = (r.2.2.2[j]).toNatClampNeg := by rw [List.getD_eq_getElem?_getD, List.getElem?_eq_getElem hj]; simp [sT]
  rw [e1, e2]
  exact h2
theorem ch_and : ∀ n, n < 128 → ((nI n &&& 255).toUInt32 % 65536).toInt32 = nI n := by decide +kernel
theorem ch_nar0 : ∀ n, n < 256 → (nI n).toUInt32.toUInt16.toUInt32.toInt32 = nI n := by decide +kernel
theorem ch_nar {n : Nat} (h : n < 256) : narrow .char (.int (nI n)) = .int (nI n) := congrArg Value.int (ch_nar0 n h)
section BPSTR
variable {l : Launch} {G : bp_G} {H0 : Heap} {d : bp_Dp} {M : bp_M} {h : bp_H} {c s pc q : Nat} {ls ls' : List (Option Value)} {st : List Value} {Q : Outcome → bp_H → Nat → Nat → Prop} {i : Nat} {r : String × Nat × String × List Int32}
theorem bp_ldcs {index : Nat} (hS : bp_S[i]? = some r) (k : Nat) (hd : M.2.2.2.2[k]? = some (pc, .ldc index, 2)) (hq : pc + 2 = q) (hr1 : r.1 = M.1.cls) (hr2 : r.2.1 = index) (w : bp_A l G H0 d M h c s q ls (.ref (G.2.2.2.1 i) :: st) Q) : bp_A l G H0 d M h c s pc ls st Q := by
  subst hq
  subst hr2
  intro p e R s₀ m args below meth cd H locs cells slots lr X hR h1 h2 h3 hl hcl hz
  have hzS := (hz.1 i r hS).1
  rw [hr1] at hzS
  exact va_ldcS X.1 X.2.1 X.2.2.2.1 hzS (bp_dec X hd) (w p e R s₀ m args below meth cd H locs cells slots lr X hR h1 h2 h3 hl hcl hz)
theorem bp_oget {index a : Nat} {n ds : String} {v : Value} (hE : ∀ U, bp_St G H0 U → va_OF "java/lang/String" n ds v a (bp_A0 H0) U H0) (k : Nat) (hd : M.2.2.2.2[k]? = some (pc, .getfield index, 3)) (hq : pc + 3 = q) (hw : Cond.fieldLink M.1.cls index "java/lang/String" n ds ∈ bp_WS) (w : bp_A l G H0 d M h c s q ls (v :: st) Q) : bp_A l G H0 d M h c s pc ls (.ref a :: st) Q := by
  subst hq
  intro p e R s₀ m args below meth cd H locs cells slots lr X hR h1 h2 h3 hl hcl hz
  obtain ⟨cf, kf, fi, f, cell, e1, e2, e3, e4, e5, -⟩ := (hE s₀ hz).kept (fun a ha _ => hR.2.2.2 a ha)
  exact W.getf X.1 X.2.1 X.2.2.2.1 (X.2.2.2.2.1 _ hw) e1 e2 e3 e4 e5 rfl rfl (bp_dec X hd) (w p e R s₀ m args below meth cd H locs cells slots lr X hR h1 h2 h3 hl hcl hz)
theorem bp_gstat {index : Nat} {C n ds : String} {v : Value} (hE : ∀ U, bp_St G H0 U → va_Z C n ds v (bp_A0 H0) U H0) (k : Nat) (hd : M.2.2.2.2[k]? = some (pc, .getstatic index, 3)) (hq : pc + 3 = q) (hw : Cond.fieldLink M.1.cls index C n ds ∈ bp_WS) (w : bp_A l G H0 d M h c s q ls (v :: st) Q) : bp_A l G H0 d M h c s pc ls st Q := by
  subst hq
  intro p e R s₀ m args below meth cd H locs cells slots lr X hR h1 h2 h3 hl hcl hz
  obtain ⟨cf, kf, fi, f, a, cell, e1, e2, e3, e4, e5, e6, e7, -⟩ := (hE s₀ hz).kept (fun a ha _ => hR.2.2.2 a ha)
  exact W.gets X.1 X.2.1 X.2.2.2.1 (X.2.2.2.2.1 _ hw) e1 e2 e3 e4 e5 (fun e => by rw [e] at e6; cases e6) e7 rfl (bp_dec X hd) (w p e R s₀ m args below meth cd H locs cells slots lr X hR h1 h2 h3 hl hcl hz)
theorem bp_gstatq {index : Nat} {C n ds : String} (hE : ∀ U, bp_St G H0 U → va_Zq C n ds (bp_A0 H0) U H0) (k : Nat) (hd : M.2.2.2.2[k]? = some (pc, .getstatic index, 3)) (hq : pc + 3 = q) (hw : Cond.fieldLink M.1.cls index C n ds ∈ bp_WS) (w : ∀ v : Value, (v = .null ∨ ∃ t, v = .ref t) → bp_A l G H0 d M h c s q ls (v :: st) Q) : bp_A l G H0 d M h c s pc ls st Q := by
  subst hq
  intro p e R s₀ m args below meth cd H locs cells slots lr X hR h1 h2 h3 hl hcl hz
  have go : ∀ v : Value, va_Z C n ds v (bp_A0 H0) s₀ H0 → (v = .null ∨ ∃ t, v = .ref t) → W p l e R s₀ m args below meth cd H locs cells slots (bp_E G H0 d below s₀ R Q) (F0 m pc lr st) := by
    intro v hv hv2
    obtain ⟨cf, kf, fi, f, a, cell, e1, e2, e3, e4, e5, e6, e7, -⟩ := hv.kept (fun a ha _ => hR.2.2.2 a ha)
    exact W.gets X.1 X.2.1 X.2.2.2.1 (X.2.2.2.2.1 _ hw) e1 e2 e3 e4 e5 (fun e => by rw [e] at e6; cases e6) e7 rfl (bp_dec X hd) (w v hv2 p e R s₀ m args below meth cd H locs cells slots lr X hR h1 h2 h3 hl hcl hz)
  rcases hE s₀ hz with z | ⟨t, z⟩
  · exact go _ z (Or.inl rfl)
  · exact go _ z (Or.inr ⟨t, rfl⟩)
theorem bp_salen (hS : bp_S[i]? = some r) (k : Nat) (hd : M.2.2.2.2[k]? = some (pc, .arraylength, 1)) (hq : pc + 1 = q) (w : bp_A l G H0 d M h c s q ls (.int (nI (sT r).length) :: st) Q) : bp_A l G H0 d M h c s pc ls (.ref (G.2.2.2.2 i) :: st) Q := by
  subst hq
  rw [sT_len] at w
  intro p e R s₀ m args below meth cd H locs cells slots lr X hR h1 h2 h3 hl hcl hz
  obtain ⟨cell, e1, e2, e3, e4, e5, e6, -⟩ := ((hz.1 i r hS).2.2.2.2).kept (fun a ha _ => hR.2.2.2 a ha)
  exact W.alen X.1 X.2.1 e1 e2 e5 rfl rfl (bp_dec X hd) (w p e R s₀ m args below meth cd H locs cells slots lr X hR h1 h2 h3 hl hcl hz)
theorem bp_sbald {j : Nat} (hS : bp_S[i]? = some r) (hj : j < (sT r).length) (k : Nat) (hd : M.2.2.2.2[k]? = some (pc, .baload, 1)) (hq : pc + 1 = q) (w : bp_A l G H0 d M h c s q ls (.int (nI ((sT r).getD j 0)) :: st) Q) : bp_A l G H0 d M h c s pc ls (.int (nI j) :: .ref (G.2.2.2.2 i) :: st) Q := by
  subst hq
  have hsh := sT_short hS
  rw [← (sT_get hS hj).1] at w
  rw [sT_len] at hj
  intro p e R s₀ m args below meth cd H locs cells slots lr X hR h1 h2 h3 hl hcl hz
  obtain ⟨cell, e1, e2, e3, e4, e5, e6, -⟩ := ((hz.1 i r hS).2.2.2.2).kept (fun a ha _ => hR.2.2.2 a ha)
  have hcl' : (nI j).toNatClampNeg = j := nI_clamp (by rw [sT_len] at hsh; omega)
  exact W.bald X.1 X.2.1 e1 e2 e3 (fun z => z.elim (nI_pos (by rw [sT_len] at hsh; omega)) (fun z => by rw [hcl'] at z; omega)) (by rw [hcl']; exact e6 j hj) rfl rfl (bp_dec X hd) (w p e R s₀ m args below meth cd H locs cells slots lr X hR h1 h2 h3 hl hcl hz)
theorem bp_callVS {M' : bp_M} {d' : bp_Dp} {n index : Nat} {av st0 : List Value} (hS : bp_S[i]? = some r) (k : Nat) (hd : M.2.2.2.2[k]? = some (pc, .invokevirtual index, 3)) (hq : pc + 3 = q) (hw : bp_Cw M' n) (hk : bp_Lk M.1.cls index M'.1) (hi : Cond.instanceMethod M'.1 ∈ bp_WS) (hs : Cond.selects "java/lang/String" M'.1 M'.1 ∈ bp_WS) (hn : av.length = n) (hst : st0 = av.reverse ++ .ref (G.2.2.2.1 i) :: st) (hrm : (st.map fun v => v.category).sum ≤ 8) (hdd : d'.1 + 1 ≤ d.1 ∧ 8 + (M'.2.2.1 + 11) + d'.2.1 ≤ d.2.1)
    (hM : bp_AM l G H0 d' M' h c s (.ref (G.2.2.2.1 i) :: av) (bp_C l G H0 d M q ls st Q)) (hkc : d.2.2.1 = true → d'.2.2.2 = true := by first | exact id | exact fun _ => rfl | exact fun z => nomatch z) : bp_A l G H0 d M h c s pc ls st0 Q := by
  subst hq
  subst hst
  intro p e R s₀ m args below meth cd H locs cells slots lr X hR h1 h2 h3 hl hcl hz T hT X'
  have hts := X.2.2.2.2.1
  have hsz : lr.size = cd.maxLocals := hl.1.trans X.2.2.1.symm
  have hB := bp_back (e := e) (below := below) X hz hM hdd hw
  obtain ⟨cB, g1, g2, g3, -⟩ := ((hz.1 i r hS).2.1).kept (fun a ha _ => hR.2.2.2 a ha)
  rcases hk with hk | ⟨host, hk⟩
  · obtain ⟨v, vm₁, B, hW₁, X'', hp, stp⟩ := callV X' X.1 (C := "java/lang/String") (bytes := M'.2.1) (maxL := M'.2.2.1) (ret := M'.2.2.2.1) X.2.2.2.1 (hts _ hk) (hts _ hi) (hts _ hs) (hts _ hw.2.2.1) hw.1 hB (by rw [hT]; exact g1) g2 g3 (g := F0 m pc lr (av.reverse ++ .ref (G.2.2.2.1 i) :: st)) rfl hsz (argsL := av) (rest := st) (bp_len hw hn) rfl (lv_room hrm) (by rw [X.2.1]; exact bp_dec X hd) (fun vm₁ _ => bp_pre hR hT h1 h2 vm₁)
    exact bp_fin X hz h3 hl hT hcl hkc X'' hp stp
  · obtain ⟨v, vm₁, B, hW₁, X'', hp, stp⟩ := va_callVN X' X.1 (C := "java/lang/String") (bytes := M'.2.1) (maxL := M'.2.2.1) (ret := M'.2.2.2.1) X.2.2.2.1 (hts _ hk) (hts _ hi) (hts _ hs) (hts _ hw.2.2.1) hw.1 hB (by rw [hT]; exact g1) g2 g3 (g := F0 m pc lr (av.reverse ++ .ref (G.2.2.2.1 i) :: st)) rfl hsz (argsL := av) (rest := st) (bp_len hw hn) rfl (lv_room hrm) (by rw [X.2.1]; exact bp_dec X hd) (fun vm₁ _ => bp_pre hR hT h1 h2 vm₁)
    exact bp_fin X hz h3 hl hT hcl hkc X'' hp stp
end BPSTR
section JSTR
variable {l : Launch} {G : bp_G} {H0 : Heap} {h : bp_H} {c s i : Nat} {r : String × Nat × String × List Int32} {Q : Option Value → bp_H → Nat → Nat → Prop} {ro : Bool}
set_option maxRecDepth 100000 in
set_option maxHeartbeats 4000000 in
theorem s_JS_coder  (hS : bp_S[i]? = some r) (hQ : Q (some (.int 0)) h c s) : bp_AM l G H0 (0, 0, ro, ro) M_JS_coder h c s [.ref (G.2.2.2.1 i)] Q := by
  refine bp_ofF (ls := [some (.ref (G.2.2.2.1 i))]) (by decide +kernel) dt_JS_coder (Nat.le_of_ble_eq_true rfl) (fun q hq => hq) ro ?_
  refine bp_gstat (q := 3) (C := "java/lang/String") (n := "COMPACT_STRINGS") (ds := "Z") (v := .int 1) (fun U hU => hU.2.1) 0 rfl rfl wx536 ?_
  refine bp_if_eq (q := 6) (tgt := 13) 1 rfl rfl (by decide) (fun z => absurd z (by decide)) (fun z => ?_)
  refine bp_aload_n (q := 7) 2 rfl rfl rfl rfl ?_
  refine bp_oget (q := 10) (n := "coder") (ds := "B") (v := .int 0) (fun U hU => (hU.1 i r hS).2.2.1) 3 rfl rfl wx1756 ?_
  refine bp_goto (tgt := 14) 4 rfl (by decide) ?_
  exact bp_iret 6 rfl rfl rfl ⟨_, rfl, hQ⟩
set_option maxRecDepth 100000 in
set_option maxHeartbeats 4000000 in
theorem s_JS_isLatin1  (hS : bp_S[i]? = some r) (hQ : Q (some (.int 1)) h c s) : bp_AM l G H0 (0, 0, ro, ro) M_JS_isLatin1 h c s [.ref (G.2.2.2.1 i)] Q := by
  refine bp_ofF (ls := [some (.ref (G.2.2.2.1 i))]) (by decide +kernel) dt_JS_isLatin1 (Nat.le_of_ble_eq_true rfl) (fun q hq => hq) ro ?_
  refine bp_gstat (q := 3) (C := "java/lang/String") (n := "COMPACT_STRINGS") (ds := "Z") (v := .int 1) (fun U hU => hU.2.1) 0 rfl rfl wx536 ?_
  refine bp_if_eq (q := 6) (tgt := 17) 1 rfl rfl (by decide) (fun z => absurd z (by decide)) (fun z => ?_)
  refine bp_aload_n (q := 7) 2 rfl rfl rfl rfl ?_
  refine bp_oget (q := 10) (n := "coder") (ds := "B") (v := .int 0) (fun U hU => (hU.1 i r hS).2.2.1) 3 rfl rfl wx1756 ?_
  refine bp_if_ne (q := 13) (tgt := 17) 4 rfl rfl (by decide) (fun z => absurd rfl z) (fun z => ?_)
  refine bp_iconst (v := 1) (q := 14) 5 rfl rfl (by decide) ?_
  refine bp_goto (tgt := 18) 6 rfl (by decide) ?_
  exact bp_iret 8 rfl rfl rfl ⟨_, rfl, hQ⟩
set_option maxRecDepth 100000 in
set_option maxHeartbeats 4000000 in
theorem s_JS_length  (hS : bp_S[i]? = some r) (hQ : Q (some (.int (nI (sT r).length))) h c s) : bp_AM l G H0 (1, 20, ro, ro) M_JS_length h c s [.ref (G.2.2.2.1 i)] Q := by
  refine bp_ofF (ls := [some (.ref (G.2.2.2.1 i))]) (by decide +kernel) dt_JS_length (Nat.le_of_ble_eq_true rfl) (fun q hq => hq) ro ?_
  refine bp_aload_n (q := 1) 0 rfl rfl rfl rfl ?_
  refine bp_oget (q := 4) (n := "value") (ds := "[B") (v := .ref (G.2.2.2.2 i)) (fun U hU => (hU.1 i r hS).2.2.2.1) 1 rfl rfl wx1755 ?_
  refine bp_salen (q := 5) hS 2 rfl rfl ?_
  refine bp_aload_n (q := 6) 3 rfl rfl rfl rfl ?_
  refine bp_callVS (q := 9) hS 4 rfl rfl cw_JS_coder lk_JS_335 wd533 wd534 rfl rfl (Nat.le_of_ble_eq_true rfl) ⟨Nat.le_of_ble_eq_true rfl, Nat.le_of_ble_eq_true rfl⟩ (s_JS_coder (ro := ro) hS ?_)
  refine bp_ishr (q := 10) 5 rfl rfl ?_
  refine bp_iret 6 rfl rfl rfl ⟨_, rfl, ?_⟩
  have e : nI (sT r).length >>> ((0 : Int32) &&& 31) = nI (sT r).length := by
    rw [show ((0 : Int32) &&& 31) = 0 from rfl]
    exact Int32.shiftRight_zero
  rw [e]
  exact hQ
set_option maxRecDepth 100000 in
set_option maxHeartbeats 4000000 in
theorem s_JP_checkIndex {x y : Int32} {v : Value} (hv : v = .null ∨ ∃ t, v = .ref t) (h1 : ¬ x < 0) (h2 : x < y) (hQ : Q (some (.int x)) h c s) : bp_AM l G H0 (0, 0, ro, ro) M_JP_checkIndex h c s [.int x, .int y, v] Q := by
  have hn : (lg_sl [.int x, .int y, v]).length ≤ M_JP_checkIndex.2.2.1 ∧ ∀ q ∈ bp_al 0 [some (.int x), some (.int y), none], q ∈ lv_args 0 [.int x, .int y, v] := by
    rcases hv with rfl | ⟨t, rfl⟩
    · exact ⟨Nat.le_of_ble_eq_true rfl, fun q hq => List.mem_append_left [(2, Value.null)] hq⟩
    · exact ⟨Nat.le_of_ble_eq_true rfl, fun q hq => List.mem_append_left [(2, Value.ref t)] hq⟩
  refine bp_ofF (ls := [some (.int x), some (.int y), none]) (by decide +kernel) dt_JP_checkIndex hn.1 hn.2 ro ?_
  refine bp_iload_n (q := 1) 0 rfl rfl rfl rfl ?_
  refine bp_if_lt (q := 4) (tgt := 9) 1 rfl rfl (by decide) (fun z => absurd z h1) (fun z => ?_)
  refine bp_iload_n (q := 5) 2 rfl rfl rfl rfl ?_
  refine bp_iload_n (q := 6) 3 rfl rfl rfl rfl ?_
  refine bp_icmp_lt (q := 9) (tgt := 16) 4 rfl rfl (by decide) (fun z => ?_) (fun z => absurd h2 z)
  refine bp_iload_n (q := 17) 10 rfl rfl rfl rfl ?_
  exact bp_iret 11 rfl rfl rfl ⟨_, rfl, hQ⟩
set_option maxRecDepth 100000 in
set_option maxHeartbeats 4000000 in
theorem s_JS_checkIndex {x y : Int32} (h1 : ¬ x < 0) (h2 : x < y) (hQ : Q none h c s) : bp_AM l G H0 (1, 22, ro, ro) M_JS_checkIndex h c s [.int x, .int y] Q := by
  refine bp_ofF (ls := [some (.int x), some (.int y)]) (by decide +kernel) dt_JS_checkIndex (Nat.le_of_ble_eq_true rfl) (fun q hq => hq) ro ?_
  refine bp_iload_n (q := 1) 0 rfl rfl rfl rfl ?_
  refine bp_iload_n (q := 2) 1 rfl rfl rfl rfl ?_
  refine bp_gstatq (q := 5) (C := "jdk/internal/util/Preconditions") (n := "SIOOBE_FORMATTER") (ds := "Ljava/util/function/BiFunction;") (fun U hU => hU.2.2.1) 2 rfl rfl wx552 (fun v hv => ?_)
  refine bp_callS (av := [.int x, .int y, v]) (q := 8) 3 rfl rfl cw_JP_checkIndex lk_JS_1059 wd555 rfl rfl (Nat.le_of_ble_eq_true rfl) ⟨Nat.le_of_ble_eq_true rfl, Nat.le_of_ble_eq_true rfl⟩ (s_JP_checkIndex (ro := ro) hv h1 h2 ?_)
  refine bp_pop (q := 9) 4 rfl rfl rfl ?_
  exact bp_vret 5 rfl rfl ⟨_, rfl, hQ⟩
set_option maxRecDepth 100000 in
set_option maxHeartbeats 4000000 in
theorem s_JL_charAt {j : Nat} (hS : bp_S[i]? = some r) (hj : j < (sT r).length) (hQ : Q (some (.int (nI ((sT r).getD j 0)))) h c s) : bp_AM l G H0 (2, 43, ro, ro) M_JL_charAt h c s [.ref (G.2.2.2.2 i), .int (nI j)] Q := by
  refine bp_ofF (ls := [some (.ref (G.2.2.2.2 i)), some (.int (nI j))]) (by decide +kernel) dt_JL_charAt (Nat.le_of_ble_eq_true rfl) (fun q hq => hq) ro ?_
  have hsh := sT_short hS
  have h128 := (sT_get hS hj).2
  refine bp_iload_n (q := 1) 0 rfl rfl rfl rfl ?_
  refine bp_aload_n (q := 2) 1 rfl rfl rfl rfl ?_
  refine bp_salen (q := 3) hS 2 rfl rfl ?_
  refine bp_callS (q := 6) 3 rfl rfl cw_JS_checkIndex lk_JL_9 wd550 rfl rfl (Nat.le_of_ble_eq_true rfl) ⟨Nat.le_of_ble_eq_true rfl, Nat.le_of_ble_eq_true rfl⟩ (s_JS_checkIndex (ro := ro) (nI_pos (by omega)) (nI_lt hj (by omega)) ?_)
  refine bp_aload_n (q := 7) 4 rfl rfl rfl rfl ?_
  refine bp_iload_n (q := 8) 5 rfl rfl rfl rfl ?_
  refine bp_sbald (q := 9) hS hj 6 rfl rfl ?_
  refine bp_sipush (v := 255) (q := 12) 7 rfl rfl (by decide) ?_
  refine bp_iand (q := 13) 8 rfl rfl ?_
  refine bp_i2c (q := 14) 9 rfl rfl ?_
  rw [ch_and _ h128]
  exact bp_iret 10 rfl rfl (ch_nar (by omega)) ⟨_, rfl, hQ⟩
set_option maxRecDepth 100000 in
set_option maxHeartbeats 4000000 in
theorem s_JS_charAt {j : Nat} (hS : bp_S[i]? = some r) (hj : j < (sT r).length) (hQ : Q (some (.int (nI ((sT r).getD j 0)))) h c s) : bp_AM l G H0 (3, 64, ro, ro) M_JS_charAt h c s [.ref (G.2.2.2.1 i), .int (nI j)] Q := by
  refine bp_ofF (ls := [some (.ref (G.2.2.2.1 i)), some (.int (nI j))]) (by decide +kernel) dt_JS_charAt (Nat.le_of_ble_eq_true rfl) (fun q hq => hq) ro ?_
  have h128 := (sT_get hS hj).2
  refine bp_aload_n (q := 1) 0 rfl rfl rfl rfl ?_
  refine bp_callVS (q := 4) hS 1 rfl rfl cw_JS_isLatin1 lk_JS_492 wd543 wd544 rfl rfl (Nat.le_of_ble_eq_true rfl) ⟨Nat.le_of_ble_eq_true rfl, Nat.le_of_ble_eq_true rfl⟩ (s_JS_isLatin1 (ro := ro) hS ?_)
  refine bp_if_eq (q := 7) (tgt := 16) 2 rfl rfl (by decide) (fun z => absurd z (by decide)) (fun z => ?_)
  refine bp_aload_n (q := 8) 3 rfl rfl rfl rfl ?_
  refine bp_oget (q := 11) (n := "value") (ds := "[B") (v := .ref (G.2.2.2.2 i)) (fun U hU => (hU.1 i r hS).2.2.2.1) 4 rfl rfl wx1755 ?_
  refine bp_iload_n (q := 12) 5 rfl rfl rfl rfl ?_
  refine bp_callS (q := 15) 6 rfl rfl cw_JL_charAt lk_JS_495 wd547 rfl rfl (Nat.le_of_ble_eq_true rfl) ⟨Nat.le_of_ble_eq_true rfl, Nat.le_of_ble_eq_true rfl⟩ (s_JL_charAt (ro := ro) hS hj ?_)
  exact bp_iret 7 rfl rfl (ch_nar (by omega)) ⟨_, rfl, hQ⟩
end JSTR
