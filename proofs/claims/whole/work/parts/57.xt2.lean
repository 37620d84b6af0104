/-! the words of NoSuchElementException; where it is thrown -/
theorem wx1258 : (Jvm.Cond.lays "java/util/NoSuchElementException" "java/lang/Throwable" "cause" "Ljava/lang/Throwable;") ∈ bp_WS := bp_mem ⟨sb_1240_in _ (List.mem_of_getElem? (i := 18) rfl), rfl⟩
theorem wx1259 : (Jvm.Cond.lays "java/util/NoSuchElementException" "java/lang/Throwable" "stackTrace" "[Ljava/lang/StackTraceElement;") ∈ bp_WS := bp_mem ⟨sb_1240_in _ (List.mem_of_getElem? (i := 19) rfl), rfl⟩
theorem wx1260 : (Jvm.Cond.lays "java/util/NoSuchElementException" "java/lang/Throwable" "suppressedExceptions" "Ljava/util/List;") ∈ bp_WS := bp_mem ⟨sb_1240_in _ (List.mem_of_getElem? (i := 20) rfl), rfl⟩
theorem wx1261 : (Jvm.Cond.lays "java/util/NoSuchElementException" "java/lang/Throwable" "detailMessage" "Ljava/lang/String;") ∈ bp_WS := bp_mem ⟨sb_1240_in _ (List.mem_of_getElem? (i := 21) rfl), rfl⟩
theorem wx1262 : (Jvm.Cond.lays "java/util/NoSuchElementException" "java/lang/Throwable" "backtrace" "Ljava/lang/Object;") ∈ bp_WS := bp_mem ⟨sb_1240_in _ (List.mem_of_getElem? (i := 22) rfl), rfl⟩
theorem own_169 : ∀ w ∈ bp_oI "BracedPages" 169 "java/util/NoSuchElementException" 13 prog_27_method_4_code "java/lang/RuntimeException" ["java/lang/Exception"], w ∈ bp_WS ∨ w ∈ bp_OW := List.forall_mem_cons.mpr ⟨Or.inl wd101, List.forall_mem_cons.mpr ⟨Or.inl wd1124, List.forall_mem_cons.mpr ⟨Or.inl wd1133, List.forall_mem_cons.mpr ⟨Or.inl wd1138, List.forall_mem_cons.mpr ⟨Or.inl wd1141, List.forall_mem_cons.mpr ⟨Or.inl wd1143, List.forall_mem_cons.mpr ⟨Or.inl wd1125, List.forall_mem_cons.mpr ⟨Or.inl wd1126, List.forall_mem_cons.mpr ⟨Or.inl wd121, List.forall_mem_cons.mpr ⟨Or.inl wd122, List.forall_mem_cons.mpr ⟨Or.inl wd1127, List.forall_mem_cons.mpr ⟨Or.inl wd1132, List.forall_mem_cons.mpr ⟨Or.inl wd1139, List.forall_mem_cons.mpr ⟨Or.inl wx1159, List.forall_mem_cons.mpr ⟨Or.inl wx1114, List.forall_mem_cons.mpr ⟨Or.inl wx1160, List.forall_mem_cons.mpr ⟨Or.inl wx1116, List.forall_mem_cons.mpr ⟨Or.inl wx1161, List.forall_mem_cons.mpr ⟨Or.inl wx1118, List.forall_mem_cons.mpr ⟨Or.inl wx1128, List.forall_mem_cons.mpr ⟨Or.inr (List.mem_of_getElem? (i := 0) rfl), List.forall_mem_cons.mpr ⟨Or.inl wx1130, List.forall_mem_cons.mpr ⟨Or.inr (List.mem_of_getElem? (i := 1) rfl), List.forall_mem_cons.mpr ⟨Or.inl wx1120, List.forall_mem_cons.mpr ⟨Or.inl wd1155, List.forall_mem_cons.mpr ⟨Or.inl wd1156, List.forall_mem_cons.mpr ⟨Or.inl wx1158, List.forall_mem_cons.mpr ⟨Or.inl wx1120, List.forall_mem_cons.mpr ⟨Or.inl wd1265, List.forall_mem_cons.mpr ⟨Or.inl wd1266, List.forall_mem_cons.mpr ⟨Or.inl wd1267, List.forall_mem_cons.mpr ⟨Or.inl wd1149, List.forall_mem_cons.mpr ⟨Or.inl wd1106, List.forall_mem_cons.mpr ⟨Or.inl wd1149, List.forall_mem_cons.mpr ⟨Or.inl wd1150, List.forall_mem_cons.mpr ⟨Or.inl wd1151, List.forall_mem_cons.mpr ⟨Or.inl wd1152, List.forall_mem_cons.mpr ⟨Or.inl wd1108, List.forall_mem_cons.mpr ⟨Or.inl wd1152, List.forall_mem_cons.mpr ⟨Or.inl wd1153, List.forall_mem_cons.mpr ⟨Or.inl wd1154, List.forall_mem_cons.mpr ⟨Or.inl wd1155, List.forall_mem_cons.mpr ⟨Or.inl wd1110, List.forall_mem_cons.mpr ⟨Or.inl wd1264, List.forall_mem_cons.mpr ⟨Or.inl wd1255, List.forall_mem_cons.mpr ⟨Or.inl wd1257, List.forall_mem_cons.mpr ⟨Or.inl wd1137, List.forall_mem_cons.mpr ⟨Or.inr (List.mem_of_getElem? (i := 2) rfl), List.forall_mem_cons.mpr ⟨Or.inr (List.mem_of_getElem? (i := 3) rfl), List.forall_mem_cons.mpr ⟨Or.inl wx1123, List.forall_mem_cons.mpr ⟨Or.inl wx1122, List.forall_mem_cons.mpr ⟨Or.inl wx1258, List.forall_mem_cons.mpr ⟨Or.inl wx1259, List.forall_mem_cons.mpr ⟨Or.inl wx1260, List.forall_mem_cons.mpr ⟨Or.inl wx1261, List.forall_mem_cons.mpr ⟨Or.inl wx1262, fun _ h => absurd h List.not_mem_nil⟩⟩⟩⟩⟩⟩⟩⟩⟩⟩⟩⟩⟩⟩⟩⟩⟩⟩⟩⟩⟩⟩⟩⟩⟩⟩⟩⟩⟩⟩⟩⟩⟩⟩⟩⟩⟩⟩⟩⟩⟩⟩⟩⟩⟩⟩⟩⟩⟩⟩⟩⟩⟩⟩⟩⟩
section XT2
variable {l : Launch} {G : bp_G} {H0 : Heap} {KP : bp_H × (Nat → Prop)} {Z : Nat → Nat} {C S : Nat} {h : bp_H} {aO na : Nat} {T xs : List Nat} {L : List (Nat × Nat)} {ps : List (Nat × Nat × Nat)} {me : Int32} {c s : Nat} {Q : Addr → bp_H → Nat → Nat → Prop}
set_option maxRecDepth 100000 in
set_option maxHeartbeats 4000000 in
theorem t_X_paragraph1 {x y : Int32} (htl : l.stackTraces = false) (hX0 : XI KP Z (C + 1) (S + 6) h aO na T xs L ps me (c + 1) (s + 6)) (ho : x < 0 ∨ nI ps.length ≤ x) (hQ : ∀ a, bp_K h a = 0 → XI KP Z C S (bp_new h a 19 0) aO na T xs L ps me c s → Q a (bp_new h a 19 0) c s) : bp_AT l G H0 (6, 131, true, false) M_X_paragraph h (c + 1) (s + 6) [.ref (Z 43), .int x, .int y] Q := by
  refine bp_ofT (ls := [some (.ref (Z 43)), some (.int x), some (.int y)]) (by decide) dt_X_paragraph (Nat.le_of_ble_eq_true rfl) (fun q hq => hq) ?_
  refine bp_aload_n (q := 1) 0 rfl rfl rfl rfl ?_
  refine bp_getR (x := zP Z 0) (q := 4) (ci := 0) (j := 2) 1 rfl rfl fl_X_24_0 hX0.2.1.1 rfl hX0.2.1.2.2.2.1 ?_
  refine bp_iload_n (q := 5) 2 rfl rfl rfl rfl ?_
  refine bp_callV (q := 8) (ci := 2) 3 rfl rfl cw_Page_has lk_X_162 rfl hX0.2.2.2.2.2.1.1 wd808 wd809 rfl rfl (Nat.le_of_ble_eq_true rfl) ⟨Nat.le_of_ble_eq_true rfl, Nat.le_of_ble_eq_true rfl⟩ (s_Page_has (ro := true) hX0.2.2.2.2.2.1 ?_)
  refine bp_if_ne (q := 11) (tgt := 21) 4 rfl rfl (by decide) (fun z8 => ?_) (fun z8 => ?_)
  · rw [if_pos ho] at z8
    exact absurd rfl z8
  · exact bp_throwI (ci := 13) (i := 62) (names := ["java/lang/Exception"]) (i0 := 13) (b0 := prog_27_method_4_code) (Y := "java/lang/RuntimeException") (by decide +kernel) (by decide +kernel) (by decide +kernel) (by decide +kernel) (by decide +kernel) htl 5 rfl rfl rfl rfl rfl nw_X_165 rfl rfl hs62 rfl rfl (by decide +kernel) (by decide +kernel) own_169 (Nat.le_of_ble_eq_true rfl) (Nat.le_of_ble_eq_true rfl) (Nat.le_of_ble_eq_true rfl) rfl (by decide +kernel) (fun a ha => ⟨a, rfl, hQ a ha (hX0.new ha)⟩)
set_option maxRecDepth 100000 in
set_option maxHeartbeats 4000000 in
theorem t_X_run1 {x r y : Int32} {st en : Nat} (htl : l.stackTraces = false) (hX0 : XI KP Z (C + 1) (S + 6) h aO na T xs L ps me (c + 1) (s + 6)) (okp : okP L ps) (hst : p_st ps x = nI st) (hen : p_en ps x = nI en) (hel : en ≤ (lkL L).length) (hbk : st < 1000000) (hf : fro (lkL L) st r (en - st) st 0 = -1) (hQ : ∀ a, bp_K h a = 0 → XI KP Z C S (bp_new h a 19 0) aO na T xs L ps me c s → Q a (bp_new h a 19 0) c s) : bp_AT l G H0 (6, 131, true, false) M_X_run h (c + 1) (s + 6) [.ref (Z 43), .int x, .int r, .int y] Q := by
  refine bp_ofT (ls := [some (.ref (Z 43)), some (.int x), some (.int r), some (.int y), none]) (by decide) dt_X_run (Nat.le_of_ble_eq_true rfl) (fun q hq => hq) ?_
  refine bp_aload_n (q := 1) 0 rfl rfl rfl rfl ?_
  refine bp_getR (x := zP Z 0) (q := 4) (ci := 0) (j := 2) 1 rfl rfl fl_X_24_0 hX0.2.1.1 rfl hX0.2.1.2.2.2.1 ?_
  refine bp_iload_n (q := 5) 2 rfl rfl rfl rfl ?_
  refine bp_iload_n (q := 6) 3 rfl rfl rfl rfl ?_
  refine bp_callV (q := 9) (ci := 2) 4 rfl rfl cw_Page_firstOfRun lk_X_184 rfl hX0.2.2.2.2.2.1.1 wd1283 wd1284 rfl rfl (Nat.le_of_ble_eq_true rfl) ⟨Nat.le_of_ble_eq_true rfl, Nat.le_of_ble_eq_true rfl⟩ (s_Page_firstOfRun (ro := true) okp.lkB hst hen hel hX0.2.2.2.2.2.1 hbk ?_)
  rw [hf]
  refine bp_istore (q := 11) 5 rfl rfl (by decide) (bp_up4 rfl) ?_
  refine bp_iload (q := 13) 6 rfl rfl rfl ?_
  refine bp_iconst (v := -1) (q := 14) 7 rfl rfl (by decide) ?_
  refine bp_icmp_ne (q := 17) (tgt := 27) 8 rfl rfl (by decide) (fun z14 => ?_) (fun z14 => ?_)
  · exact absurd rfl z14
  · exact bp_throwI (ci := 13) (i := 64) (names := ["java/lang/Exception"]) (i0 := 13) (b0 := prog_27_method_4_code) (Y := "java/lang/RuntimeException") (by decide +kernel) (by decide +kernel) (by decide +kernel) (by decide +kernel) (by decide +kernel) htl 9 rfl rfl rfl rfl rfl nw_X_165 rfl rfl hs64 rfl rfl (by decide +kernel) (by decide +kernel) own_169 (Nat.le_of_ble_eq_true rfl) (Nat.le_of_ble_eq_true rfl) (Nat.le_of_ble_eq_true rfl) rfl (by decide +kernel) (fun a ha => ⟨a, rfl, hQ a ha (hX0.new ha)⟩)
set_option maxRecDepth 100000 in
set_option maxHeartbeats 4000000 in
theorem t_X_letter {x y : Int32} {st en : Nat} (htl : l.stackTraces = false) (hX0 : XI KP Z (C + 1) (S + 6) h aO na T xs L ps me (c + 1) (s + 6)) (hst : p_st ps x = nI st) (hen : p_en ps x = nI en) (hb : (x < 0 ∨ nI ps.length ≤ x) ∨ wi y 0 (nI en - nI st - 1) = false) (hQ : ∀ a, bp_K h a = 0 → XI KP Z C S (bp_new h a 19 0) aO na T xs L ps me c s → Q a (bp_new h a 19 0) c s) : bp_AT l G H0 (6, 131, true, false) M_X_letter h (c + 1) (s + 6) [.ref (Z 43), .int x, .int y] Q := by
  refine bp_ofT (ls := [some (.ref (Z 43)), some (.int x), some (.int y)]) (by decide) dt_X_letter (Nat.le_of_ble_eq_true rfl) (fun q hq => hq) ?_
  refine bp_aload_n (q := 1) 0 rfl rfl rfl rfl ?_
  refine bp_getR (x := zP Z 0) (q := 4) (ci := 0) (j := 2) 1 rfl rfl fl_X_24_0 hX0.2.1.1 rfl hX0.2.1.2.2.2.1 ?_
  refine bp_iload_n (q := 5) 2 rfl rfl rfl rfl ?_
  refine bp_callV (q := 8) (ci := 2) 3 rfl rfl cw_Page_has lk_X_162 rfl hX0.2.2.2.2.2.1.1 wd808 wd809 rfl rfl (Nat.le_of_ble_eq_true rfl) ⟨Nat.le_of_ble_eq_true rfl, Nat.le_of_ble_eq_true rfl⟩ (s_Page_has (ro := true) hX0.2.2.2.2.2.1 ?_)
  refine bp_if_eq (q := 11) (tgt := 38) 4 rfl rfl (by decide) (fun z8 => ?_) (fun z8 => ?_)
  · exact bp_throwI (ci := 13) (i := 66) (names := ["java/lang/Exception"]) (i0 := 13) (b0 := prog_27_method_4_code) (Y := "java/lang/RuntimeException") (by decide +kernel) (by decide +kernel) (by decide +kernel) (by decide +kernel) (by decide +kernel) htl 20 rfl rfl rfl rfl rfl nw_X_165 rfl rfl hs66 rfl rfl (by decide +kernel) (by decide +kernel) own_169 (Nat.le_of_ble_eq_true rfl) (Nat.le_of_ble_eq_true rfl) (Nat.le_of_ble_eq_true rfl) rfl (by decide +kernel) (fun a ha => ⟨a, rfl, hQ a ha (hX0.new ha)⟩)
  · refine bp_iload_n (q := 12) 5 rfl rfl rfl rfl ?_
    refine bp_iconst (v := 0) (q := 13) 6 rfl rfl (by decide) ?_
    refine bp_aload_n (q := 14) 7 rfl rfl rfl rfl ?_
    refine bp_getR (x := zP Z 0) (q := 17) (ci := 0) (j := 2) 8 rfl rfl fl_X_24_0 hX0.2.1.1 rfl hX0.2.1.2.2.2.1 ?_
    refine bp_iload_n (q := 18) 9 rfl rfl rfl rfl ?_
    refine bp_callV (q := 21) (ci := 2) 10 rfl rfl cw_Page_endOf lk_X_176 rfl hX0.2.2.2.2.2.1.1 wd804 wd805 rfl rfl (Nat.le_of_ble_eq_true rfl) ⟨Nat.le_of_ble_eq_true rfl, Nat.le_of_ble_eq_true rfl⟩ (s_Page_endN (ro := true) hen hX0.2.2.2.2.2.1 ?_)
    refine bp_aload_n (q := 22) 11 rfl rfl rfl rfl ?_
    refine bp_getR (x := zP Z 0) (q := 25) (ci := 0) (j := 2) 12 rfl rfl fl_X_24_0 hX0.2.1.1 rfl hX0.2.1.2.2.2.1 ?_
    refine bp_iload_n (q := 26) 13 rfl rfl rfl rfl ?_
    refine bp_callV (q := 29) (ci := 2) 14 rfl rfl cw_Page_startOf lk_X_179 rfl hX0.2.2.2.2.2.1.1 wd812 wd813 rfl rfl (Nat.le_of_ble_eq_true rfl) ⟨Nat.le_of_ble_eq_true rfl, Nat.le_of_ble_eq_true rfl⟩ (s_Page_startN (ro := true) hst hX0.2.2.2.2.2.1 ?_)
    refine bp_isub (q := 30) 15 rfl rfl ?_
    refine bp_iconst (v := 1) (q := 31) 16 rfl rfl (by decide) ?_
    refine bp_isub (q := 32) 17 rfl rfl ?_
    refine bp_callS (q := 35) 18 rfl rfl cw_X_isWithin lk_X_119 wd653 rfl rfl (Nat.le_of_ble_eq_true rfl) ⟨Nat.le_of_ble_eq_true rfl, Nat.le_of_ble_eq_true rfl⟩ (s_X_isWithin (ro := true) ?_)
    refine bp_if_ne (q := 38) (tgt := 48) 19 rfl rfl (by decide) (fun z35 => ?_) (fun z35 => ?_)
    · rcases hb with q | q
      · rw [if_pos q] at z8; exact absurd rfl z8
      · exact absurd (q.symm.trans (bI1 z35)) (by decide)
    · exact bp_throwI (ci := 13) (i := 66) (names := ["java/lang/Exception"]) (i0 := 13) (b0 := prog_27_method_4_code) (Y := "java/lang/RuntimeException") (by decide +kernel) (by decide +kernel) (by decide +kernel) (by decide +kernel) (by decide +kernel) htl 20 rfl rfl rfl rfl rfl nw_X_165 rfl rfl hs66 rfl rfl (by decide +kernel) (by decide +kernel) own_169 (Nat.le_of_ble_eq_true rfl) (Nat.le_of_ble_eq_true rfl) (Nat.le_of_ble_eq_true rfl) rfl (by decide +kernel) (fun a ha => ⟨a, rfl, hQ a ha (hX0.new ha)⟩)
end XT2
