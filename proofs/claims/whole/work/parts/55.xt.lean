/-! the class's own methods where they throw -/
theorem XI.new {KP : bp_H × (Nat → Prop)} {Z : Nat → Nat} {C S : Nat} {h : bp_H} {aO na a k n : Nat} {T xs : List Nat} {L : List (Nat × Nat)} {ps : List (Nat × Nat × Nat)} {me : Int32} {c s : Nat} (H : XI KP Z (C + 1) (S + 6) h aO na T xs L ps me (c + 1) (s + 6)) (ha : bp_K h a = 0) : XI KP Z C S (bp_new h a k n) aO na T xs L ps me c s := by
  have hk := H.kz
  have sm : ∀ y, bp_K h y ≠ 0 → bp_sm h (bp_new h a k n) y := fun y hy => bp_sm.new (fun e => hy (e ▸ ha))
  have eO := sm aO H.kO
  have eN := sm na H.kN
  have st := H.stay (h' := bp_new h a k n) (fun _ => false) (fun i hi i1 i2 _ => sm _ (hk i hi i1 i2))
  have rm := H.2.2.2.2.2.2.2.2.2.2.2.1.sm eO eN
  refine ⟨H.1, st.1 rfl, (st.2.1 rfl rfl).1, (st.2.1 rfl rfl).2, st.2.2.1 rfl eO, st.2.2.2.1 (fun _ _ => rfl), st.2.2.2.2.1 (fun _ _ => rfl), st.2.2.2.2.2.1 (fun _ _ _ _ => rfl) eN, st.2.2.2.2.2.2.1 rfl, st.2.2.2.2.2.2.2.1 rfl rfl, st.2.2.2.2.2.2.2.2 rfl, ?_, H.2.2.2.2.2.2.2.2.2.2.2.2.fr (F := fun _ => False) (fun b hb _ => sm b hb) (fun _ _ _ _ z => z) (Or.inl rfl) (Or.inl rfl)⟩
  unfold xRm at *
  omega
theorem XI.less {KP : bp_H × (Nat → Prop)} {Z : Nat → Nat} {C S C' S' : Nat} {h : bp_H} {aO na : Nat} {T xs : List Nat} {L : List (Nat × Nat)} {ps : List (Nat × Nat × Nat)} {me : Int32} {c s : Nat} (H : XI KP Z C S h aO na T xs L ps me c s) (h1 : C' ≤ C) (h2 : S' ≤ S) : XI KP Z C' S' h aO na T xs L ps me c s := by
  refine ⟨H.1, H.2.1, H.2.2.1, H.2.2.2.1, H.2.2.2.2.1, H.2.2.2.2.2.1, H.2.2.2.2.2.2.1, H.2.2.2.2.2.2.2.1, H.2.2.2.2.2.2.2.2.1, H.2.2.2.2.2.2.2.2.2.1, H.2.2.2.2.2.2.2.2.2.2.1, ?_, H.2.2.2.2.2.2.2.2.2.2.2.2⟩
  have rm := H.2.2.2.2.2.2.2.2.2.2.2.1
  unfold xRm at *
  omega
section XT
variable {l : Launch} {G : bp_G} {H0 : Heap} {KP : bp_H × (Nat → Prop)} {Z : Nat → Nat} {C S : Nat} {h : bp_H} {aO na : Nat} {T xs : List Nat} {L : List (Nat × Nat)} {ps : List (Nat × Nat × Nat)} {me : Int32} {c s : Nat} {Q : Addr → bp_H → Nat → Nat → Prop}
set_option maxRecDepth 100000 in
set_option maxHeartbeats 4000000 in
theorem t_X_take  (htl : l.stackTraces = false) (hX0 : XI KP Z (C + 1) (S + 6) h aO na T xs L ps me (c + 1) (s + 6)) (hl : 400 < xs.length) (hQ : ∀ a, bp_K h a = 0 → XI KP Z C S (bp_new h a 17 0) aO na T xs L ps me c s → Q a (bp_new h a 17 0) c s) : bp_AT l G H0 (6, 131, true, false) M_X_take h (c + 1) (s + 6) [.ref (Z 43)] Q := by
  refine bp_ofT (ls := [some (.ref (Z 43))]) (by decide) dt_X_take (Nat.le_of_ble_eq_true rfl) (fun q hq => hq) ?_
  have hx : xs.length < 1000000 := hX0.2.2.2.2.1.len
  refine bp_aload_n (q := 1) 0 rfl rfl rfl rfl ?_
  refine bp_getR (x := Z 40) (q := 4) (ci := 0) (j := 1) 1 rfl rfl fl_X_18_0 hX0.2.1.1 rfl hX0.2.1.2.2.1 ?_
  refine bp_callV (q := 7) (ci := 1) 2 rfl rfl cw_Row_size lk_X_80 rfl hX0.2.2.2.2.1.1 wd455 wd456 rfl rfl (Nat.le_of_ble_eq_true rfl) ⟨Nat.le_of_ble_eq_true rfl, Nat.le_of_ble_eq_true rfl⟩ (s_Row_size (ro := true) hX0.2.2.2.2.1 ?_)
  refine bp_sipush (v := 400) (q := 10) 3 rfl rfl (by decide) ?_
  refine bp_icmp_le (q := 13) (tgt := 23) 4 rfl rfl (by decide) (fun z10 => ?_) (fun z10 => ?_)
  · exact absurd ((nI_le_iff (b := 400) hx (by decide)).mp z10) (by omega)
  · exact bp_throw (ci := 11) (i := 56) (names := ["java/lang/RuntimeException", "java/lang/Exception"]) htl 5 rfl rfl rfl rfl rfl nw_X_84 rfl rfl hs56 rfl rfl (by decide +kernel) (by decide +kernel) own_88 (Nat.le_of_ble_eq_true rfl) (Nat.le_of_ble_eq_true rfl) (Nat.le_of_ble_eq_true rfl) rfl (by decide +kernel) (fun a ha => ⟨a, rfl, hQ a ha (hX0.new ha)⟩)
set_option maxRecDepth 100000 in
set_option maxHeartbeats 4000000 in
theorem t_X_begin1 {x y : Int32} (htl : l.stackTraces = false) (hX0 : XI KP Z (C + 1) (S + 6) h aO na T xs L ps me (c + 1) (s + 6)) (hb : ¬ (wi x 0 2 = true ∧ wi y 0 9 = true)) (hQ : ∀ a, bp_K h a = 0 → XI KP Z C S (bp_new h a 16 0) aO na T xs L ps me c s → Q a (bp_new h a 16 0) c s) : bp_AT l G H0 (6, 131, true, false) M_X_begin h (c + 1) (s + 6) [.ref (Z 43), .int x, .int y] Q := by
  refine bp_ofT (ls := [some (.ref (Z 43)), some (.int x), some (.int y)]) (by decide) dt_X_begin (Nat.le_of_ble_eq_true rfl) (fun q hq => hq) ?_
  refine bp_iload_n (q := 1) 0 rfl rfl rfl rfl ?_
  refine bp_iconst (v := 0) (q := 2) 1 rfl rfl (by decide) ?_
  refine bp_iconst (v := 2) (q := 3) 2 rfl rfl (by decide) ?_
  refine bp_callS (q := 6) 3 rfl rfl cw_X_isWithin lk_X_119 wd653 rfl rfl (Nat.le_of_ble_eq_true rfl) ⟨Nat.le_of_ble_eq_true rfl, Nat.le_of_ble_eq_true rfl⟩ (s_X_isWithin (ro := true) ?_)
  refine bp_if_eq (q := 9) (tgt := 19) 4 rfl rfl (by decide) (fun z6 => ?_) (fun z6 => ?_)
  · exact bp_throw (ci := 10) (i := 57) (names := ["java/lang/RuntimeException", "java/lang/Exception"]) htl 10 rfl rfl rfl rfl rfl nw_X_73 rfl rfl hs57 rfl rfl (by decide +kernel) (by decide +kernel) own_77 (Nat.le_of_ble_eq_true rfl) (Nat.le_of_ble_eq_true rfl) (Nat.le_of_ble_eq_true rfl) rfl (by decide +kernel) (fun a ha => ⟨a, rfl, hQ a ha (hX0.new ha)⟩)
  · refine bp_iload_n (q := 10) 5 rfl rfl rfl rfl ?_
    refine bp_iconst (v := 0) (q := 11) 6 rfl rfl (by decide) ?_
    refine bp_bipush (v := 9) (q := 13) 7 rfl rfl (by decide) ?_
    refine bp_callS (q := 16) 8 rfl rfl cw_X_isWithin lk_X_119 wd653 rfl rfl (Nat.le_of_ble_eq_true rfl) ⟨Nat.le_of_ble_eq_true rfl, Nat.le_of_ble_eq_true rfl⟩ (s_X_isWithin (ro := true) ?_)
    refine bp_if_ne (q := 19) (tgt := 29) 9 rfl rfl (by decide) (fun z16 => ?_) (fun z16 => ?_)
    · exact absurd ⟨bI1 z6, bI1 z16⟩ hb
    · exact bp_throw (ci := 10) (i := 57) (names := ["java/lang/RuntimeException", "java/lang/Exception"]) htl 10 rfl rfl rfl rfl rfl nw_X_73 rfl rfl hs57 rfl rfl (by decide +kernel) (by decide +kernel) own_77 (Nat.le_of_ble_eq_true rfl) (Nat.le_of_ble_eq_true rfl) (Nat.le_of_ble_eq_true rfl) rfl (by decide +kernel) (fun a ha => ⟨a, rfl, hQ a ha (hX0.new ha)⟩)
set_option maxRecDepth 100000 in
set_option maxHeartbeats 4000000 in
theorem t_X_begin2 {x y : Int32} (htl : l.stackTraces = false) (hX0 : XI KP Z (C + 1) (S + 6) h aO na T xs L ps me (c + 1) (s + 6)) (hb : wi x 0 2 = true ∧ wi y 0 9 = true) (hf : 16 ≤ ps.length) (hQ : ∀ a, bp_K h a = 0 → XI KP Z C S (bp_new h a 17 0) aO na T xs L ps me c s → Q a (bp_new h a 17 0) c s) : bp_AT l G H0 (6, 131, true, false) M_X_begin h (c + 1) (s + 6) [.ref (Z 43), .int x, .int y] Q := by
  refine bp_ofT (ls := [some (.ref (Z 43)), some (.int x), some (.int y)]) (by decide) dt_X_begin (Nat.le_of_ble_eq_true rfl) (fun q hq => hq) ?_
  refine bp_iload_n (q := 1) 0 rfl rfl rfl rfl ?_
  refine bp_iconst (v := 0) (q := 2) 1 rfl rfl (by decide) ?_
  refine bp_iconst (v := 2) (q := 3) 2 rfl rfl (by decide) ?_
  refine bp_callS (q := 6) 3 rfl rfl cw_X_isWithin lk_X_119 wd653 rfl rfl (Nat.le_of_ble_eq_true rfl) ⟨Nat.le_of_ble_eq_true rfl, Nat.le_of_ble_eq_true rfl⟩ (s_X_isWithin (ro := true) ?_)
  refine bp_if_eq (q := 9) (tgt := 19) 4 rfl rfl (by decide) (fun z6 => ?_) (fun z6 => ?_)
  · exact absurd (hb.1.symm.trans (bI0.mp z6)) (by decide)
  · refine bp_iload_n (q := 10) 5 rfl rfl rfl rfl ?_
    refine bp_iconst (v := 0) (q := 11) 6 rfl rfl (by decide) ?_
    refine bp_bipush (v := 9) (q := 13) 7 rfl rfl (by decide) ?_
    refine bp_callS (q := 16) 8 rfl rfl cw_X_isWithin lk_X_119 wd653 rfl rfl (Nat.le_of_ble_eq_true rfl) ⟨Nat.le_of_ble_eq_true rfl, Nat.le_of_ble_eq_true rfl⟩ (s_X_isWithin (ro := true) ?_)
    refine bp_if_ne (q := 19) (tgt := 29) 9 rfl rfl (by decide) (fun z16 => ?_) (fun z16 => ?_)
    · refine bp_aload_n (q := 30) 15 rfl rfl rfl rfl ?_
      refine bp_getR (x := zP Z 0) (q := 33) (ci := 0) (j := 2) 16 rfl rfl fl_X_24_0 hX0.2.1.1 rfl hX0.2.1.2.2.2.1 ?_
      refine bp_callV (q := 36) (ci := 2) 17 rfl rfl cw_Page_isFull lk_X_125 rfl hX0.2.2.2.2.2.1.1 wd678 wd679 rfl rfl (Nat.le_of_ble_eq_true rfl) ⟨Nat.le_of_ble_eq_true rfl, Nat.le_of_ble_eq_true rfl⟩ (s_Page_isFull (ro := true) hX0.2.2.2.2.2.1 ?_)
      refine bp_if_eq (q := 39) (tgt := 49) 18 rfl rfl (by decide) (fun z36 => ?_) (fun z36 => ?_)
      · rw [if_pos hf] at z36
        exact absurd z36 (by decide)
      · exact bp_throw (ci := 11) (i := 58) (names := ["java/lang/RuntimeException", "java/lang/Exception"]) htl 19 rfl rfl rfl rfl rfl nw_X_84 rfl rfl hs58 rfl rfl (by decide +kernel) (by decide +kernel) own_88 (Nat.le_of_ble_eq_true rfl) (Nat.le_of_ble_eq_true rfl) (Nat.le_of_ble_eq_true rfl) rfl (by decide +kernel) (fun a ha => ⟨a, rfl, hQ a ha (hX0.new ha)⟩)
    · exact absurd (hb.2.symm.trans (bI0.mp z16)) (by decide)
set_option maxRecDepth 100000 in
set_option maxHeartbeats 4000000 in
theorem t_X_add1 {u x y z : Int32} (htl : l.stackTraces = false) (hX0 : XI KP Z (C + 1) (S + 6) h aO na T xs L ps me (c + 1) (s + 6)) (hp : ps = []) (hQ : ∀ a, bp_K h a = 0 → XI KP Z C S (bp_new h a 18 0) aO na T xs L ps me c s → Q a (bp_new h a 18 0) c s) : bp_AT l G H0 (6, 131, true, false) M_X_add h (c + 1) (s + 6) [.ref (Z 43), .int u, .int x, .int y, .int z] Q := by
  refine bp_ofT (ls := [some (.ref (Z 43)), some (.int u), some (.int x), some (.int y), some (.int z)]) (by decide) dt_X_add (Nat.le_of_ble_eq_true rfl) (fun q hq => hq) ?_
  refine bp_aload_n (q := 1) 0 rfl rfl rfl rfl ?_
  refine bp_getR (x := zP Z 0) (q := 4) (ci := 0) (j := 2) 1 rfl rfl fl_X_24_0 hX0.2.1.1 rfl hX0.2.1.2.2.2.1 ?_
  refine bp_callV (q := 7) (ci := 2) 2 rfl rfl cw_Page_size lk_X_135 rfl hX0.2.2.2.2.2.1.1 wd865 wd866 rfl rfl (Nat.le_of_ble_eq_true rfl) ⟨Nat.le_of_ble_eq_true rfl, Nat.le_of_ble_eq_true rfl⟩ (s_Page_size (ro := true) hX0.2.2.2.2.2.1 ?_)
  refine bp_if_ne (q := 10) (tgt := 20) 3 rfl rfl (by decide) (fun z7 => ?_) (fun z7 => ?_)
  · exact absurd (by rw [hp]; rfl) z7
  · exact bp_throw (ci := 12) (i := 59) (names := ["java/lang/RuntimeException", "java/lang/Exception"]) htl 4 rfl rfl rfl rfl rfl nw_X_136 rfl rfl hs59 rfl rfl (by decide +kernel) (by decide +kernel) own_140 (Nat.le_of_ble_eq_true rfl) (Nat.le_of_ble_eq_true rfl) (Nat.le_of_ble_eq_true rfl) rfl (by decide +kernel) (fun a ha => ⟨a, rfl, hQ a ha (hX0.new ha)⟩)
set_option maxRecDepth 100000 in
set_option maxHeartbeats 4000000 in
theorem t_X_add2 {u x y z : Int32} (htl : l.stackTraces = false) (hX0 : XI KP Z (C + 1) (S + 6) h aO na T xs L ps me (c + 1) (s + 6)) (hp : ps ≠ []) (hb : ¬ (wi u 32 255 = true ∧ (wi x 0 7 && (wi y 1 99 && wi z 0 7)) = true)) (hQ : ∀ a, bp_K h a = 0 → XI KP Z C S (bp_new h a 16 0) aO na T xs L ps me c s → Q a (bp_new h a 16 0) c s) : bp_AT l G H0 (6, 131, true, false) M_X_add h (c + 1) (s + 6) [.ref (Z 43), .int u, .int x, .int y, .int z] Q := by
  refine bp_ofT (ls := [some (.ref (Z 43)), some (.int u), some (.int x), some (.int y), some (.int z)]) (by decide) dt_X_add (Nat.le_of_ble_eq_true rfl) (fun q hq => hq) ?_
  refine bp_aload_n (q := 1) 0 rfl rfl rfl rfl ?_
  refine bp_getR (x := zP Z 0) (q := 4) (ci := 0) (j := 2) 1 rfl rfl fl_X_24_0 hX0.2.1.1 rfl hX0.2.1.2.2.2.1 ?_
  refine bp_callV (q := 7) (ci := 2) 2 rfl rfl cw_Page_size lk_X_135 rfl hX0.2.2.2.2.2.1.1 wd865 wd866 rfl rfl (Nat.le_of_ble_eq_true rfl) ⟨Nat.le_of_ble_eq_true rfl, Nat.le_of_ble_eq_true rfl⟩ (s_Page_size (ro := true) hX0.2.2.2.2.2.1 ?_)
  refine bp_if_ne (q := 10) (tgt := 20) 3 rfl rfl (by decide) (fun z7 => ?_) (fun z7 => ?_)
  · refine bp_iload_n (q := 21) 9 rfl rfl rfl rfl ?_
    refine bp_bipush (v := 32) (q := 23) 10 rfl rfl (by decide) ?_
    refine bp_sipush (v := 255) (q := 26) 11 rfl rfl (by decide) ?_
    refine bp_callS (q := 29) 12 rfl rfl cw_X_isWithin lk_X_119 wd653 rfl rfl (Nat.le_of_ble_eq_true rfl) ⟨Nat.le_of_ble_eq_true rfl, Nat.le_of_ble_eq_true rfl⟩ (s_X_isWithin (ro := true) ?_)
    refine bp_if_eq (q := 32) (tgt := 42) 13 rfl rfl (by decide) (fun z29 => ?_) (fun z29 => ?_)
    · exact bp_throw (ci := 10) (i := 60) (names := ["java/lang/RuntimeException", "java/lang/Exception"]) htl 19 rfl rfl rfl rfl rfl nw_X_73 rfl rfl hs60 rfl rfl (by decide +kernel) (by decide +kernel) own_77 (Nat.le_of_ble_eq_true rfl) (Nat.le_of_ble_eq_true rfl) (Nat.le_of_ble_eq_true rfl) rfl (by decide +kernel) (fun a ha => ⟨a, rfl, hQ a ha (hX0.new ha)⟩)
    · refine bp_iload_n (q := 33) 14 rfl rfl rfl rfl ?_
      refine bp_iload_n (q := 34) 15 rfl rfl rfl rfl ?_
      refine bp_iload (q := 36) 16 rfl rfl rfl ?_
      refine bp_callS (q := 39) 17 rfl rfl cw_X_isLook lk_X_141 wd1233 rfl rfl (Nat.le_of_ble_eq_true rfl) ⟨Nat.le_of_ble_eq_true rfl, Nat.le_of_ble_eq_true rfl⟩ (s_X_isLook (ro := true) ?_)
      refine bp_if_ne (q := 42) (tgt := 52) 18 rfl rfl (by decide) (fun z39 => ?_) (fun z39 => ?_)
      · exact absurd ⟨bI1 z29, bI1 z39⟩ hb
      · exact bp_throw (ci := 10) (i := 60) (names := ["java/lang/RuntimeException", "java/lang/Exception"]) htl 19 rfl rfl rfl rfl rfl nw_X_73 rfl rfl hs60 rfl rfl (by decide +kernel) (by decide +kernel) own_77 (Nat.le_of_ble_eq_true rfl) (Nat.le_of_ble_eq_true rfl) (Nat.le_of_ble_eq_true rfl) rfl (by decide +kernel) (fun a ha => ⟨a, rfl, hQ a ha (hX0.new ha)⟩)
  · exact absurd ((nI_eq_iff (b := 0) (by have := hX0.2.2.2.2.2.1.2.2.2.2.2.2.2.2.2.2.1; omega) (by decide)).mp z7) (fun e => hp (List.eq_nil_of_length_eq_zero e))
set_option maxRecDepth 100000 in
set_option maxHeartbeats 4000000 in
theorem t_X_add3 {u x y z : Int32} (htl : l.stackTraces = false) (hX0 : XI KP Z (C + 1) (S + 6) h aO na T xs L ps me (c + 1) (s + 6)) (hp : ps ≠ []) (hb : wi u 32 255 = true ∧ (wi x 0 7 && (wi y 1 99 && wi z 0 7)) = true) (hl : 400 ≤ L.length) (hQ : ∀ a, bp_K h a = 0 → XI KP Z C S (bp_new h a 17 0) aO na T xs L ps me c s → Q a (bp_new h a 17 0) c s) : bp_AT l G H0 (6, 131, true, false) M_X_add h (c + 1) (s + 6) [.ref (Z 43), .int u, .int x, .int y, .int z] Q := by
  refine bp_ofT (ls := [some (.ref (Z 43)), some (.int u), some (.int x), some (.int y), some (.int z)]) (by decide) dt_X_add (Nat.le_of_ble_eq_true rfl) (fun q hq => hq) ?_
  refine bp_aload_n (q := 1) 0 rfl rfl rfl rfl ?_
  refine bp_getR (x := zP Z 0) (q := 4) (ci := 0) (j := 2) 1 rfl rfl fl_X_24_0 hX0.2.1.1 rfl hX0.2.1.2.2.2.1 ?_
  refine bp_callV (q := 7) (ci := 2) 2 rfl rfl cw_Page_size lk_X_135 rfl hX0.2.2.2.2.2.1.1 wd865 wd866 rfl rfl (Nat.le_of_ble_eq_true rfl) ⟨Nat.le_of_ble_eq_true rfl, Nat.le_of_ble_eq_true rfl⟩ (s_Page_size (ro := true) hX0.2.2.2.2.2.1 ?_)
  refine bp_if_ne (q := 10) (tgt := 20) 3 rfl rfl (by decide) (fun z7 => ?_) (fun z7 => ?_)
  · refine bp_iload_n (q := 21) 9 rfl rfl rfl rfl ?_
    refine bp_bipush (v := 32) (q := 23) 10 rfl rfl (by decide) ?_
    refine bp_sipush (v := 255) (q := 26) 11 rfl rfl (by decide) ?_
    refine bp_callS (q := 29) 12 rfl rfl cw_X_isWithin lk_X_119 wd653 rfl rfl (Nat.le_of_ble_eq_true rfl) ⟨Nat.le_of_ble_eq_true rfl, Nat.le_of_ble_eq_true rfl⟩ (s_X_isWithin (ro := true) ?_)
    refine bp_if_eq (q := 32) (tgt := 42) 13 rfl rfl (by decide) (fun z29 => ?_) (fun z29 => ?_)
    · exact absurd (hb.1.symm.trans (bI0.mp z29)) (by decide)
    · refine bp_iload_n (q := 33) 14 rfl rfl rfl rfl ?_
      refine bp_iload_n (q := 34) 15 rfl rfl rfl rfl ?_
      refine bp_iload (q := 36) 16 rfl rfl rfl ?_
      refine bp_callS (q := 39) 17 rfl rfl cw_X_isLook lk_X_141 wd1233 rfl rfl (Nat.le_of_ble_eq_true rfl) ⟨Nat.le_of_ble_eq_true rfl, Nat.le_of_ble_eq_true rfl⟩ (s_X_isLook (ro := true) ?_)
      refine bp_if_ne (q := 42) (tgt := 52) 18 rfl rfl (by decide) (fun z39 => ?_) (fun z39 => ?_)
      · refine bp_aload_n (q := 53) 24 rfl rfl rfl rfl ?_
        refine bp_getR (x := zP Z 0) (q := 56) (ci := 0) (j := 2) 25 rfl rfl fl_X_24_0 hX0.2.1.1 rfl hX0.2.1.2.2.2.1 ?_
        refine bp_callV (q := 59) (ci := 2) 26 rfl rfl cw_Page_letters lk_X_146 rfl hX0.2.2.2.2.2.1.1 wd900 wd901 rfl rfl (Nat.le_of_ble_eq_true rfl) ⟨Nat.le_of_ble_eq_true rfl, Nat.le_of_ble_eq_true rfl⟩ (s_Page_letters (ro := true) hX0.2.2.2.2.2.1 ?_)
        refine bp_sipush (v := 400) (q := 62) 27 rfl rfl (by decide) ?_
        refine bp_icmp_lt (q := 65) (tgt := 75) 28 rfl rfl (by decide) (fun z62 => ?_) (fun z62 => ?_)
        · exact absurd z62 (nI_nlt (b := 400) hl (by have := hX0.2.2.2.2.2.1.2.2.2.2.2.2.2.2.2.2.2.2.1.len; rw [List.length_map] at this; omega))
        · exact bp_throw (ci := 11) (i := 61) (names := ["java/lang/RuntimeException", "java/lang/Exception"]) htl 29 rfl rfl rfl rfl rfl nw_X_84 rfl rfl hs61 rfl rfl (by decide +kernel) (by decide +kernel) own_88 (Nat.le_of_ble_eq_true rfl) (Nat.le_of_ble_eq_true rfl) (Nat.le_of_ble_eq_true rfl) rfl (by decide +kernel) (fun a ha => ⟨a, rfl, hQ a ha (hX0.new ha)⟩)
      · exact absurd (hb.2.symm.trans (bI0.mp z39)) (by decide)
  · exact absurd ((nI_eq_iff (b := 0) (by have := hX0.2.2.2.2.2.1.2.2.2.2.2.2.2.2.2.2.1; omega) (by decide)).mp z7) (fun e => hp (List.eq_nil_of_length_eq_zero e))
set_option maxRecDepth 100000 in
set_option maxHeartbeats 4000000 in
theorem t_X_paragraph2 {p : Nat} {x : Int32} (htl : l.stackTraces = false) (hX0 : XI KP Z (C + 1) (S + 6) h aO na T xs L ps me (c + 1) (s + 6)) (okp : okP L ps) (hp : p < ps.length) (hw : x.toInt < 0 ∨ 3 < x.toInt) (hQ : ∀ a, bp_K h a = 0 → XI KP Z C S (bp_new h a 16 0) aO na T xs L ps me c s → Q a (bp_new h a 16 0) c s) : bp_AT l G H0 (6, 131, true, false) M_X_paragraph h (c + 1) (s + 6) [.ref (Z 43), .int (nI p), .int x] Q := by
  refine bp_ofT (ls := [some (.ref (Z 43)), some (.int (nI p)), some (.int x)]) (by decide) dt_X_paragraph (Nat.le_of_ble_eq_true rfl) (fun q hq => hq) ?_
  have h16 := okp.2.1
  have hj := okp.2.2.1 p hp
  have hL4 := okp.1
  have hst := p_stN h16 hp
  have hen := p_enN h16 hp
  refine bp_aload_n (q := 1) 0 rfl rfl rfl rfl ?_
  refine bp_getR (x := zP Z 0) (q := 4) (ci := 0) (j := 2) 1 rfl rfl fl_X_24_0 hX0.2.1.1 rfl hX0.2.1.2.2.2.1 ?_
  refine bp_iload_n (q := 5) 2 rfl rfl rfl rfl ?_
  refine bp_callV (q := 8) (ci := 2) 3 rfl rfl cw_Page_has lk_X_162 rfl hX0.2.2.2.2.2.1.1 wd808 wd809 rfl rfl (Nat.le_of_ble_eq_true rfl) ⟨Nat.le_of_ble_eq_true rfl, Nat.le_of_ble_eq_true rfl⟩ (s_Page_has (ro := true) hX0.2.2.2.2.2.1 ?_)
  refine bp_if_ne (q := 11) (tgt := 21) 4 rfl rfl (by decide) (fun z8 => ?_) (fun z8 => ?_)
  · refine bp_iload_n (q := 22) 10 rfl rfl rfl rfl ?_
    refine bp_tsOut (tgt := 97) 11 rfl hw (by decide) ?_
    exact bp_throw (ci := 10) (i := 63) (names := ["java/lang/RuntimeException", "java/lang/Exception"]) htl 37 rfl rfl rfl rfl rfl nw_X_73 rfl rfl hs63 rfl rfl (by decide +kernel) (by decide +kernel) own_77 (Nat.le_of_ble_eq_true rfl) (Nat.le_of_ble_eq_true rfl) (Nat.le_of_ble_eq_true rfl) rfl (by decide +kernel) (fun a ha => ⟨a, rfl, hQ a ha (hX0.new ha)⟩)
  · rw [if_neg (fun q => q.elim (nI_pos (by omega)) (nI_ge hp (by omega)))] at z8
    exact absurd z8 (by decide)
set_option maxRecDepth 100000 in
set_option maxHeartbeats 4000000 in
theorem t_X_run2 {p f : Nat} {r x : Int32} (htl : l.stackTraces = false) (hX0 : XI KP Z (C + 1) (S + 6) h aO na T xs L ps me (c + 1) (s + 6)) (okp : okP L ps) (hp : p < ps.length) (hw : x.toInt < 0 ∨ 3 < x.toInt) (hf : fro (lkL L) (pst ps p) r (p_e ps p - pst ps p) (pst ps p) 0 = nI f) (hfe : f < p_e ps p) (hQ : ∀ a, bp_K h a = 0 → XI KP Z C S (bp_new h a 16 0) aO na T xs L ps me c s → Q a (bp_new h a 16 0) c s) : bp_AT l G H0 (6, 131, true, false) M_X_run h (c + 1) (s + 6) [.ref (Z 43), .int (nI p), .int r, .int x] Q := by
  refine bp_ofT (ls := [some (.ref (Z 43)), some (.int (nI p)), some (.int r), some (.int x), none]) (by decide) dt_X_run (Nat.le_of_ble_eq_true rfl) (fun q hq => hq) ?_
  have h16 := okp.2.1
  have hj := okp.2.2.1 p hp
  have hL4 := okp.1
  have hst := p_stN h16 hp
  have hen := p_enN h16 hp
  refine bp_aload_n (q := 1) 0 rfl rfl rfl rfl ?_
  refine bp_getR (x := zP Z 0) (q := 4) (ci := 0) (j := 2) 1 rfl rfl fl_X_24_0 hX0.2.1.1 rfl hX0.2.1.2.2.2.1 ?_
  refine bp_iload_n (q := 5) 2 rfl rfl rfl rfl ?_
  refine bp_iload_n (q := 6) 3 rfl rfl rfl rfl ?_
  refine bp_callV (q := 9) (ci := 2) 4 rfl rfl cw_Page_firstOfRun lk_X_184 rfl hX0.2.2.2.2.2.1.1 wd1283 wd1284 rfl rfl (Nat.le_of_ble_eq_true rfl) ⟨Nat.le_of_ble_eq_true rfl, Nat.le_of_ble_eq_true rfl⟩ (s_Page_firstOfRun (ro := true) okp.lkB hst hen (by rw [lkL_len]; exact hj.2.2.1) hX0.2.2.2.2.2.1 (by omega) ?_)
  rw [hf]
  refine bp_istore (q := 11) 5 rfl rfl (by decide) (bp_up4 rfl) ?_
  refine bp_iload (q := 13) 6 rfl rfl rfl ?_
  refine bp_iconst (v := -1) (q := 14) 7 rfl rfl (by decide) ?_
  refine bp_icmp_ne (q := 17) (tgt := 27) 8 rfl rfl (by decide) (fun z14 => ?_) (fun z14 => ?_)
  · refine bp_iload_n (q := 28) 14 rfl rfl rfl rfl ?_
    refine bp_tsOut (tgt := 110) 15 rfl hw (by decide) ?_
    exact bp_throw (ci := 10) (i := 65) (names := ["java/lang/RuntimeException", "java/lang/Exception"]) htl 40 rfl rfl rfl rfl rfl nw_X_73 rfl rfl hs65 rfl rfl (by decide +kernel) (by decide +kernel) own_77 (Nat.le_of_ble_eq_true rfl) (Nat.le_of_ble_eq_true rfl) (Nat.le_of_ble_eq_true rfl) rfl (by decide +kernel) (fun a ha => ⟨a, rfl, hQ a ha (hX0.new ha)⟩)
  · exact absurd z14 (nI_m1 (by omega))
set_option maxRecDepth 100000 in
set_option maxHeartbeats 4000000 in
theorem t_X_feed2 {x : Int64} (htl : l.stackTraces = false) (hX0 : XI KP Z (C + 1) (S + 6) h aO na T xs L ps me (c + 1) (s + 6)) (hg : ∀ j, j < fdC x 8 0 → isCh (by8 x (nI j)) = true) (hl : 400 < T.length + fdC x 8 0) (hQ : ∀ a, bp_K h a = 0 → XI KP Z C S (bp_new h a 17 0) aO na T xs L ps me c s → Q a (bp_new h a 17 0) c s) : bp_AT l G H0 (6, 131, true, false) M_X_feed h (c + 1) (s + 6) [.ref (Z 43), .long x] Q := by
  refine bp_ofT (ls := [some (.ref (Z 43)), some (.long x), none, none, none]) (by decide) dt_X_feed (Nat.le_of_ble_eq_true rfl) (fun q hq => hq) ?_
  refine bp_iconst (v := 0) (q := 1) 0 rfl rfl (by decide) ?_
  refine bp_istore_n (q := 2) 1 rfl rfl rfl (by decide) (bp_up3 rfl) ?_
  refine lp_X_feed1 hX0 8 0 rfl (fun j _ h2 => hg j h2) ?_
  refine bp_aload_n (q := 44) 21 rfl rfl rfl rfl ?_
  refine bp_getR (x := Z 42) (q := 47) (ci := 0) (j := 0) 22 rfl rfl fl_X_14_0 hX0.2.1.1 rfl hX0.2.1.2.1 ?_
  refine bp_callV (q := 50) (ci := 1) 23 rfl rfl cw_Row_size lk_X_80 rfl hX0.2.2.1.1 wd455 wd456 rfl rfl (Nat.le_of_ble_eq_true rfl) ⟨Nat.le_of_ble_eq_true rfl, Nat.le_of_ble_eq_true rfl⟩ (s_Row_size (ro := true) hX0.2.2.1 ?_)
  refine bp_iload_n (q := 51) 24 rfl rfl rfl rfl ?_
  refine bp_iadd (q := 52) 25 rfl rfl ?_
  refine bp_sipush (v := 400) (q := 55) 26 rfl rfl (by decide) ?_
  refine bp_icmp_le (q := 58) (tgt := 68) 27 rfl rfl (by decide) (fun z55 => ?_) (fun z55 => ?_)
  · rw [nI_add] at z55
    exact absurd ((nI_le_iff (b := 400) (by have := fdC_le x 8 0; have := hX0.2.2.1.len; have := hX0.2.2.1.2.2.2.2.1; rw [hX0.2.2.2.1] at this; omega) (by decide)).mp z55) (by omega)
  · exact bp_throw (ci := 11) (i := 55) (names := ["java/lang/RuntimeException", "java/lang/Exception"]) htl 28 rfl rfl rfl rfl rfl nw_X_84 rfl rfl hs55 rfl rfl (by decide +kernel) (by decide +kernel) own_88 (Nat.le_of_ble_eq_true rfl) (Nat.le_of_ble_eq_true rfl) (Nat.le_of_ble_eq_true rfl) rfl (by decide +kernel) (fun a ha => ⟨a, rfl, hQ a ha (hX0.new ha)⟩)
set_option maxRecDepth 100000 in
set_option maxHeartbeats 4000000 in
theorem lp_X_feed3 {x : Int64} (htl : l.stackTraces = false) (hX0 : XI KP Z (C + 1) (S + 6) h aO na T xs L ps me (c + 1) (s + 6)) (hQ : ∀ a, bp_K h a = 0 → XI KP Z C S (bp_new h a 16 0) aO na T xs L ps me c s → Q a (bp_new h a 16 0) c s) : ∀ (m k : Nat), m + k = 8 → (∃ j, k ≤ j ∧ j < fdC x m k ∧ isCh (by8 x (nI j)) = false) → bp_A l G H0 (6, 131, true, false) M_X_feed h (c + 1) (s + 6) 2 [some (.ref (Z 43)), some (.long x), none, some (.int (nI k)), none] [] (fun o h' c' s' => ∃ a, o = .threw a ∧ Q a h' c' s') := by
  intro m
  induction m with
  | zero =>
    intro k hm hb
    obtain ⟨j, h1, h2, -⟩ := hb
    exact absurd h2 (by show ¬ j < k; omega)
  | succ m ih =>
    intro k hm hb
    refine bp_iload_n (q := 3) 2 rfl rfl rfl rfl ?_
    refine bp_bipush (v := 8) (q := 5) 3 rfl rfl (by decide) ?_
    refine bp_icmp_ge (q := 8) (tgt := 43) 4 rfl rfl (by decide) (fun z5 => ?_) (fun z5 => ?_)
    · exact absurd z5 (nI_ge (a := k) (b := 8) (by omega) (by decide))
    · refine bp_lload_n (q := 9) 5 rfl rfl rfl rfl ?_
      refine bp_iload_n (q := 10) 6 rfl rfl rfl rfl ?_
      refine bp_callS (q := 13) 7 rfl rfl cw_X_byteOf lk_X_65 wd1096 rfl rfl (Nat.le_of_ble_eq_true rfl) ⟨Nat.le_of_ble_eq_true rfl, Nat.le_of_ble_eq_true rfl⟩ (s_X_byteOf (ro := true) ?_)
      refine bp_if_eq (q := 16) (tgt := 43) 8 rfl rfl (by decide) (fun z13 => ?_) (fun z13 => ?_)
      · rw [show fdC x (m + 1) k = k from if_pos z13] at hb
        obtain ⟨j, h1, h2, _⟩ := hb
        omega
      · refine bp_lload_n (q := 17) 9 rfl rfl rfl rfl ?_
        have e13 : fdC x (m + 1) k = fdC x m (k + 1) := if_neg z13
        refine bp_iload_n (q := 18) 10 rfl rfl rfl rfl ?_
        refine bp_callS (q := 21) 11 rfl rfl cw_X_byteOf lk_X_65 wd1096 rfl rfl (Nat.le_of_ble_eq_true rfl) ⟨Nat.le_of_ble_eq_true rfl, Nat.le_of_ble_eq_true rfl⟩ (s_X_byteOf (ro := true) ?_)
        refine bp_callS (q := 24) 12 rfl rfl cw_X_isCharacter lk_X_69 wd1099 rfl rfl (Nat.le_of_ble_eq_true rfl) ⟨Nat.le_of_ble_eq_true rfl, Nat.le_of_ble_eq_true rfl⟩ (s_X_isCharacter (ro := true) ?_)
        refine bp_if_ne (q := 27) (tgt := 37) 13 rfl rfl (by decide) (fun z24 => ?_) (fun z24 => ?_)
        · refine bp_iinc (v := nI (k + 1)) (q := 40) 19 rfl rfl rfl (nI_1 k) (by decide) (bp_up3 rfl) ?_
          refine bp_goto (tgt := 2) 20 rfl (by decide) ?_
          obtain ⟨j, h1, h2, h3⟩ := hb
          refine ih (k + 1) (by omega) ⟨j, ?_, by rw [← e13]; exact h2, h3⟩
          by_cases q : j = k
          · subst q; exact absurd (h3.symm.trans (bI1 z24)) (by decide)
          · omega
        · exact bp_throw (ci := 10) (i := 54) (names := ["java/lang/RuntimeException", "java/lang/Exception"]) htl 14 rfl rfl rfl rfl rfl nw_X_73 rfl rfl hs54 rfl rfl (by decide +kernel) (by decide +kernel) own_77 (Nat.le_of_ble_eq_true rfl) (Nat.le_of_ble_eq_true rfl) (Nat.le_of_ble_eq_true rfl) rfl (by decide +kernel) (fun a ha => ⟨a, rfl, hQ a ha (hX0.new ha)⟩)
set_option maxRecDepth 100000 in
set_option maxHeartbeats 4000000 in
theorem t_X_feed1 {x : Int64} (htl : l.stackTraces = false) (hX0 : XI KP Z (C + 1) (S + 6) h aO na T xs L ps me (c + 1) (s + 6)) (hb : ∃ j, 0 ≤ j ∧ j < fdC x 8 0 ∧ isCh (by8 x (nI j)) = false) (hQ : ∀ a, bp_K h a = 0 → XI KP Z C S (bp_new h a 16 0) aO na T xs L ps me c s → Q a (bp_new h a 16 0) c s) : bp_AT l G H0 (6, 131, true, false) M_X_feed h (c + 1) (s + 6) [.ref (Z 43), .long x] Q := by
  refine bp_ofT (ls := [some (.ref (Z 43)), some (.long x), none, none, none]) (by decide) dt_X_feed (Nat.le_of_ble_eq_true rfl) (fun q hq => hq) ?_
  refine bp_iconst (v := 0) (q := 1) 0 rfl rfl (by decide) ?_
  refine bp_istore_n (q := 2) 1 rfl rfl rfl (by decide) (bp_up3 rfl) ?_
  exact lp_X_feed3 htl hX0 hQ 8 0 rfl hb
end XT
