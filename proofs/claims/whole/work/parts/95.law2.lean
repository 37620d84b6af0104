/-! the law's helpers: each calls the class, and catches what it throws -/
theorem ca_feed_10 : bp_Ca M_Law_feed 4 10 12 := by
  have hh : bp_hh M_Law_feed.1 = [(0, 9, 12, 13), (0, 9, 16, 15)] := by decide +kernel
  refine ⟨_, [("java/lang/IllegalArgumentException", true)], rfl, ?_, wd1104, fun i e C h1 h2 => ?_⟩
  · rw [hh]; rfl
  · rw [hh] at h1
    match i, h1, h2 with
    | 0, h1, h2 =>
      obtain rfl := Option.some.inj h1
      obtain rfl := Option.some.inj h2
      exact ⟨by decide, by decide, by decide, wd1089, Or.inl ⟨rfl, rfl⟩⟩
    | _ + 1, _, h2 => exact absurd h2 (by simp)
theorem ca_feed_11 : bp_Ca M_Law_feed 4 11 16 := by
  have hh : bp_hh M_Law_feed.1 = [(0, 9, 12, 13), (0, 9, 16, 15)] := by decide +kernel
  refine ⟨_, [("java/lang/IllegalArgumentException", false), ("java/lang/UnsupportedOperationException", true)], rfl, ?_, wd1173, fun i e C h1 h2 => ?_⟩
  · rw [hh]; rfl
  · rw [hh] at h1
    match i, h1, h2 with
    | 0, h1, h2 =>
      obtain rfl := Option.some.inj h1
      obtain rfl := Option.some.inj h2
      exact ⟨by decide, by decide, by decide, wd1089, Or.inr ⟨rfl, by decide⟩⟩
    | 1, h1, h2 =>
      obtain rfl := Option.some.inj h1
      obtain rfl := Option.some.inj h2
      exact ⟨by decide, by decide, by decide, wd1090, Or.inl ⟨rfl, rfl⟩⟩
    | _ + 2, _, h2 => exact absurd h2 (by simp)
theorem ca_take_11 : bp_Ca M_Law_take 3 11 11 := by
  have hh : bp_hh M_Law_take.1 = [(0, 8, 11, 15)] := by decide +kernel
  refine ⟨_, [("java/lang/UnsupportedOperationException", true)], rfl, ?_, wd1173, fun i e C h1 h2 => ?_⟩
  · rw [hh]; rfl
  · rw [hh] at h1
    match i, h1, h2 with
    | 0, h1, h2 =>
      obtain rfl := Option.some.inj h1
      obtain rfl := Option.some.inj h2
      exact ⟨by decide, by decide, by decide, wd1090, Or.inl ⟨rfl, rfl⟩⟩
    | _ + 1, _, h2 => exact absurd h2 (by simp)
theorem ca_begin_10 : bp_Ca M_Law_begin 5 10 13 := by
  have hh : bp_hh M_Law_begin.1 = [(0, 10, 13, 13), (0, 10, 17, 15)] := by decide +kernel
  refine ⟨_, [("java/lang/IllegalArgumentException", true)], rfl, ?_, wd1104, fun i e C h1 h2 => ?_⟩
  · rw [hh]; rfl
  · rw [hh] at h1
    match i, h1, h2 with
    | 0, h1, h2 =>
      obtain rfl := Option.some.inj h1
      obtain rfl := Option.some.inj h2
      exact ⟨by decide, by decide, by decide, wd1089, Or.inl ⟨rfl, rfl⟩⟩
    | _ + 1, _, h2 => exact absurd h2 (by simp)
theorem ca_begin_11 : bp_Ca M_Law_begin 5 11 17 := by
  have hh : bp_hh M_Law_begin.1 = [(0, 10, 13, 13), (0, 10, 17, 15)] := by decide +kernel
  refine ⟨_, [("java/lang/IllegalArgumentException", false), ("java/lang/UnsupportedOperationException", true)], rfl, ?_, wd1173, fun i e C h1 h2 => ?_⟩
  · rw [hh]; rfl
  · rw [hh] at h1
    match i, h1, h2 with
    | 0, h1, h2 =>
      obtain rfl := Option.some.inj h1
      obtain rfl := Option.some.inj h2
      exact ⟨by decide, by decide, by decide, wd1089, Or.inr ⟨rfl, by decide⟩⟩
    | 1, h1, h2 =>
      obtain rfl := Option.some.inj h1
      obtain rfl := Option.some.inj h2
      exact ⟨by decide, by decide, by decide, wd1090, Or.inl ⟨rfl, rfl⟩⟩
    | _ + 2, _, h2 => exact absurd h2 (by simp)
theorem ca_add_12 : bp_Ca M_Law_add 9 12 17 := by
  have hh : bp_hh M_Law_add.1 = [(0, 14, 17, 29), (0, 14, 21, 13), (0, 14, 25, 15)] := by decide +kernel
  refine ⟨_, [("java/lang/IllegalStateException", true)], rfl, ?_, wd1218, fun i e C h1 h2 => ?_⟩
  · rw [hh]; rfl
  · rw [hh] at h1
    match i, h1, h2 with
    | 0, h1, h2 =>
      obtain rfl := Option.some.inj h1
      obtain rfl := Option.some.inj h2
      exact ⟨by decide, by decide, by decide, wd1211, Or.inl ⟨rfl, rfl⟩⟩
    | _ + 1, _, h2 => exact absurd h2 (by simp)
theorem ca_add_10 : bp_Ca M_Law_add 9 10 21 := by
  have hh : bp_hh M_Law_add.1 = [(0, 14, 17, 29), (0, 14, 21, 13), (0, 14, 25, 15)] := by decide +kernel
  refine ⟨_, [("java/lang/IllegalStateException", false), ("java/lang/IllegalArgumentException", true)], rfl, ?_, wd1104, fun i e C h1 h2 => ?_⟩
  · rw [hh]; rfl
  · rw [hh] at h1
    match i, h1, h2 with
    | 0, h1, h2 =>
      obtain rfl := Option.some.inj h1
      obtain rfl := Option.some.inj h2
      exact ⟨by decide, by decide, by decide, wd1211, Or.inr ⟨rfl, by decide⟩⟩
    | 1, h1, h2 =>
      obtain rfl := Option.some.inj h1
      obtain rfl := Option.some.inj h2
      exact ⟨by decide, by decide, by decide, wd1089, Or.inl ⟨rfl, rfl⟩⟩
    | _ + 2, _, h2 => exact absurd h2 (by simp)
theorem ca_add_11 : bp_Ca M_Law_add 9 11 25 := by
  have hh : bp_hh M_Law_add.1 = [(0, 14, 17, 29), (0, 14, 21, 13), (0, 14, 25, 15)] := by decide +kernel
  refine ⟨_, [("java/lang/IllegalStateException", false), ("java/lang/IllegalArgumentException", false), ("java/lang/UnsupportedOperationException", true)], rfl, ?_, wd1173, fun i e C h1 h2 => ?_⟩
  · rw [hh]; rfl
  · rw [hh] at h1
    match i, h1, h2 with
    | 0, h1, h2 =>
      obtain rfl := Option.some.inj h1
      obtain rfl := Option.some.inj h2
      exact ⟨by decide, by decide, by decide, wd1211, Or.inr ⟨rfl, by decide⟩⟩
    | 1, h1, h2 =>
      obtain rfl := Option.some.inj h1
      obtain rfl := Option.some.inj h2
      exact ⟨by decide, by decide, by decide, wd1089, Or.inr ⟨rfl, by decide⟩⟩
    | 2, h1, h2 =>
      obtain rfl := Option.some.inj h1
      obtain rfl := Option.some.inj h2
      exact ⟨by decide, by decide, by decide, wd1090, Or.inl ⟨rfl, rfl⟩⟩
    | _ + 3, _, h2 => exact absurd h2 (by simp)
theorem ca_paragraph_13 : bp_Ca M_Law_paragraph 5 13 13 := by
  have hh : bp_hh M_Law_paragraph.1 = [(0, 10, 13, 34), (0, 10, 17, 13)] := by decide +kernel
  refine ⟨_, [("java/util/NoSuchElementException", true)], rfl, ?_, wd1256, fun i e C h1 h2 => ?_⟩
  · rw [hh]; rfl
  · rw [hh] at h1
    match i, h1, h2 with
    | 0, h1, h2 =>
      obtain rfl := Option.some.inj h1
      obtain rfl := Option.some.inj h2
      exact ⟨by decide, by decide, by decide, wd1248, Or.inl ⟨rfl, rfl⟩⟩
    | _ + 1, _, h2 => exact absurd h2 (by simp)
theorem ca_paragraph_10 : bp_Ca M_Law_paragraph 5 10 17 := by
  have hh : bp_hh M_Law_paragraph.1 = [(0, 10, 13, 34), (0, 10, 17, 13)] := by decide +kernel
  refine ⟨_, [("java/util/NoSuchElementException", false), ("java/lang/IllegalArgumentException", true)], rfl, ?_, wd1104, fun i e C h1 h2 => ?_⟩
  · rw [hh]; rfl
  · rw [hh] at h1
    match i, h1, h2 with
    | 0, h1, h2 =>
      obtain rfl := Option.some.inj h1
      obtain rfl := Option.some.inj h2
      exact ⟨by decide, by decide, by decide, wd1248, Or.inr ⟨rfl, by decide⟩⟩
    | 1, h1, h2 =>
      obtain rfl := Option.some.inj h1
      obtain rfl := Option.some.inj h2
      exact ⟨by decide, by decide, by decide, wd1089, Or.inl ⟨rfl, rfl⟩⟩
    | _ + 2, _, h2 => exact absurd h2 (by simp)
theorem ca_run_13 : bp_Ca M_Law_run 7 13 15 := by
  have hh : bp_hh M_Law_run.1 = [(0, 12, 15, 34), (0, 12, 19, 13)] := by decide +kernel
  refine ⟨_, [("java/util/NoSuchElementException", true)], rfl, ?_, wd1256, fun i e C h1 h2 => ?_⟩
  · rw [hh]; rfl
  · rw [hh] at h1
    match i, h1, h2 with
    | 0, h1, h2 =>
      obtain rfl := Option.some.inj h1
      obtain rfl := Option.some.inj h2
      exact ⟨by decide, by decide, by decide, wd1248, Or.inl ⟨rfl, rfl⟩⟩
    | _ + 1, _, h2 => exact absurd h2 (by simp)
theorem ca_run_10 : bp_Ca M_Law_run 7 10 19 := by
  have hh : bp_hh M_Law_run.1 = [(0, 12, 15, 34), (0, 12, 19, 13)] := by decide +kernel
  refine ⟨_, [("java/util/NoSuchElementException", false), ("java/lang/IllegalArgumentException", true)], rfl, ?_, wd1104, fun i e C h1 h2 => ?_⟩
  · rw [hh]; rfl
  · rw [hh] at h1
    match i, h1, h2 with
    | 0, h1, h2 =>
      obtain rfl := Option.some.inj h1
      obtain rfl := Option.some.inj h2
      exact ⟨by decide, by decide, by decide, wd1248, Or.inr ⟨rfl, by decide⟩⟩
    | 1, h1, h2 =>
      obtain rfl := Option.some.inj h1
      obtain rfl := Option.some.inj h2
      exact ⟨by decide, by decide, by decide, wd1089, Or.inl ⟨rfl, rfl⟩⟩
    | _ + 2, _, h2 => exact absurd h2 (by simp)
theorem ca_letter_13 : bp_Ca M_Law_letter 5 13 13 := by
  have hh : bp_hh M_Law_letter.1 = [(0, 10, 13, 34)] := by decide +kernel
  refine ⟨_, [("java/util/NoSuchElementException", true)], rfl, ?_, wd1256, fun i e C h1 h2 => ?_⟩
  · rw [hh]; rfl
  · rw [hh] at h1
    match i, h1, h2 with
    | 0, h1, h2 =>
      obtain rfl := Option.some.inj h1
      obtain rfl := Option.some.inj h2
      exact ⟨by decide, by decide, by decide, wd1248, Or.inl ⟨rfl, rfl⟩⟩
    | _ + 1, _, h2 => exact absurd h2 (by simp)
section LAW2
variable {l : Launch} {G : bp_G} {H0 : Heap} {M Z : Nat → Nat} {o C S : Nat} {h : bp_H} {aO na : Nat} {T xs : List Nat} {L : List (Nat × Nat)} {ps : List (Nat × Nat × Nat)} {me : Int32} {c s : Nat} {Q : Option Value → bp_H → Nat → Nat → Prop}
set_option maxRecDepth 100000 in
set_option maxHeartbeats 4000000 in
theorem s_Law_feed {x : Int64} (htl : l.stackTraces = false) (hX0 : XI (h, lP M o) Z (C + 1) (S + 6) h aO na T xs L ps me (c + 1) (s + 6)) (hko : bp_K h o = 2) (hlo : bp_L h o = 1) (hno : ¬ mF M o) (hQ1 : fdG x 8 0 = false → ∀ h', XP M Z o C S h h' aO na T xs L ps me c s → Q (some (.int 1)) h' c s) (hQ2 : fdG x 8 0 = true → 400 < T.length + fdC x 8 0 → ∀ h', XP M Z o C S h h' aO na T xs L ps me c s → Q (some (.int 2)) h' c s) (hQ3 : fdG x 8 0 = true → T.length + fdC x 8 0 ≤ 400 → ∀ h', XP M Z o C S h h' aO na (T ++ fdB x (fdC x 8 0)) xs L ps me (c + 1) (s + 6) → bp_J h' o 0 = (nI (fdC x 8 0)).toInt64 → Q (some (.int 0)) h' (c + 1) (s + 6)) : bp_AW l G H0 (7, 155, false, false) M_Law_feed h (c + 1) (s + 6) [.ref (Z 43), .long x, .ref o] Q := by
  refine bp_ofW (ls := [some (.ref (Z 43)), some (.long x), none, some (.ref o), none]) (by decide) dt_Law_feed (Nat.le_of_ble_eq_true rfl) (fun q hq => hq) false ?_
  refine bp_aload_n (q := 1) 0 rfl rfl rfl rfl ?_
  refine bp_iconst (v := 0) (q := 2) 1 rfl rfl (by decide) ?_
  refine bp_aload_n (q := 3) 2 rfl rfl rfl rfl ?_
  refine bp_lload_n (q := 4) 3 rfl rfl rfl rfl ?_
  by_cases hg : fdG x 8 0 = true
  · have hg1 : ∀ j, j < fdC x 8 0 → isCh (by8 x (nI j)) = true := fun j hj => fdG_t x 8 0 hg j (Nat.zero_le j) hj
    by_cases hl : T.length + fdC x 8 0 ≤ 400
    · refine bp_callV (q := 7) (ci := 0) 4 rfl rfl cw_X_feed lk_Law_7 rfl hX0.2.1.1 wd1092 wd1093 rfl rfl (Nat.le_of_ble_eq_true rfl) ⟨Nat.le_of_ble_eq_true rfl, Nat.le_of_ble_eq_true rfl⟩ (s_X_feed hX0 hg1 hl (fun h1 hX1 => ?_))
      have hP1 := XP.of (hX1.less (Nat.le_succ C) (Nat.le_add_right S 6)) hko hlo
      refine bp_i2l (q := 8) 5 rfl rfl ?_
      refine bp_last (q := 9) 6 rfl rfl hP1.2.2.1 (by rw [hP1.2.2.2]; exact vp_in_nI (n := 0) (by decide) (by decide))  ?_
      rw [show ((0 : Int32).toNatClampNeg) = 0 from rfl]
      refine bp_nx (X := fun h2 => XP M Z o C S h h2 aO na (T ++ fdB x (fdC x 8 0)) xs L ps me (c + 1) (s + 6) ∧ bp_J h2 o 0 = (nI (fdC x 8 0)).toInt64) ⟨hP1.out hno, by rw [bp_J_sJ, if_pos ⟨rfl, rfl⟩]⟩ (fun h2 ⟨hP2, hJ⟩ => ?_)
      refine bp_goto (tgt := 20) 7 rfl (by decide) ?_
      refine bp_iconst (v := 0) (q := 21) 14 rfl rfl (by decide) ?_
      exact bp_iret 15 rfl rfl rfl ⟨_, rfl, hQ3 hg hl _ hP2 hJ⟩
    · refine bp_callVT (ci := 0) 4 rfl cw_X_feed wd1091 rfl hX0.2.1.1 wd1092 wd1093 rfl rfl (Nat.le_of_ble_eq_true rfl) ⟨Nat.le_of_ble_eq_true rfl, Nat.le_of_ble_eq_true rfl⟩ rfl (t_X_feed2 htl hX0 hg1 (Nat.not_le.mp hl) (fun a ha hX1 => ⟨11, 16, by rw [bp_K_new, if_pos rfl], ca_feed_11, ?_⟩))
      refine bp_astore (q := 18) 11 rfl rfl (by decide) (bp_up4 rfl) ?_
      refine bp_iconst (v := 2) (q := 19) 12 rfl rfl (by decide) ?_
      exact bp_iret 13 rfl rfl rfl ⟨_, rfl, hQ2 hg (Nat.not_le.mp hl) _ (XP.of hX1 hko hlo)⟩
  · refine bp_callVT (ci := 0) 4 rfl cw_X_feed wd1091 rfl hX0.2.1.1 wd1092 wd1093 rfl rfl (Nat.le_of_ble_eq_true rfl) ⟨Nat.le_of_ble_eq_true rfl, Nat.le_of_ble_eq_true rfl⟩ rfl (t_X_feed1 htl hX0 (fdG_f x 8 0 (by simpa using hg)) (fun a ha hX1 => ⟨10, 12, by rw [bp_K_new, if_pos rfl], ca_feed_10, ?_⟩))
    refine bp_astore (q := 14) 8 rfl rfl (by decide) (bp_up4 rfl) ?_
    refine bp_iconst (v := 1) (q := 15) 9 rfl rfl (by decide) ?_
    exact bp_iret 10 rfl rfl rfl ⟨_, rfl, hQ1 (by simpa using hg) _ (XP.of hX1 hko hlo)⟩
set_option maxRecDepth 100000 in
set_option maxHeartbeats 4000000 in
theorem s_Law_take  (htl : l.stackTraces = false) (hX0 : XI (h, lP M o) Z (C + 1) (S + 6) h aO na T xs L ps me (c + 1) (s + 6)) (hko : bp_K h o = 2) (hlo : bp_L h o = 1) (hno : ¬ mF M o) (hQ1 : 400 < xs.length → ∀ h', XP M Z o C S h h' aO na T xs L ps me c s → Q (some (.int 1)) h' c s) (hQ2 : xs.length ≤ 400 → ∀ h', XP M Z o C S h h' aO na xs xs L ps me (c + 1) (s + 6) → bp_J h' o 0 = (nI xs.length).toInt64 → Q (some (.int 0)) h' (c + 1) (s + 6)) : bp_AW l G H0 (7, 151, false, false) M_Law_take h (c + 1) (s + 6) [.ref (Z 43), .ref o] Q := by
  refine bp_ofW (ls := [some (.ref (Z 43)), some (.ref o), none]) (by decide) dt_Law_take (Nat.le_of_ble_eq_true rfl) (fun q hq => hq) false ?_
  refine bp_aload_n (q := 1) 0 rfl rfl rfl rfl ?_
  refine bp_iconst (v := 0) (q := 2) 1 rfl rfl (by decide) ?_
  refine bp_aload_n (q := 3) 2 rfl rfl rfl rfl ?_
  by_cases hl : xs.length ≤ 400
  · refine bp_callV (q := 6) (ci := 0) 3 rfl rfl cw_X_take lk_Law_17 rfl hX0.2.1.1 wd1192 wd1193 rfl rfl (Nat.le_of_ble_eq_true rfl) ⟨Nat.le_of_ble_eq_true rfl, Nat.le_of_ble_eq_true rfl⟩ (s_X_take hX0 hl (fun h1 hX1 => ?_))
    have hP1 := XP.of (hX1.less (Nat.le_succ C) (Nat.le_add_right S 6)) hko hlo
    refine bp_i2l (q := 7) 4 rfl rfl ?_
    refine bp_last (q := 8) 5 rfl rfl hP1.2.2.1 (by rw [hP1.2.2.2]; exact vp_in_nI (n := 0) (by decide) (by decide))  ?_
    rw [show ((0 : Int32).toNatClampNeg) = 0 from rfl]
    refine bp_nx (X := fun h2 => XP M Z o C S h h2 aO na xs xs L ps me (c + 1) (s + 6) ∧ bp_J h2 o 0 = (nI xs.length).toInt64) ⟨hP1.out hno, by rw [bp_J_sJ, if_pos ⟨rfl, rfl⟩]⟩ (fun h2 ⟨hP2, hJ⟩ => ?_)
    refine bp_goto (tgt := 14) 6 rfl (by decide) ?_
    refine bp_iconst (v := 0) (q := 15) 10 rfl rfl (by decide) ?_
    exact bp_iret 11 rfl rfl rfl ⟨_, rfl, hQ2 hl _ hP2 hJ⟩
  · refine bp_callVT (ci := 0) 3 rfl cw_X_take wd1191 rfl hX0.2.1.1 wd1192 wd1193 rfl rfl (Nat.le_of_ble_eq_true rfl) ⟨Nat.le_of_ble_eq_true rfl, Nat.le_of_ble_eq_true rfl⟩ rfl (t_X_take htl hX0 (Nat.not_le.mp hl) (fun a ha hX1 => ⟨11, 11, by rw [bp_K_new, if_pos rfl], ca_take_11, ?_⟩))
    refine bp_astore_n (q := 12) 7 rfl rfl rfl (by decide) (bp_up2 rfl) ?_
    refine bp_iconst (v := 1) (q := 13) 8 rfl rfl (by decide) ?_
    exact bp_iret 9 rfl rfl rfl ⟨_, rfl, hQ1 (Nat.not_le.mp hl) _ (XP.of hX1 hko hlo)⟩
set_option maxRecDepth 100000 in
set_option maxHeartbeats 4000000 in
theorem s_Law_begin {x y : Int32} (htl : l.stackTraces = false) (hX0 : XI (h, lP M o) Z (C + 1) (S + 6) h aO na T xs L ps me (c + 1) (s + 6)) (hko : bp_K h o = 2) (hlo : bp_L h o = 1) (hno : ¬ mF M o) (hQ1 : ¬ (wi x 0 2 = true ∧ wi y 0 9 = true) → ∀ h', XP M Z o C S h h' aO na T xs L ps me c s → Q (some (.int 1)) h' c s) (hQ2 : wi x 0 2 = true ∧ wi y 0 9 = true → 16 ≤ ps.length → ∀ h', XP M Z o C S h h' aO na T xs L ps me c s → Q (some (.int 2)) h' c s) (hQ3 : ∀ a b, x = nI a → y = nI b → a < 3 → b < 10 → ps.length < 16 → ∀ h', XP M Z o C S h h' aO na T xs L (ps ++ [(a, b, L.length)]) me (c + 1) (s + 6) → bp_J h' o 0 = (nI (ps ++ [(a, b, L.length)]).length).toInt64 → Q (some (.int 0)) h' (c + 1) (s + 6)) : bp_AW l G H0 (7, 153, false, false) M_Law_begin h (c + 1) (s + 6) [.ref (Z 43), .int x, .int y, .ref o] Q := by
  refine bp_ofW (ls := [some (.ref (Z 43)), some (.int x), some (.int y), some (.ref o), none]) (by decide) dt_Law_begin (Nat.le_of_ble_eq_true rfl) (fun q hq => hq) false ?_
  refine bp_aload_n (q := 1) 0 rfl rfl rfl rfl ?_
  refine bp_iconst (v := 0) (q := 2) 1 rfl rfl (by decide) ?_
  refine bp_aload_n (q := 3) 2 rfl rfl rfl rfl ?_
  refine bp_iload_n (q := 4) 3 rfl rfl rfl rfl ?_
  refine bp_iload_n (q := 5) 4 rfl rfl rfl rfl ?_
  by_cases hb : wi x 0 2 = true ∧ wi y 0 9 = true
  · by_cases hf : 16 ≤ ps.length
    · refine bp_callVT (ci := 0) 5 rfl cw_X_begin wd1200 rfl hX0.2.1.1 wd1201 wd1202 rfl rfl (Nat.le_of_ble_eq_true rfl) ⟨Nat.le_of_ble_eq_true rfl, Nat.le_of_ble_eq_true rfl⟩ rfl (t_X_begin2 htl hX0 hb hf (fun a ha hX1 => ⟨11, 17, by rw [bp_K_new, if_pos rfl], ca_begin_11, ?_⟩))
      refine bp_astore (q := 19) 12 rfl rfl (by decide) (bp_up4 rfl) ?_
      refine bp_iconst (v := 2) (q := 20) 13 rfl rfl (by decide) ?_
      exact bp_iret 14 rfl rfl rfl ⟨_, rfl, hQ2 hb hf _ (XP.of hX1 hko hlo)⟩
    · obtain ⟨a, a1, a2, a3, -⟩ := wi_cl (n := x) (x := 0) (y := 2) (by decide) (by decide) hb.1
      obtain ⟨b, b1, b2, b3, -⟩ := wi_cl (n := y) (x := 0) (y := 9) (by decide) (by decide) hb.2
      subst a3 b3
      refine bp_callV (q := 8) (ci := 0) 5 rfl rfl cw_X_begin lk_Law_21 rfl hX0.2.1.1 wd1201 wd1202 rfl rfl (Nat.le_of_ble_eq_true rfl) ⟨Nat.le_of_ble_eq_true rfl, Nat.le_of_ble_eq_true rfl⟩ (s_X_begin (x := a) (y := b) hX0 (by omega) (by omega) (Nat.not_le.mp hf) (fun h1 hX1 => ?_))
      have hP1 := XP.of (hX1.less (Nat.le_succ C) (Nat.le_add_right S 6)) hko hlo
      refine bp_i2l (q := 9) 6 rfl rfl ?_
      refine bp_last (q := 10) 7 rfl rfl hP1.2.2.1 (by rw [hP1.2.2.2]; exact vp_in_nI (n := 0) (by decide) (by decide))  ?_
      rw [show ((0 : Int32).toNatClampNeg) = 0 from rfl]
      refine bp_nx (X := fun h2 => XP M Z o C S h h2 aO na T xs L (ps ++ [(a, b, L.length)]) me (c + 1) (s + 6) ∧ bp_J h2 o 0 = (nI (ps ++ [(a, b, L.length)]).length).toInt64) ⟨hP1.out hno, by rw [bp_J_sJ, if_pos ⟨rfl, rfl⟩]⟩ (fun h2 ⟨hP2, hJ⟩ => ?_)
      refine bp_goto (tgt := 21) 8 rfl (by decide) ?_
      refine bp_iconst (v := 0) (q := 22) 15 rfl rfl (by decide) ?_
      exact bp_iret 16 rfl rfl rfl ⟨_, rfl, hQ3 a b rfl rfl (by omega) (by omega) (Nat.not_le.mp hf) _ hP2 hJ⟩
  · refine bp_callVT (ci := 0) 5 rfl cw_X_begin wd1200 rfl hX0.2.1.1 wd1201 wd1202 rfl rfl (Nat.le_of_ble_eq_true rfl) ⟨Nat.le_of_ble_eq_true rfl, Nat.le_of_ble_eq_true rfl⟩ rfl (t_X_begin1 htl hX0 hb (fun a ha hX1 => ⟨10, 13, by rw [bp_K_new, if_pos rfl], ca_begin_10, ?_⟩))
    refine bp_astore (q := 15) 9 rfl rfl (by decide) (bp_up4 rfl) ?_
    refine bp_iconst (v := 1) (q := 16) 10 rfl rfl (by decide) ?_
    exact bp_iret 11 rfl rfl rfl ⟨_, rfl, hQ1 hb _ (XP.of hX1 hko hlo)⟩
set_option maxRecDepth 100000 in
set_option maxHeartbeats 4000000 in
theorem s_Law_add {x1 x2 x3 x4 : Int32} (htl : l.stackTraces = false) (hX0 : XI (h, lP M o) Z (C + 1) (S + 6) h aO na T xs L ps me (c + 1) (s + 6)) (hko : bp_K h o = 2) (hlo : bp_L h o = 1) (hno : ¬ mF M o) (okp : okP L ps) (hQ1 : ps = [] → ∀ h', XP M Z o C S h h' aO na T xs L ps me c s → Q (some (.int 1)) h' c s) (hQ2 : ps ≠ [] → ¬ (wi x1 32 255 = true ∧ (wi x2 0 7 && (wi x3 1 99 && wi x4 0 7)) = true) → ∀ h', XP M Z o C S h h' aO na T xs L ps me c s → Q (some (.int 2)) h' c s) (hQ3 : ps ≠ [] → (wi x1 32 255 = true ∧ (wi x2 0 7 && (wi x3 1 99 && wi x4 0 7)) = true) → 400 ≤ L.length → ∀ h', XP M Z o C S h h' aO na T xs L ps me c s → Q (some (.int 3)) h' c s) (hQ4 : ∀ (u sy sz co : Nat) (qs : List (Nat × Nat × Nat)) (qa qb qe : Nat), x1 = nI u → x2 = nI sy → x3 = nI sz → x4 = nI co → ps = qs ++ [(qa, qb, qe)] → 32 ≤ u → u < 256 → sy < 8 → 1 ≤ sz ∧ sz < 100 → co < 8 → L.length < 400 → ∀ h', XP M Z o C S h h' aO na T xs (L ++ [(u, sy + 8 * co + 64 * sz)]) (qs ++ [(qa, qb, L.length + 1)]) me (c + 1) (s + 6) → bp_J h' o 0 = (nI (rcn (lkL (L ++ [(u, sy + 8 * co + 64 * sz)])) (pst (qs ++ [(qa, qb, L.length + 1)]) qs.length) (L.length + 1 - pst (qs ++ [(qa, qb, L.length + 1)]) qs.length) (pst (qs ++ [(qa, qb, L.length + 1)]) qs.length))).toInt64 → Q (some (.int 0)) h' (c + 1) (s + 6)) : bp_AW l G H0 (7, 155, false, false) M_Law_add h (c + 1) (s + 6) [.ref (Z 43), .int x1, .int x2, .int x3, .int x4, .ref o] Q := by
  refine bp_ofW (ls := [some (.ref (Z 43)), some (.int x1), some (.int x2), some (.int x3), some (.int x4), some (.ref o), none]) (by decide) dt_Law_add (Nat.le_of_ble_eq_true rfl) (fun q hq => hq) false ?_
  refine bp_aload (q := 2) 0 rfl rfl rfl ?_
  refine bp_iconst (v := 0) (q := 3) 1 rfl rfl (by decide) ?_
  refine bp_aload_n (q := 4) 2 rfl rfl rfl rfl ?_
  refine bp_iload_n (q := 5) 3 rfl rfl rfl rfl ?_
  refine bp_iload_n (q := 6) 4 rfl rfl rfl rfl ?_
  refine bp_iload_n (q := 7) 5 rfl rfl rfl rfl ?_
  refine bp_iload (q := 9) 6 rfl rfl rfl ?_
  by_cases hp : ps = []
  · refine bp_callVT (ci := 0) 7 rfl cw_X_add wd1212 rfl hX0.2.1.1 wd1213 wd1214 rfl rfl (Nat.le_of_ble_eq_true rfl) ⟨Nat.le_of_ble_eq_true rfl, Nat.le_of_ble_eq_true rfl⟩ rfl (t_X_add1 htl hX0 hp (fun a ha hX1 => ⟨12, 17, by rw [bp_K_new, if_pos rfl], ca_add_12, ?_⟩))
    refine bp_astore (q := 19) 11 rfl rfl (by decide) (bp_up6 rfl) ?_
    refine bp_iconst (v := 1) (q := 20) 12 rfl rfl (by decide) ?_
    exact bp_iret 13 rfl rfl rfl ⟨_, rfl, hQ1 hp _ (XP.of hX1 hko hlo)⟩
  · by_cases hb : wi x1 32 255 = true ∧ (wi x2 0 7 && (wi x3 1 99 && wi x4 0 7)) = true
    · by_cases hl : 400 ≤ L.length
      · refine bp_callVT (ci := 0) 7 rfl cw_X_add wd1212 rfl hX0.2.1.1 wd1213 wd1214 rfl rfl (Nat.le_of_ble_eq_true rfl) ⟨Nat.le_of_ble_eq_true rfl, Nat.le_of_ble_eq_true rfl⟩ rfl (t_X_add3 htl hX0 hp hb hl (fun a ha hX1 => ⟨11, 25, by rw [bp_K_new, if_pos rfl], ca_add_11, ?_⟩))
        refine bp_astore (q := 27) 17 rfl rfl (by decide) (bp_up6 rfl) ?_
        refine bp_iconst (v := 3) (q := 28) 18 rfl rfl (by decide) ?_
        exact bp_iret 19 rfl rfl rfl ⟨_, rfl, hQ3 hp hb hl _ (XP.of hX1 hko hlo)⟩
      · obtain ⟨qs, q, hps⟩ := (nil_or_snoc ps).resolve_left hp
        obtain ⟨qa, qb, qe⟩ := q
        have hb2 := hb.2
        rw [Bool.and_eq_true, Bool.and_eq_true] at hb2
        obtain ⟨u, u1, u2, u3, -⟩ := wi_cl (n := x1) (x := 32) (y := 255) (by decide) (by decide) hb.1
        obtain ⟨sy, s1, s2, s3, -⟩ := wi_cl (n := x2) (x := 0) (y := 7) (by decide) (by decide) hb2.1
        obtain ⟨sz, z1, z2, z3, -⟩ := wi_cl (n := x3) (x := 1) (y := 99) (by decide) (by decide) hb2.2.1
        obtain ⟨co, c1, c2, c3, -⟩ := wi_cl (n := x4) (x := 0) (y := 7) (by decide) (by decide) hb2.2.2
        subst u3 s3 z3 c3
        refine bp_callV (q := 12) (ci := 0) 7 rfl rfl cw_X_add lk_Law_25 rfl hX0.2.1.1 wd1213 wd1214 rfl rfl (Nat.le_of_ble_eq_true rfl) ⟨Nat.le_of_ble_eq_true rfl, Nat.le_of_ble_eq_true rfl⟩ (s_X_add (u := u) (sy := sy) (sz := sz) (co := co) hX0 hps okp (by omega) (by omega) (by omega) (by omega) (by omega) (Nat.not_le.mp hl) (fun h1 hX1 => ?_))
        have hP1 := XP.of (hX1.less (Nat.le_succ C) (Nat.le_add_right S 6)) hko hlo
        refine bp_i2l (q := 13) 8 rfl rfl ?_
        refine bp_last (q := 14) 9 rfl rfl hP1.2.2.1 (by rw [hP1.2.2.2]; exact vp_in_nI (n := 0) (by decide) (by decide))  ?_
        rw [show ((0 : Int32).toNatClampNeg) = 0 from rfl]
        refine bp_nx (X := fun h2 => XP M Z o C S h h2 aO na T xs (L ++ [(u, sy + 8 * co + 64 * sz)]) (qs ++ [(qa, qb, L.length + 1)]) me (c + 1) (s + 6) ∧ bp_J h2 o 0 = (nI (rcn (lkL (L ++ [(u, sy + 8 * co + 64 * sz)])) (pst (qs ++ [(qa, qb, L.length + 1)]) qs.length) (L.length + 1 - pst (qs ++ [(qa, qb, L.length + 1)]) qs.length) (pst (qs ++ [(qa, qb, L.length + 1)]) qs.length))).toInt64) ⟨hP1.out hno, by rw [bp_J_sJ, if_pos ⟨rfl, rfl⟩]⟩ (fun h2 ⟨hP2, hJ⟩ => ?_)
        refine bp_goto (tgt := 29) 10 rfl (by decide) ?_
        refine bp_iconst (v := 0) (q := 30) 20 rfl rfl (by decide) ?_
        exact bp_iret 21 rfl rfl rfl ⟨_, rfl, hQ4 u sy sz co qs qa qb qe rfl rfl rfl rfl hps (by omega) (by omega) (by omega) (by omega) (by omega) (Nat.not_le.mp hl) _ hP2 hJ⟩
    · refine bp_callVT (ci := 0) 7 rfl cw_X_add wd1212 rfl hX0.2.1.1 wd1213 wd1214 rfl rfl (Nat.le_of_ble_eq_true rfl) ⟨Nat.le_of_ble_eq_true rfl, Nat.le_of_ble_eq_true rfl⟩ rfl (t_X_add2 htl hX0 hp hb (fun a ha hX1 => ⟨10, 21, by rw [bp_K_new, if_pos rfl], ca_add_10, ?_⟩))
      refine bp_astore (q := 23) 14 rfl rfl (by decide) (bp_up6 rfl) ?_
      refine bp_iconst (v := 2) (q := 24) 15 rfl rfl (by decide) ?_
      exact bp_iret 16 rfl rfl rfl ⟨_, rfl, hQ2 hp hb _ (XP.of hX1 hko hlo)⟩
theorem i_cs (x : Int32) : x < 0 ∨ ∃ q, x = nI q ∧ q < 2 ^ 31 := by
  by_cases h : x < 0
  · exact Or.inl h
  · refine Or.inr ⟨x.toInt.toNat, ?_, ?_⟩
    · have h0 : 0 ≤ x.toInt := by have := Int32.not_lt.mp h; exact Int32.le_iff_toInt_le.mp this
      have h1 := Int32.toInt_lt x
      apply Int32.toInt_inj.mp
      rw [nI_toInt (by omega)]
      omega
    · have h0 : 0 ≤ x.toInt := by have := Int32.not_lt.mp h; exact Int32.le_iff_toInt_le.mp this
      have h1 := Int32.toInt_lt x
      omega
theorem i_len {x : Int32} {n : Nat} (hn : n < 1000000) (h : ¬ (x < 0 ∨ nI n ≤ x)) : ∃ p, x = nI p ∧ p < n := by
  rcases i_cs x with z | ⟨q, hq, h2⟩
  · exact absurd (Or.inl z) h
  · refine ⟨q, hq, Nat.not_le.mp (fun z => h (Or.inr ?_))⟩
    rw [hq, Int32.le_iff_toInt_le, nI_toInt (by omega), nI_toInt (by omega)]
    omega
theorem i_w4 {x : Int32} (h : ¬ (x.toInt < 0 ∨ 3 < x.toInt)) : ∃ w, x = nI w ∧ w < 4 := by
  refine ⟨x.toInt.toNat, ?_, by omega⟩
  apply Int32.toInt_inj.mp
  rw [nI_toInt (by omega)]
  omega
theorem fro_neg {lk : List Nat} {st : Nat} {r : Int32} (hr : r < 0) : ∀ n k cnt, cnt + n < 1000000 → fro lk st r n k cnt = -1
  | 0, _, _, _ => rfl
  | n + 1, k, cnt, h => by
    rw [fro]
    have hne : ¬ nI cnt = r := fun e => by rw [← e] at hr; exact absurd hr (nI_pos (by omega))
    split
    · first | exact fro_neg hr n (k + 1) (cnt + 1) (by omega) | (rw [if_neg hne]; exact fro_neg hr n (k + 1) (cnt + 1) (by omega))
    · exact fro_neg hr n (k + 1) cnt (by omega)
theorem p_en_out {ps : List (Nat × Nat × Nat)} {x : Int32} (h : x < 0 ∨ nI ps.length ≤ x) : p_en ps x = nI 0 := if_pos h
theorem p_st_out {ps : List (Nat × Nat × Nat)} {L : List (Nat × Nat)} {x : Int32} (okp : okP L ps) : ∃ st, p_st ps x = nI st ∧ st < 1000000 := by
  unfold p_st
  split
  · exact ⟨0, rfl, by decide⟩
  · rename_i z
    refine ⟨_, rfl, ?_⟩
    obtain ⟨p, hp, h2⟩ := i_len (by have := okp.2.1; omega) z
    have := (okp.2.2.1 p h2).2.2.1
    have := okp.1
    rw [hp, nI_clamp (by have := okp.2.1; omega)]
    omega
theorem p_en_in {ps : List (Nat × Nat × Nat)} {L : List (Nat × Nat)} {p : Nat} (okp : okP L ps) (hp : p < ps.length) : p_en ps (nI p) = nI (p_e ps p) := by
  have h16 := okp.2.1
  unfold p_en
  rw [if_neg (by rintro (z | z); exact nI_pos (by omega) z; exact absurd ((nI_le_iff (by omega) (by omega)).mp z) (by omega)), nI_clamp (by omega)]
theorem p_st_in {ps : List (Nat × Nat × Nat)} {L : List (Nat × Nat)} {p : Nat} (okp : okP L ps) (hp : p < ps.length) : p_st ps (nI p) = nI (pst ps p) := by
  have h16 := okp.2.1
  unfold p_st
  cases p with
  | zero => rw [if_pos (Or.inl (by decide))]; rfl
  | succ p =>
    rw [show nI (p + 1) - 1 = nI p from nI_sub (a := p + 1) (b := 1) (by omega), if_neg (by rintro (z | z); exact nI_pos (by omega) z; exact absurd ((nI_le_iff (by omega) (by omega)).mp z) (by omega)), nI_clamp (by omega), pst_s]
set_option maxRecDepth 100000 in
set_option maxHeartbeats 4000000 in
theorem s_Law_paragraph {x y : Int32} (htl : l.stackTraces = false) (hX0 : XI (h, lP M o) Z (C + 1) (S + 6) h aO na T xs L ps me (c + 1) (s + 6)) (hko : bp_K h o = 2) (hlo : bp_L h o = 1) (hno : ¬ mF M o) (okp : okP L ps) (hQ1 : x < 0 ∨ nI ps.length ≤ x → ∀ h', XP M Z o C S h h' aO na T xs L ps me c s → Q (some (.int 1)) h' c s) (hQ2 : ∀ p, p < ps.length → x = nI p → y.toInt < 0 ∨ 3 < y.toInt → ∀ h', XP M Z o C S h h' aO na T xs L ps me c s → Q (some (.int 2)) h' c s) (hQ3 : ∀ p w, x = nI p → y = nI w → p < ps.length → w < 4 → ∀ h', XP M Z o C S h h' aO na T xs L ps me (c + 1) (s + 6) → bp_J h' o 0 = (nI (paV L ps p w)).toInt64 → Q (some (.int 0)) h' (c + 1) (s + 6)) : bp_AW l G H0 (7, 153, false, false) M_Law_paragraph h (c + 1) (s + 6) [.ref (Z 43), .int x, .int y, .ref o] Q := by
  refine bp_ofW (ls := [some (.ref (Z 43)), some (.int x), some (.int y), some (.ref o), none]) (by decide) dt_Law_paragraph (Nat.le_of_ble_eq_true rfl) (fun q hq => hq) false ?_
  refine bp_aload_n (q := 1) 0 rfl rfl rfl rfl ?_
  refine bp_iconst (v := 0) (q := 2) 1 rfl rfl (by decide) ?_
  refine bp_aload_n (q := 3) 2 rfl rfl rfl rfl ?_
  refine bp_iload_n (q := 4) 3 rfl rfl rfl rfl ?_
  refine bp_iload_n (q := 5) 4 rfl rfl rfl rfl ?_
  by_cases ho : x < 0 ∨ nI ps.length ≤ x
  · refine bp_callVT (ci := 0) 5 rfl cw_X_paragraph wd1249 rfl hX0.2.1.1 wd1250 wd1251 rfl rfl (Nat.le_of_ble_eq_true rfl) ⟨Nat.le_of_ble_eq_true rfl, Nat.le_of_ble_eq_true rfl⟩ rfl (t_X_paragraph1 htl hX0 ho (fun a ha hX1 => ⟨13, 13, by rw [bp_K_new, if_pos rfl], ca_paragraph_13, ?_⟩))
    refine bp_astore (q := 15) 9 rfl rfl (by decide) (bp_up4 rfl) ?_
    refine bp_iconst (v := 1) (q := 16) 10 rfl rfl (by decide) ?_
    exact bp_iret 11 rfl rfl rfl ⟨_, rfl, hQ1 ho _ (XP.of hX1 hko hlo)⟩
  · obtain ⟨p, rfl, hp⟩ := i_len (by have := okp.2.1; omega) ho
    by_cases hw : y.toInt < 0 ∨ 3 < y.toInt
    · refine bp_callVT (ci := 0) 5 rfl cw_X_paragraph wd1249 rfl hX0.2.1.1 wd1250 wd1251 rfl rfl (Nat.le_of_ble_eq_true rfl) ⟨Nat.le_of_ble_eq_true rfl, Nat.le_of_ble_eq_true rfl⟩ rfl (t_X_paragraph2 htl hX0 okp hp hw (fun a ha hX1 => ⟨10, 17, by rw [bp_K_new, if_pos rfl], ca_paragraph_10, ?_⟩))
      refine bp_astore (q := 19) 12 rfl rfl (by decide) (bp_up4 rfl) ?_
      refine bp_iconst (v := 2) (q := 20) 13 rfl rfl (by decide) ?_
      exact bp_iret 14 rfl rfl rfl ⟨_, rfl, hQ2 p hp rfl hw _ (XP.of hX1 hko hlo)⟩
    · obtain ⟨w, rfl, hw4⟩ := i_w4 hw
      refine bp_callV (q := 8) (ci := 0) 5 rfl rfl cw_X_paragraph lk_Law_31 rfl hX0.2.1.1 wd1250 wd1251 rfl rfl (Nat.le_of_ble_eq_true rfl) ⟨Nat.le_of_ble_eq_true rfl, Nat.le_of_ble_eq_true rfl⟩ (s_X_paragraph (ro := false) hX0 okp hp hw4 ?_)
      have hX1 := hX0
      have hP1 := XP.of (hX1.less (Nat.le_succ C) (Nat.le_add_right S 6)) hko hlo
      refine bp_i2l (q := 9) 6 rfl rfl ?_
      refine bp_last (q := 10) 7 rfl rfl hP1.2.2.1 (by rw [hP1.2.2.2]; exact vp_in_nI (n := 0) (by decide) (by decide))  ?_
      rw [show ((0 : Int32).toNatClampNeg) = 0 from rfl]
      refine bp_nx (X := fun h2 => XP M Z o C S h h2 aO na T xs L ps me (c + 1) (s + 6) ∧ bp_J h2 o 0 = (nI (paV L ps p w)).toInt64) ⟨hP1.out hno, by rw [bp_J_sJ, if_pos ⟨rfl, rfl⟩]⟩ (fun h2 ⟨hP2, hJ⟩ => ?_)
      refine bp_goto (tgt := 21) 8 rfl (by decide) ?_
      refine bp_iconst (v := 0) (q := 22) 15 rfl rfl (by decide) ?_
      exact bp_iret 16 rfl rfl rfl ⟨_, rfl, hQ3 p w rfl rfl hp hw4 _ hP2 hJ⟩
set_option maxRecDepth 100000 in
set_option maxHeartbeats 4000000 in
theorem s_Law_run {x r y : Int32} (htl : l.stackTraces = false) (hX0 : XI (h, lP M o) Z (C + 1) (S + 6) h aO na T xs L ps me (c + 1) (s + 6)) (hko : bp_K h o = 2) (hlo : bp_L h o = 1) (hno : ¬ mF M o) (okp : okP L ps) (hQ1 : x < 0 ∨ nI ps.length ≤ x → ∀ h', XP M Z o C S h h' aO na T xs L ps me c s → Q (some (.int 1)) h' c s) (hQ2 : ∀ p, x = nI p → p < ps.length → (r < 0 ∨ ∃ q, r = nI q ∧ q < 2 ^ 31 ∧ mra L ps p L.length 0 q = -1) → ∀ h', XP M Z o C S h h' aO na T xs L ps me c s → Q (some (.int 1)) h' c s) (hQ3 : ∀ p q k, x = nI p → r = nI q → p < ps.length → q < 2 ^ 31 → mra L ps p L.length 0 q = nI k → k < L.length → pIx ps k = p → fR L ps k = true → y.toInt < 0 ∨ 3 < y.toInt → ∀ h', XP M Z o C S h h' aO na T xs L ps me c s → Q (some (.int 2)) h' c s) (hQ4 : ∀ p q k w, x = nI p → r = nI q → y = nI w → p < ps.length → q < 2 ^ 31 → mra L ps p L.length 0 q = nI k → k < L.length → pIx ps k = p → fR L ps k = true → w < 4 → ∀ h', XP M Z o C S h h' aO na T xs L ps me (c + 1) (s + 6) → bp_J h' o 0 = (nI (ruV L ps p k w)).toInt64 → Q (some (.int 0)) h' (c + 1) (s + 6)) : bp_AW l G H0 (7, 155, false, false) M_Law_run h (c + 1) (s + 6) [.ref (Z 43), .int x, .int r, .int y, .ref o] Q := by
  refine bp_ofW (ls := [some (.ref (Z 43)), some (.int x), some (.int r), some (.int y), some (.ref o), none]) (by decide) dt_Law_run (Nat.le_of_ble_eq_true rfl) (fun q hq => hq) false ?_
  refine bp_aload (q := 2) 0 rfl rfl rfl ?_
  refine bp_iconst (v := 0) (q := 3) 1 rfl rfl (by decide) ?_
  refine bp_aload_n (q := 4) 2 rfl rfl rfl rfl ?_
  refine bp_iload_n (q := 5) 3 rfl rfl rfl rfl ?_
  refine bp_iload_n (q := 6) 4 rfl rfl rfl rfl ?_
  refine bp_iload_n (q := 7) 5 rfl rfl rfl rfl ?_
  by_cases ho : x < 0 ∨ nI ps.length ≤ x
  · obtain ⟨st, hst, hs9⟩ := p_st_out (x := x) okp
    refine bp_callVT (ci := 0) 6 rfl cw_X_run wd1278 rfl hX0.2.1.1 wd1279 wd1280 rfl rfl (Nat.le_of_ble_eq_true rfl) ⟨Nat.le_of_ble_eq_true rfl, Nat.le_of_ble_eq_true rfl⟩ rfl (t_X_run1 htl hX0 okp hst (p_en_out ho) (Nat.zero_le _) hs9 (by rw [Nat.zero_sub]; rfl) (fun a ha hX1 => ⟨13, 15, by rw [bp_K_new, if_pos rfl], ca_run_13, ?_⟩))
    refine bp_astore (q := 17) 10 rfl rfl (by decide) (bp_up5 rfl) ?_
    refine bp_iconst (v := 1) (q := 18) 11 rfl rfl (by decide) ?_
    exact bp_iret 12 rfl rfl rfl ⟨_, rfl, hQ1 ho _ (XP.of hX1 hko hlo)⟩
  · obtain ⟨p, rfl, hp⟩ := i_len (by have := okp.2.1; omega) ho
    have he := (okp.2.2.1 p hp).2.2.1
    have he3 := (okp.2.2.1 p hp).2.2.2
    have h4 := okp.1
    have hlk := lkL_len (L := L)
    have hfr : ∀ q, q < 2 ^ 31 → fro (lkL L) (pst ps p) (nI q) (p_e ps p - pst ps p) (pst ps p) 0 = mra L ps p L.length 0 q := fun q hq => by have z := mra_fro okp hp hq L.length 0 q (by omega) (Nat.le_refl q); rw [Nat.zero_max, Nat.sub_self] at z; exact z.symm
    rcases i_cs r with hr | ⟨q, rfl, hq⟩
    · refine bp_callVT (ci := 0) 6 rfl cw_X_run wd1278 rfl hX0.2.1.1 wd1279 wd1280 rfl rfl (Nat.le_of_ble_eq_true rfl) ⟨Nat.le_of_ble_eq_true rfl, Nat.le_of_ble_eq_true rfl⟩ rfl (t_X_run1 htl hX0 okp (p_st_in okp hp) (p_en_in okp hp) (by omega) (by omega) (fro_neg hr _ _ _ (by omega)) (fun a ha hX1 => ⟨13, 15, by rw [bp_K_new, if_pos rfl], ca_run_13, ?_⟩))
      refine bp_astore (q := 17) 10 rfl rfl (by decide) (bp_up5 rfl) ?_
      refine bp_iconst (v := 1) (q := 18) 11 rfl rfl (by decide) ?_
      exact bp_iret 12 rfl rfl rfl ⟨_, rfl, hQ2 p rfl hp (Or.inl hr) _ (XP.of hX1 hko hlo)⟩
    · rcases mra_is (L := L) (ps := ps) (p := p) L.length 0 q with hm | ⟨k, -, hk, hkp, hkf, hm⟩
      · refine bp_callVT (ci := 0) 6 rfl cw_X_run wd1278 rfl hX0.2.1.1 wd1279 wd1280 rfl rfl (Nat.le_of_ble_eq_true rfl) ⟨Nat.le_of_ble_eq_true rfl, Nat.le_of_ble_eq_true rfl⟩ rfl (t_X_run1 htl hX0 okp (p_st_in okp hp) (p_en_in okp hp) (by omega) (by omega) ((hfr q hq).trans hm) (fun a ha hX1 => ⟨13, 15, by rw [bp_K_new, if_pos rfl], ca_run_13, ?_⟩))
        refine bp_astore (q := 17) 10 rfl rfl (by decide) (bp_up5 rfl) ?_
        refine bp_iconst (v := 1) (q := 18) 11 rfl rfl (by decide) ?_
        exact bp_iret 12 rfl rfl rfl ⟨_, rfl, hQ2 p rfl hp (Or.inr ⟨q, rfl, hq, hm⟩) _ (XP.of hX1 hko hlo)⟩
      · have hk : k < L.length := by omega
        have hfe : k < p_e ps p := ((pIx_eq okp hp).mp hkp).2
        by_cases hw : y.toInt < 0 ∨ 3 < y.toInt
        · refine bp_callVT (ci := 0) 6 rfl cw_X_run wd1278 rfl hX0.2.1.1 wd1279 wd1280 rfl rfl (Nat.le_of_ble_eq_true rfl) ⟨Nat.le_of_ble_eq_true rfl, Nat.le_of_ble_eq_true rfl⟩ rfl (t_X_run2 htl hX0 okp hp hw ((hfr q hq).trans hm) hfe (fun a ha hX1 => ⟨10, 19, by rw [bp_K_new, if_pos rfl], ca_run_10, ?_⟩))
          refine bp_astore (q := 21) 13 rfl rfl (by decide) (bp_up5 rfl) ?_
          refine bp_iconst (v := 2) (q := 22) 14 rfl rfl (by decide) ?_
          exact bp_iret 15 rfl rfl rfl ⟨_, rfl, hQ3 p q k rfl rfl hp hq hm hk hkp hkf hw _ (XP.of hX1 hko hlo)⟩
        · obtain ⟨w, rfl, hw4⟩ := i_w4 hw
          refine bp_callV (q := 10) (ci := 0) 6 rfl rfl cw_X_run lk_Law_36 rfl hX0.2.1.1 wd1279 wd1280 rfl rfl (Nat.le_of_ble_eq_true rfl) ⟨Nat.le_of_ble_eq_true rfl, Nat.le_of_ble_eq_true rfl⟩ (s_X_run (ro := false) hX0 okp hp hw4 ((hfr q hq).trans hm) hfe ?_)
          have hX1 := hX0
          have hP1 := XP.of (hX1.less (Nat.le_succ C) (Nat.le_add_right S 6)) hko hlo
          refine bp_i2l (q := 11) 7 rfl rfl ?_
          refine bp_last (q := 12) 8 rfl rfl hP1.2.2.1 (by rw [hP1.2.2.2]; exact vp_in_nI (n := 0) (by decide) (by decide))  ?_
          rw [show ((0 : Int32).toNatClampNeg) = 0 from rfl]
          refine bp_nx (X := fun h2 => XP M Z o C S h h2 aO na T xs L ps me (c + 1) (s + 6) ∧ bp_J h2 o 0 = (nI (ruV L ps p k w)).toInt64) ⟨hP1.out hno, by rw [bp_J_sJ, if_pos ⟨rfl, rfl⟩]⟩ (fun h2 ⟨hP2, hJ⟩ => ?_)
          refine bp_goto (tgt := 23) 9 rfl (by decide) ?_
          refine bp_iconst (v := 0) (q := 24) 16 rfl rfl (by decide) ?_
          exact bp_iret 17 rfl rfl rfl ⟨_, rfl, hQ4 p q k w rfl rfl rfl hp hq hm hk hkp hkf hw4 _ hP2 hJ⟩
theorem wi_out {y : Int32} {en st : Nat} (h : en < 1000000) (h2 : st ≤ en) (hw : y < 0 ∨ nI (en - st) ≤ y) : wi y 0 (nI en - nI st - 1) = false := by
  rw [Bool.eq_false_iff]
  intro z
  rw [wi_i, nI_sub h2] at z
  rcases hw with w | w
  · exact absurd w (Int32.not_lt.mpr z.1)
  · have a := Int32.le_iff_toInt_le.mp w
    have b := Int32.le_iff_toInt_le.mp z.2
    rw [nI_toInt (by omega)] at a
    cases hk : en - st with
    | zero =>
      rw [hk] at b a
      rw [show (nI 0 - 1 : Int32).toInt = -1 from rfl] at b
      omega
    | succ k =>
      rw [hk, show nI (k + 1) - 1 = nI k from nI_sub (a := k + 1) (b := 1) (by omega), nI_toInt (by omega)] at b
      omega
set_option maxRecDepth 100000 in
set_option maxHeartbeats 4000000 in
theorem s_Law_letter {x y : Int32} (htl : l.stackTraces = false) (hX0 : XI (h, lP M o) Z (C + 1) (S + 6) h aO na T xs L ps me (c + 1) (s + 6)) (hko : bp_K h o = 2) (hlo : bp_L h o = 1) (hno : ¬ mF M o) (okp : okP L ps) (hQ1 : x < 0 ∨ nI ps.length ≤ x → ∀ h', XP M Z o C S h h' aO na T xs L ps me c s → Q (some (.int 1)) h' c s) (hQ2 : ∀ p, x = nI p → p < ps.length → y < 0 ∨ nI (p_e ps p - pst ps p) ≤ y → ∀ h', XP M Z o C S h h' aO na T xs L ps me c s → Q (some (.int 1)) h' c s) (hQ3 : ∀ p a, x = nI p → y = nI a → p < ps.length → a < p_e ps p - pst ps p → ∀ h', XP M Z o C S h h' aO na T xs L ps me (c + 1) (s + 6) → bp_J h' o 0 = (nI ((cdL L).getD (pst ps p + a) 0)).toInt64 → Q (some (.int 0)) h' (c + 1) (s + 6)) : bp_AW l G H0 (7, 153, false, false) M_Law_letter h (c + 1) (s + 6) [.ref (Z 43), .int x, .int y, .ref o] Q := by
  refine bp_ofW (ls := [some (.ref (Z 43)), some (.int x), some (.int y), some (.ref o), none]) (by decide) dt_Law_letter (Nat.le_of_ble_eq_true rfl) (fun q hq => hq) false ?_
  refine bp_aload_n (q := 1) 0 rfl rfl rfl rfl ?_
  refine bp_iconst (v := 0) (q := 2) 1 rfl rfl (by decide) ?_
  refine bp_aload_n (q := 3) 2 rfl rfl rfl rfl ?_
  refine bp_iload_n (q := 4) 3 rfl rfl rfl rfl ?_
  refine bp_iload_n (q := 5) 4 rfl rfl rfl rfl ?_
  by_cases ho : x < 0 ∨ nI ps.length ≤ x
  · obtain ⟨st, hst, hs9⟩ := p_st_out (x := x) okp
    refine bp_callVT (ci := 0) 5 rfl cw_X_letter wd1299 rfl hX0.2.1.1 wd1300 wd1301 rfl rfl (Nat.le_of_ble_eq_true rfl) ⟨Nat.le_of_ble_eq_true rfl, Nat.le_of_ble_eq_true rfl⟩ rfl (t_X_letter htl hX0 hst (p_en_out ho) (Or.inl ho) (fun a ha hX1 => ⟨13, 13, by rw [bp_K_new, if_pos rfl], ca_letter_13, ?_⟩))
    refine bp_astore (q := 15) 9 rfl rfl (by decide) (bp_up4 rfl) ?_
    refine bp_iconst (v := 1) (q := 16) 10 rfl rfl (by decide) ?_
    exact bp_iret 11 rfl rfl rfl ⟨_, rfl, hQ1 ho _ (XP.of hX1 hko hlo)⟩
  · obtain ⟨p, rfl, hp⟩ := i_len (by have := okp.2.1; omega) ho
    have he := (okp.2.2.1 p hp).2.2
    have h4 := okp.1
    by_cases hw : y < 0 ∨ nI (p_e ps p - pst ps p) ≤ y
    · refine bp_callVT (ci := 0) 5 rfl cw_X_letter wd1299 rfl hX0.2.1.1 wd1300 wd1301 rfl rfl (Nat.le_of_ble_eq_true rfl) ⟨Nat.le_of_ble_eq_true rfl, Nat.le_of_ble_eq_true rfl⟩ rfl (t_X_letter htl hX0 (p_st_in okp hp) (p_en_in okp hp) (Or.inr (wi_out (by omega) he.2 hw)) (fun a ha hX1 => ⟨13, 13, by rw [bp_K_new, if_pos rfl], ca_letter_13, ?_⟩))
      refine bp_astore (q := 15) 9 rfl rfl (by decide) (bp_up4 rfl) ?_
      refine bp_iconst (v := 1) (q := 16) 10 rfl rfl (by decide) ?_
      exact bp_iret 11 rfl rfl rfl ⟨_, rfl, hQ2 p rfl hp hw _ (XP.of hX1 hko hlo)⟩
    · obtain ⟨a_, rfl, ha_⟩ := i_len (by omega) hw
      refine bp_callV (q := 8) (ci := 0) 5 rfl rfl cw_X_letter lk_Law_40 rfl hX0.2.1.1 wd1300 wd1301 rfl rfl (Nat.le_of_ble_eq_true rfl) ⟨Nat.le_of_ble_eq_true rfl, Nat.le_of_ble_eq_true rfl⟩ (s_X_letter (ro := false) hX0 okp hp ha_ ?_)
      have hX1 := hX0
      have hP1 := XP.of (hX1.less (Nat.le_succ C) (Nat.le_add_right S 6)) hko hlo
      refine bp_i2l (q := 9) 6 rfl rfl ?_
      refine bp_last (q := 10) 7 rfl rfl hP1.2.2.1 (by rw [hP1.2.2.2]; exact vp_in_nI (n := 0) (by decide) (by decide))  ?_
      rw [show ((0 : Int32).toNatClampNeg) = 0 from rfl]
      refine bp_nx (X := fun h2 => XP M Z o C S h h2 aO na T xs L ps me (c + 1) (s + 6) ∧ bp_J h2 o 0 = (nI ((cdL L).getD (pst ps p + a_) 0)).toInt64) ⟨hP1.out hno, by rw [bp_J_sJ, if_pos ⟨rfl, rfl⟩]⟩ (fun h2 ⟨hP2, hJ⟩ => ?_)
      refine bp_goto (tgt := 17) 8 rfl (by decide) ?_
      refine bp_iconst (v := 0) (q := 18) 12 rfl rfl (by decide) ?_
      exact bp_iret 13 rfl rfl rfl ⟨_, rfl, hQ3 p a_ rfl rfl hp ha_ _ hP2 hJ⟩
end LAW2
