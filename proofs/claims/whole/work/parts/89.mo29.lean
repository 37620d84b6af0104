/-! the reference reads a run: what the class does -/
theorem nI_div {a b : Nat} (ha : a < 1000000) (hb : b < 1000000) : nI a / nI b = nI (a / b) := by
  have hd := Nat.div_le_self a b
  apply Int32.toInt_inj.mp
  rw [Int32.toInt_div, nI_toInt (by omega), nI_toInt (by omega), nI_toInt (by omega), ← Int.ofNat_tdiv]
  generalize a / b = q at hd ⊢
  exact Int.bmod_eq_of_le (by omega) (by omega)
theorem nI_rem {a b : Nat} (ha : a < 1000000) (hb : b < 1000000) : nI a - nI a / nI b * nI b = nI (a % b) := by
  rw [nI_div ha hb, nI_mul, nI_sub (by have := Nat.div_mul_le_self a b; omega)]
  congr 1
  have := Nat.div_add_mod a b
  rw [Nat.mul_comm] at this
  omega
theorem sh_t : ∀ o, o < 32 → ∀ t, t < 6 → 1 ≤ t → ((nI (2 * o)) >>> (nI t &&& 31)) &&& 1 = nI (o / 2 ^ (t - 1) % 2) := by decide +kernel
theorem llk_u {L1 : List (Nat × Nat)} {p1 : List (Nat × Nat × Nat)} {x y n : Nat} : llk L1 (p1 ++ [(x, y, n)]) = if pst p1 p1.length < n then some ((lkL L1).getD (n - 1) 0) else none := by
  unfold llk
  have e : (p1 ++ [(x, y, n)]).length - 1 = p1.length := by rw [List.length_append]; simp
  rw [e, pst_sn (Nat.le_refl _), show p_e (p1 ++ [(x, y, n)]) p1.length = n from by unfold p_e; rw [p_sn']]
theorem lk_sn {L1 : List (Nat × Nat)} {a b : Nat} : (lkL (L1 ++ [(a, b)])).getD L1.length 0 = b := by
  have z := n_sn' (xs := lkL L1) (q := b)
  rw [lkL_len] at z
  rw [lkL_sn]; exact z
theorem llk_put {L1 : List (Nat × Nat)} {p1 : List (Nat × Nat × Nat)} {x y a b : Nat} (h : pst p1 p1.length ≤ L1.length) : llk (L1 ++ [(a, b)]) (p1 ++ [(x, y, L1.length + 1)]) = some b := by
  rw [llk_u, if_pos (by omega), Nat.add_sub_cancel, lk_sn]
theorem cmL_inj {a b : Nat} (ha : a < 6400) (hb : b < 6400) (h : cmL a = cmL b) : a = b := by
  unfold cmL at h
  have e1 : a / 64 = a / 8 / 8 := by rw [Nat.div_div_eq_div_mul]
  have e2 : b / 64 = b / 8 / 8 := by rw [Nat.div_div_eq_div_mul]
  rw [e1, e2] at h
  omega
theorem cmL_lk {sy sz co : Nat} (h1 : sy < 8) (h2 : co < 8) : cmL (sy + 8 * co + 64 * sz) = sy + 8 * sz + 1024 * co := by
  unfold cmL
  omega
section EB
variable {T : List Nat} {i k e t o rs sy sz co : Nat} {n : Int32} {ed : Bool} {L : List (Nat × Nat)} {ps : List (Nat × Nat × Nat)}
theorem tTg_u {g ot : Nat} {fa me : Int32} {ip hl : Bool} : tTagE i g (i, fa, me, ip, ot, rs, hl, ed, sy, sz, co, L, ps) = (if ot / 2 ^ g = 1 then (if ot - 2 ^ g = 0 then (i + 4, fa, me, ip, 0, rs, false, false, 0, 12, 0, L, ps) else (i + 4, fa, me, ip, ot - 2 ^ g, rs, hl, true, sy, sz, co, L, ps)) else (i, -9, nI i, ip, ot, rs, hl, ed, sy, sz, co, L, ps)) := rfl
theorem tPe_u {ot : Nat} {fa me : Int32} {ip hl : Bool} : tParE i (i, fa, me, ip, ot, rs, hl, ed, sy, sz, co, L, ps) = (if ip = false ∨ ot ≠ 0 then (i, -9, nI i, ip, ot, rs, hl, ed, sy, sz, co, L, ps) else (i + 4, fa, me, false, ot, rs, hl, ed, sy, sz, co, L, ps)) := rfl
theorem p2_lt {t : Nat} (h1 : 1 ≤ t) (h5 : t ≤ 5) {k : Nat} (hk : k < 5) (hlo : 2 ^ (t - 1) ≤ o) (hhi : o < 2 ^ t) (h : o / 2 ^ k = 1) : k = t - 1 := by
  have c1 : t = 1 ∨ t = 2 ∨ t = 3 ∨ t = 4 ∨ t = 5 := by omega
  have c2 : k = 0 ∨ k = 1 ∨ k = 2 ∨ k = 3 ∨ k = 4 := by omega
  rcases c1 with c1 | c1 | c1 | c1 | c1 <;> subst c1 <;> rcases c2 with c2 | c2 | c2 | c2 | c2 <;> subst c2 <;> simp at * <;> omega
/-- where an end tag is due, another thing is a fault -/
theorem end_bad (hC : okC T) (h : LAr T i k n e) (hU : okU T (i, 0, -1, true, o, rs, true, ed, sy, sz, co, L, ps)) (h1 : 1 ≤ t) (h5 : t ≤ 5) (hlo : 2 ^ (t - 1) ≤ o) (hhi : o < 2 ^ t) (hk : ¬ k = 5 + t) (h13 : k = 13 → ed = true) : tFa (TT T (i, 0, -1, true, o, rs, true, ed, sy, sz, co, L, ps)) = -9 ∧ tMe (TT T (i, 0, -1, true, o, rs, true, ed, sy, sz, co, L, ps)) = nI i := by
  have ho : o ≠ 0 := by have := Nat.two_pow_pos (t - 1); omega
  have hle := h.le
  by_cases c0 : k = 0
  · subst c0
    have hi := h.c0
    have hi2 : i ≤ T.length := hU.1
    rw [TT_fin rfl hi, tFin_u, if_pos rfl, show i = T.length by omega]
    exact ⟨rfl, rfl⟩
  have hi := h.in c0
  refine TT_bad hC hU rfl hi ?_ (by decide)
  by_cases c1 : k ≤ 5
  · exact (h.run (by omega) c1).no (Or.inr (Or.inl rfl))
  by_cases c2 : k ≤ 10
  · rw [(h.tagE (by omega) c2).2.2, if_neg (fun z => by cases z.2), tTg_u, if_neg (fun z => hk (by have := p2_lt h1 h5 (by omega) hlo hhi z; omega))]
    exact ⟨rfl, rfl⟩
  by_cases c3 : k = 11
  · subst c3
    rw [h.parE.2.2, if_neg (fun z => by cases z.2), tPe_u, if_pos (Or.inr ho)]
    exact ⟨rfl, rfl⟩
  by_cases c4 : k = 12
  · subst c4
    rw [h.head.2.2, if_pos rfl]
    exact ⟨rfl, rfl⟩
  by_cases c5 : k = 13
  · subst c5
    exact (h.letter hC).1 (Or.inr (h13 rfl))
  · have : k = 14 := by omega
    subst this
    exact h.none_ hC
/-- the right end tag -/
theorem end_ok (h : LAr T i (5 + t) n e) (h1 : 1 ≤ t) (h5 : t ≤ 5) (hlo : 2 ^ (t - 1) ≤ o) (hhi : o < 2 ^ t) : n = 0 ∧ e = i + 4 ∧ tThing T (i, 0, -1, true, o, rs, true, ed, sy, sz, co, L, ps) = (if o - 2 ^ (t - 1) = 0 then (i + 4, 0, -1, true, 0, rs, false, false, 0, 12, 0, L, ps) else (i + 4, 0, -1, true, o - 2 ^ (t - 1), rs, true, true, sy, sz, co, L, ps)) := by
  obtain ⟨q1, q2, q3⟩ := h.tagE (fa := 0) (me := -1) (ip := true) (ot := o) (rs := rs) (hl := true) (ed := ed) (sy := sy) (sz := sz) (co := co) (L := L) (ps := ps) (by omega) (by omega)
  refine ⟨q1, q2, ?_⟩
  have e1 : o / 2 ^ (5 + t - 6) = 1 := by
    rw [show 5 + t - 6 = t - 1 by omega]
    have : 2 ^ t = 2 ^ (t - 1) * 2 := by rw [← Nat.pow_succ, Nat.succ_eq_add_one, Nat.sub_add_cancel h1]
    exact Nat.div_eq_of_lt_le (by omega) (by omega)
  rw [q3, if_neg (fun z => by cases z.2), tTg_u, if_pos e1, show 5 + t - 6 = t - 1 by omega]
/-- right behind the tags of a run: not a letter -/
theorem tags_bad {ot lst : Nat} (hC : okC T) (h : LAr T i k n e) (hU : okU T (i, 0, -1, true, ot, rs, false, false, sy, sz, co, L, ps)) (hI : RTI ot sy sz co lst) (hx : ¬ (1 ≤ k ∧ k ≤ 5 ∧ lst < k)) (hk : ¬ k = 13) (h11 : ot = 0 → ¬ k = 11) : tFa (TT T (i, 0, -1, true, ot, rs, false, false, sy, sz, co, L, ps)) = (if ot ≠ 0 ∧ 6 ≤ k ∧ k ≤ 11 then -10 else -9) ∧ tMe (TT T (i, 0, -1, true, ot, rs, false, false, sy, sz, co, L, ps)) = nI i := by
  have hle := h.le
  by_cases c0 : k = 0
  · subst c0
    have hi := h.c0
    have hi2 : i ≤ T.length := hU.1
    rw [TT_fin rfl hi, tFin_u, if_pos rfl, if_neg (by omega), show i = T.length by omega]
    exact ⟨rfl, rfl⟩
  have hi := h.in c0
  refine TT_bad hC hU rfl hi ?_ (by split <;> decide)
  by_cases c1 : k ≤ 5
  · rw [if_neg (by omega)]
    refine (h.run (by omega) c1).no (Or.inr (Or.inr ?_))
    have hl := hI.1
    have c : k = 1 ∨ k = 2 ∨ k = 3 ∨ k = 4 ∨ k = 5 := by omega
    rcases c with c | c | c | c | c <;> subst c <;> simp <;> omega
  by_cases c2 : k ≤ 11
  · have e0 : ∀ A : TS, (if ot ≠ 0 ∧ false = false then (i, (-10 : Int32), nI i, true, ot, rs, false, false, sy, sz, co, L, ps) else A) = if ot ≠ 0 then (i, -10, nI i, true, ot, rs, false, false, sy, sz, co, L, ps) else A := fun A => by
      by_cases z : ot ≠ 0
      · rw [if_pos ⟨z, rfl⟩, if_pos z]
      · rw [if_neg (fun q => z q.1), if_neg z]
    by_cases z : ot ≠ 0
    · rw [if_pos ⟨z, by omega, c2⟩]
      by_cases c3 : k ≤ 10
      · rw [(h.tagE (by omega) c3).2.2, e0, if_pos z]; exact ⟨rfl, rfl⟩
      · have : k = 11 := by omega
        subst this
        rw [h.parE.2.2, e0, if_pos z]; exact ⟨rfl, rfl⟩
    · rw [if_neg (fun q => z q.1)]
      have z0 : ot = 0 := Classical.not_not.mp z
      by_cases c3 : k ≤ 10
      · rw [(h.tagE (by omega) c3).2.2, e0, if_neg z, tTg_u, if_neg (by rw [z0, Nat.zero_div]; decide)]; exact ⟨rfl, rfl⟩
      · exact absurd (show k = 11 by omega) (h11 z0)
  rw [if_neg (by omega)]
  by_cases c4 : k = 12
  · subst c4
    rw [h.head.2.2, if_pos rfl]
    exact ⟨rfl, rfl⟩
  · have : k = 14 := by omega
    subst this
    exact h.none_ hC
end EB
section MO29
variable {l : Launch} {G : bp_G} {H0 : Heap} {M : Nat → Nat} {h0 h : bp_H} {tw : Int32} {i : Nat} {fa : Int32} {fm : Int32} {tl : Int32} {lk : Nat} {al : Nat} {ind : Nat} {sk : Nat} {dp : Nat} {lv : Nat} {fr : Bool} {en : Nat} {nf : Nat} {nn : Nat} {dg : Nat} {nu : Int32} {kd : Nat} {pn : Int32} {pe : Nat} {T : List Nat} {xs : List Nat} {L : List (Nat × Nat)} {ps : List (Nat × Nat × Nat)} {L1 : List (Nat × Nat)} {p1 : List (Nat × Nat × Nat)} {nt : List (Nat → Nat)} {tb : List Nat} {fd : List Nat} {c s : Nat} {Q : Option Value → bp_H → Nat → Nat → Prop} {R : TS} {x y : Nat}
theorem nI_p1 (t : Nat) : nI (t + 1) + (-1) = nI t := by
  rw [← nI_1 t, Int32.add_assoc]
  exact Int32.add_zero _
set_option maxRecDepth 100000 in
set_option maxHeartbeats 4000000 in
theorem lp_Mo_rrF {v1 v2 v3 v4 v5 v6 : Int32} {lo8 : Option Value} (hB0 : MoX M h0 h tw i fa fm tl lk al ind sk dp lv fr en nf nn dg nu kd pn pe T xs L ps L1 p1 nt tb fd) (hf : ¬ fa = 0) (hr1 : tFa R = fa) (hr2 : tMe R = fm) (hQ0 : ∀ h', TBd M h0 h' tw tl lk al ind sk dp lv fr en nf nn dg nu T xs L ps nt tb fd R → Q none h' c s) : ∀ (t : Nat), t ≤ 5 → bp_A l G H0 (7, 159, false, false) M_Mo_readRun h c s 209 [some (.ref (M 0)), some (.int v1), some (.int v2), some (.int v3), some (.int v4), some (.int v5), some (.int v6), some (.int (nI t)), lo8] [] (fun o h' c' s' => ∃ v, o = .returned v ∧ Q v h' c' s') := by
  intro t
  induction t with
  | zero =>
    intro ht
    refine bp_iload (q := 211) 111 rfl rfl rfl ?_
    refine bp_iconst (v := 1) (q := 212) 112 rfl rfl (by decide) ?_
    refine bp_icmp_lt (q := 215) (tgt := 274) 113 rfl rfl (by decide) (fun z212 => ?_) (fun z212 => ?_)
    · exact bp_vret 145 rfl rfl  ⟨_, rfl, hQ0 _ ⟨_, _, _, _, _, _, _, _, hf, hB0, hr1, hr2⟩⟩
    · exact absurd (by decide) z212
  | succ t ih =>
    intro ht
    refine bp_iload (q := 211) 111 rfl rfl rfl ?_
    refine bp_iconst (v := 1) (q := 212) 112 rfl rfl (by decide) ?_
    refine bp_icmp_lt (q := 215) (tgt := 274) 113 rfl rfl (by decide) (fun z212 => ?_) (fun z212 => ?_)
    · have := (nI_lt_iff (b := 1) (by omega) (by decide)).mp z212
      omega
    · refine bp_aload_n (q := 216) 114 rfl rfl rfl rfl ?_
      refine bp_getI (q := 219) (ci := 9) (j := 13) 115 rfl rfl fl_Mo_69_9 hB0.kb rfl ?_
      rw [hB0.i13]
      refine bp_if_ne (q := 222) (tgt := 268) 116 rfl rfl (by decide) (fun z219 => ?_) (fun z219 => ?_)
      · refine bp_iinc (v := nI t) (q := 271) 143 rfl rfl rfl (nI_p1 t) (by decide) (bp_up7 rfl) ?_
        refine bp_goto (tgt := 209) 144 rfl (by decide) ?_
        exact ih (by omega)
      · exact absurd z219 hf
set_option maxRecDepth 100000 in
set_option maxHeartbeats 4000000 in
theorem lp_Mo_rrG {v1 v2 v3 v4 v5 v6 : Int32} {lo7 lo8 : Option Value} (hB0 : MoX M h0 h tw i fa fm tl lk al ind sk dp lv fr en nf nn dg nu kd pn pe T xs L ps L1 p1 nt tb fd) (hf : ¬ fa = 0) (hr1 : tFa R = fa) (hr2 : tMe R = fm) (hQ0 : ∀ h', TBd M h0 h' tw tl lk al ind sk dp lv fr en nf nn dg nu T xs L ps nt tb fd R → Q none h' c s) : bp_A l G H0 (7, 159, false, false) M_Mo_readRun h c s 88 [some (.ref (M 0)), some (.int v1), some (.int v2), some (.int v3), some (.int v4), some (.int v5), some (.int v6), lo7, lo8] [] (fun o h' c' s' => ∃ v, o = .returned v ∧ Q v h' c' s') := by
  refine bp_aload_n (q := 89) 46 rfl rfl rfl rfl ?_
  refine bp_getI (q := 92) (ci := 9) (j := 13) 47 rfl rfl fl_Mo_69_9 hB0.kb rfl ?_
  rw [hB0.i13]
  refine bp_if_ne (q := 95) (tgt := 206) 48 rfl rfl (by decide) (fun z92 => ?_) (fun z92 => ?_)
  · refine bp_iconst (v := 5) (q := 207) 109 rfl rfl (by decide) ?_
    refine bp_istore (q := 209) 110 rfl rfl (by decide) (bp_up7 rfl) ?_
    exact lp_Mo_rrF hB0 hf hr1 hr2 hQ0 5 (by decide)
  · exact absurd z92 hf
theorem bit_no {o ot t : Nat} (h : o = ot % 2 ^ (t + 1)) (hb : ¬ ot / 2 ^ t % 2 = 1) : o = ot % 2 ^ t := by
  rw [Nat.pow_succ, Nat.mod_mul] at h
  rw [h, show ot / 2 ^ t % 2 = 0 by omega, Nat.mul_zero, Nat.add_zero]
theorem bit_yes {o ot t : Nat} (h : o = ot % 2 ^ (t + 1)) (hb : ot / 2 ^ t % 2 = 1) : o - 2 ^ t = ot % 2 ^ t := by
  rw [Nat.pow_succ, Nat.mod_mul, hb, Nat.mul_one] at h
  omega
theorem bit_lo {o ot t : Nat} (h : o = ot % 2 ^ (t + 1)) (hb : ot / 2 ^ t % 2 = 1) : 2 ^ (t + 1 - 1) ≤ o := by
  rw [Nat.pow_succ, Nat.mod_mul, hb, Nat.mul_one] at h
  rw [Nat.add_sub_cancel]
  omega
set_option maxRecDepth 100000 in
set_option maxHeartbeats 4000000 in
theorem lp_Mo_rrE {v1 v2 v3 v5 v6 : Int32} {lo8 : Option Value} {ot sy sz co i0 : Nat} (hC : okC T) (ho32 : ot < 32) (hLL : ot ≠ 0 → ¬ llk L1 (p1 ++ [(x, y, L1.length)]) = some 768) (hQ1 : ∀ h' i' k' n' e' rs' L', MoX M h0 h' tw i' 0 fm tl lk al ind sk dp lv fr en nf nn dg nu k' n' e' T xs L ps L' p1 nt tb fd → TGd T R i' k' n' e' 0 rs' false false 0 12 0 L' p1 x y → (k' = 13 → ¬ llk L' (p1 ++ [(x, y, L'.length)]) = some 768) → i0 < i' → Q none h' c s) (hQ0 : ∀ h', TBd M h0 h' tw tl lk al ind sk dp lv fr en nf nn dg nu T xs L ps nt tb fd R → Q none h' c s) : ∀ (t : Nat) (i k : Nat) (n : Int32) (e o : Nat) (ed : Bool) (rs : Nat) (h : bp_H), t ≤ 5 → MoX M h0 h tw i 0 fm tl lk al ind sk dp lv fr en nf nn dg nu k n e T xs L ps L1 p1 nt tb fd → o = ot % 2 ^ t → ((o = 0 ∧ TGd T R i k n e 0 rs false false 0 12 0 L1 p1 x y) ∨ (¬ o = 0 ∧ TGd T R i k n e o rs true ed sy sz co L1 p1 x y ∧ (ed = false → ¬ k = 13))) → (ot = 0 → ¬ k = 13) → i0 < i → bp_A l G H0 (7, 159, false, false) M_Mo_readRun h c s 209 [some (.ref (M 0)), some (.int v1), some (.int v2), some (.int v3), some (.int (nI (2 * ot))), some (.int v5), some (.int v6), some (.int (nI t)), lo8] [] (fun o h' c' s' => ∃ v, o = .returned v ∧ Q v h' c' s') := by
  have hT4 := hC.1.1
  intro t
  induction t with
  | zero =>
    intro i k n e o ed rs h ht hB0 hoT hSt hz hii
    refine bp_iload (q := 211) 111 rfl rfl rfl ?_
    refine bp_iconst (v := 1) (q := 212) 112 rfl rfl (by decide) ?_
    refine bp_icmp_lt (q := 215) (tgt := 274) 113 rfl rfl (by decide) (fun z212 => ?_) (fun z212 => ?_)
    · refine bp_vret 145 rfl rfl  ⟨_, rfl, ?_⟩
      have h1 : o = 0 := by rw [hoT]; exact Nat.mod_one ot
      have hG := (hSt.resolve_right (fun z => z.1 h1)).2
      exact hQ1 _ _ _ _ _ _ _ hB0 hG (fun z => hLL (fun w => hz w z)) hii
    · exact absurd (by decide) z212
  | succ t ih =>
    intro i k n e o ed rs h ht hB0 hoT hSt hz hii
    refine bp_iload (q := 211) 111 rfl rfl rfl ?_
    refine bp_iconst (v := 1) (q := 212) 112 rfl rfl (by decide) ?_
    refine bp_icmp_lt (q := 215) (tgt := 274) 113 rfl rfl (by decide) (fun z212 => ?_) (fun z212 => ?_)
    · have := (nI_lt_iff (b := 1) (by omega) (by decide)).mp z212
      omega
    · refine bp_aload_n (q := 216) 114 rfl rfl rfl rfl ?_
      refine bp_getI (q := 219) (ci := 9) (j := 13) 115 rfl rfl fl_Mo_69_9 hB0.kb rfl ?_
      rw [hB0.i13]
      refine bp_if_ne (q := 222) (tgt := 268) 116 rfl rfl (by decide) (fun z => absurd z (by decide)) (fun z219 => ?_)
      refine bp_iload (q := 224) 117 rfl rfl rfl ?_
      refine bp_iload (q := 226) 118 rfl rfl rfl ?_
      refine bp_ishr (q := 227) 119 rfl rfl ?_
      refine bp_iconst (v := 1) (q := 228) 120 rfl rfl (by decide) ?_
      refine bp_iand (q := 229) 121 rfl rfl ?_
      rw [sh_t ot ho32 (t + 1) (by omega) (by omega), Nat.add_sub_cancel]
      refine bp_iconst (v := 1) (q := 230) 122 rfl rfl (by decide) ?_
      refine bp_icmp_ne (q := 233) (tgt := 268) 123 rfl rfl (by decide) (fun z230 => ?_) (fun z230 => ?_)
      · refine bp_iinc (v := nI t) (q := 271) 143 rfl rfl rfl (nI_p1 t) (by decide) (bp_up7 rfl) ?_
        refine bp_goto (tgt := 209) 144 rfl (by decide) ?_
        have hb0 : ¬ ot / 2 ^ t % 2 = 1 := fun z => z230 (by rw [z]; rfl)
        have hoo : o = ot % 2 ^ t := bit_no hoT hb0
        exact ih _ _ _ _ _ _ _ _ (by omega) hB0 hoo hSt hz hii
      · refine bp_aload_n (q := 234) 124 rfl rfl rfl rfl ?_
        refine bp_aload_n (q := 235) 125 rfl rfl rfl rfl ?_
        refine bp_getI (q := 238) (ci := 9) (j := 31) 126 rfl rfl fl_Mo_267_9 hB0.kb rfl ?_
        rw [hB0.i31]
        refine bp_iconst (v := 5) (q := 239) 127 rfl rfl (by decide) ?_
        refine bp_iload (q := 241) 128 rfl rfl rfl ?_
        refine bp_iadd (q := 242) 129 rfl rfl ?_
        rw [show (5 : Int32) + nI (t + 1) = nI (5 + (t + 1)) from nI_add 5 (t + 1)]
        refine bp_icmp_eq (q := 245) (tgt := 249) 130 rfl rfl (by decide) (fun z242 => ?_) (fun z242 => ?_)
        · refine bp_iconst (v := 0) (q := 250) 133 rfl rfl (by decide) ?_
          refine bp_bipush (v := -9) (q := 252) 134 rfl rfl (by decide) ?_
          refine bp_aload_n (q := 253) 135 rfl rfl rfl rfl ?_
          refine bp_getI (q := 256) (ci := 9) (j := 12) 136 rfl rfl fl_Mo_90_9 hB0.kb rfl ?_
          rw [hB0.i12]
          have hb1 : ot / 2 ^ t % 2 = 1 := (nI_eq_iff (b := 1) (by have := Nat.mod_lt (ot / 2 ^ t) (show 0 < 2 by decide); omega) (by decide)).mp (by first | exact z230 | exact Classical.not_not.mp z230)
          have hlo : 2 ^ (t + 1 - 1) ≤ o := bit_lo hoT hb1
          have hhi : o < 2 ^ (t + 1) := by rw [hoT]; exact Nat.mod_lt _ (Nat.two_pow_pos _)
          have hp := Nat.two_pow_pos (t + 1 - 1)
          have hGx := hSt.resolve_left (fun z => by omega)
          have hG := hGx.2.1
          have hG13 := hGx.2.2
          have hk14 := hG.1.le
          have hiT : i ≤ T.length := hG.2.1.1
          refine bp_callV (q := 259) (ci := 9) 137 rfl rfl cw_Mo_failIf lk_Mo_118 rfl hB0.kb wd1449 wd44 rfl rfl (Nat.le_of_ble_eq_true rfl) ⟨Nat.le_of_ble_eq_true rfl, Nat.le_of_ble_eq_true rfl⟩ (s_Mo_failIfN hB0 rfl ?_)
          refine bp_aload_n (q := 260) 138 rfl rfl rfl rfl ?_
          have hk5 : k = 5 + (t + 1) := (nI_eq_iff (by omega) (by omega)).mp z242
          subst hk5
          obtain ⟨q1, q2, q3⟩ := end_ok (o := o) (rs := rs) (ed := ed) (sy := sy) (sz := sz) (co := co) (L := L1) (ps := p1 ++ [(x, y, L1.length)]) hG.1 (by omega) (by omega) hlo hhi
          have hi := hG.1.in (by omega)
          have s1 := TT_step hC hG.2.1 rfl hi
          have m1 := okU_thing hC.1 hC.2 hG.2.1 rfl hi
          rw [q3] at s1 m1
          rw [hG.2.2] at s1
          have heT : e ≤ T.length := by rw [q2]; split at m1 <;> exact m1.1.1
          refine bp_callV (q := 263) (ci := 9) 139 rfl rfl cw_Mo_accept lk_Mo_323 rfl hB0.kb wd1615 wd70 rfl rfl (Nat.le_of_ble_eq_true rfl) ⟨Nat.le_of_ble_eq_true rfl, Nat.le_of_ble_eq_true rfl⟩ (s_Mo_accept0 hB0 (by rw [q1]; decide) (fun h1 hB1 => ?_))
          refine bp_pop (q := 264) 140 rfl rfl rfl ?_
          refine bp_aload_n (q := 265) 141 rfl rfl rfl rfl ?_
          refine bp_callV (q := 268) (ci := 9) 142 rfl rfl cw_Mo_lookAhead lk_Mo_320 rfl hB1.kb wd1576 wd64 rfl rfl (Nat.le_of_ble_eq_true rfl) ⟨Nat.le_of_ble_eq_true rfl, Nat.le_of_ble_eq_true rfl⟩ (s_Mo_lookAhead hB1 hC.1 (by omega) (fun h2 k' n' e' hL' hB2 => ?_))
          refine bp_iinc (v := nI t) (q := 271) 143 rfl rfl rfl (nI_p1 t) (by decide) (bp_up7 rfl) ?_
          refine bp_goto (tgt := 209) 144 rfl (by decide) ?_
          have hoo : o - 2 ^ t = ot % 2 ^ t := bit_yes hoT hb1
          refine ih e k' n' e' (o - 2 ^ t) true rs _ (by omega) hB2 hoo ?_ (fun z => by rw [z, Nat.zero_div] at hb1; cases hb1) (by omega)
          by_cases z : o - 2 ^ t = 0
          · rw [if_pos (show o - 2 ^ (t + 1 - 1) = 0 from z), ← q2] at s1 m1
            exact Or.inl ⟨z, hL', m1.1, s1.symm⟩
          · rw [if_neg (show ¬ o - 2 ^ (t + 1 - 1) = 0 from z), ← q2] at s1 m1
            exact Or.inr ⟨z, ⟨hL', m1.1, s1.symm⟩, fun w => by cases w⟩
        · refine bp_iconst (v := 1) (q := 246) 131 rfl rfl (by decide) ?_
          refine bp_goto (tgt := 250) 132 rfl (by decide) ?_
          refine bp_bipush (v := -9) (q := 252) 134 rfl rfl (by decide) ?_
          refine bp_aload_n (q := 253) 135 rfl rfl rfl rfl ?_
          refine bp_getI (q := 256) (ci := 9) (j := 12) 136 rfl rfl fl_Mo_90_9 hB0.kb rfl ?_
          rw [hB0.i12]
          have hb1 : ot / 2 ^ t % 2 = 1 := (nI_eq_iff (b := 1) (by have := Nat.mod_lt (ot / 2 ^ t) (show 0 < 2 by decide); omega) (by decide)).mp (by first | exact z230 | exact Classical.not_not.mp z230)
          have hlo : 2 ^ (t + 1 - 1) ≤ o := bit_lo hoT hb1
          have hhi : o < 2 ^ (t + 1) := by rw [hoT]; exact Nat.mod_lt _ (Nat.two_pow_pos _)
          have hp := Nat.two_pow_pos (t + 1 - 1)
          have hGx := hSt.resolve_left (fun z => by omega)
          have hG := hGx.2.1
          have hG13 := hGx.2.2
          have hk14 := hG.1.le
          have hiT : i ≤ T.length := hG.2.1.1
          refine bp_callV (q := 259) (ci := 9) 137 rfl rfl cw_Mo_failIf lk_Mo_118 rfl hB0.kb wd1449 wd44 rfl rfl (Nat.le_of_ble_eq_true rfl) ⟨Nat.le_of_ble_eq_true rfl, Nat.le_of_ble_eq_true rfl⟩ (s_Mo_failIf0 hB0 (by decide) rfl (fun h1 hB1 => ?_))
          refine bp_aload_n (q := 260) 138 rfl rfl rfl rfl ?_
          refine bp_callV (q := 263) (ci := 9) 139 rfl rfl cw_Mo_accept lk_Mo_323 rfl hB1.kb wd1615 wd70 rfl rfl (Nat.le_of_ble_eq_true rfl) ⟨Nat.le_of_ble_eq_true rfl, Nat.le_of_ble_eq_true rfl⟩ (s_Mo_accept1 hB1 (by decide) (fun h2 hB2 => ?_))
          refine bp_pop (q := 264) 140 rfl rfl rfl ?_
          refine bp_aload_n (q := 265) 141 rfl rfl rfl rfl ?_
          refine bp_callV (q := 268) (ci := 9) 142 rfl rfl cw_Mo_lookAhead lk_Mo_320 rfl hB2.kb wd1576 wd64 rfl rfl (Nat.le_of_ble_eq_true rfl) ⟨Nat.le_of_ble_eq_true rfl, Nat.le_of_ble_eq_true rfl⟩ (s_Mo_lookAhead hB2 hC.1 (by omega) (fun h3 k' n' e' hL' hB3 => ?_))
          refine bp_iinc (v := nI t) (q := 271) 143 rfl rfl rfl (nI_p1 t) (by decide) (bp_up7 rfl) ?_
          refine bp_goto (tgt := 209) 144 rfl (by decide) ?_
          have hk5 : ¬ k = 5 + (t + 1) := fun z => z242 (by rw [z])
          obtain ⟨r1, r2⟩ := end_bad hC hG.1 hG.2.1 (by omega) (by omega) hlo hhi hk5 (fun z => by cases ed with | true => rfl | false => exact absurd z (hG13 rfl))
          rw [hG.2.2] at r1 r2
          exact lp_Mo_rrF hB3 (by decide) r1 r2 hQ0 t (by omega)
end MO29
