/-! the braced reading of the reference against the class's: outcomes -/
def RR (T : List Nat) (σ : BS) : BS := bRes T T.length σ
theorem RR_f {T : List Nat} {σ : BS} (h : σ.2.1 ≠ 0) : RR T σ = σ := by
  unfold RR
  cases T.length with
  | zero => exact if_neg h
  | succ k => exact (if_pos (Or.inl h)).trans (if_neg h)
theorem RR_step {T : List Nat} {σ : BS} (hT : okT T) (h : okB T σ) (hf : σ.2.1 = 0) (hi : σ.1 < T.length) (he : σ.2.2.2.2.2.2.1 = false) : RR T σ = RR T (bThing T σ) := by
  obtain ⟨n, hn⟩ : ∃ n, T.length = n + 1 := ⟨T.length - 1, by omega⟩
  have z : ¬ (σ.2.1 ≠ 0 ∨ T.length ≤ σ.1 ∨ σ.2.2.2.2.2.2.1 = true) := by
    rintro (z | z | z)
    · exact z hf
    · omega
    · rw [he] at z; cases z
  have e : RR T σ = bRes T n (bThing T σ) := by
    unfold RR
    rw [hn]
    exact if_neg z
  have q := okB_thing hT h hi
  rw [e]
  rcases q.2 with y | y
  · exact bRes_enough hT n T.length _ q.1 (by omega) (by omega)
  · rw [RR_f y]
    cases n with
    | zero => exact if_neg y
    | succ k => exact (if_pos (Or.inl y)).trans (if_neg y)
theorem bRes_fin {T : List Nat} {σ : BS} (hf : σ.2.1 = 0) (hi : T.length ≤ σ.1 ∨ σ.2.2.2.2.2.2.1 = true) : ∀ n, bRes T n σ = bFin T σ
  | 0 => if_pos hf
  | n + 1 => (if_pos (Or.inr hi)).trans (if_pos hf)
theorem RR_fin {T : List Nat} {σ : BS} (hf : σ.2.1 = 0) (hi : T.length ≤ σ.1 ∨ σ.2.2.2.2.2.2.1 = true) : RR T σ = bFin T σ := bRes_fin hf hi _
def OUTB (M : Nat → Nat) (h0 h : bp_H) (tw tl : Int32) (kd : Nat) (pn : Int32) (pe : Nat) (T xs : List Nat) (L : List (Nat × Nat)) (ps : List (Nat × Nat × Nat)) (ρ : BS) (j : Nat) : Prop :=
  (∃ (i lv : Nat) (fr : Bool) (v : Nat → Nat) (nt : List (Nat → Nat)) (tb nm : List Nat) (L1 : List (Nat × Nat)) (p1 : List (Nat × Nat × Nat)) (fm : Int32) (nf nn dg : Nat) (nu : Int32) (fd : List Nat), MoX M h0 h tw i 0 fm tl (mlV v) (v 3) (v 4) (v 5) nt.length lv fr tb.length nf nn dg nu kd pn pe T xs L ps L1 p1 nt tb fd ∧ okX T i lv false v nt tb nm L1 p1 ∧ j < i ∧ RR T ρ = RR T (i, 0, -1, lv, fr, false, decide (nt = []), v, nt, tb, nm, L1, p1)) ∨
  (∃ (fa fm : Int32) (i lk al ind sk dp lv : Nat) (fr : Bool) (en nf nn dg : Nat) (nu : Int32) (L1 : List (Nat × Nat)) (p1 : List (Nat × Nat × Nat)) (nt : List (Nat → Nat)) (tb fd : List Nat), fa ≠ 0 ∧ MoX M h0 h tw i fa fm tl lk al ind sk dp lv fr en nf nn dg nu kd pn pe T xs L ps L1 p1 nt tb fd ∧ bFa (RR T ρ) = fa ∧ bMe (RR T ρ) = fm)
def lvl : List Nat → Nat
  | [] => 0
  | a :: l => a + 256 * lvl l
theorem lvl_sn (c : Nat) : ∀ l : List Nat, lvl (l ++ [c]) = lvl l + c * 256 ^ l.length
  | [] => by show c + 256 * 0 = 0 + c * 1; omega
  | a :: l => by
    show a + 256 * lvl (l ++ [c]) = a + 256 * lvl l + c * 256 ^ (l.length + 1)
    rw [lvl_sn c l, Nat.pow_succ, Nat.mul_add, Nat.mul_comm (256 ^ l.length) 256, ← Nat.mul_assoc, ← Nat.mul_assoc, Nat.mul_comm 256 c]
    omega
theorem lvl_lt : ∀ l : List Nat, (∀ x ∈ l, x < 256) → lvl l < 256 ^ l.length
  | [], _ => by show 0 < 1; decide
  | a :: l, h => by
    have q := lvl_lt l (fun x hx => h x (List.mem_cons_of_mem _ hx))
    have r := h a (List.mem_cons_self ..)
    show a + 256 * lvl l < 256 ^ (l.length + 1)
    rw [Nat.pow_succ]
    omega
theorem lvl_inj : ∀ l k : List Nat, (∀ x ∈ l, 1 ≤ x ∧ x < 256) → (∀ x ∈ k, 1 ≤ x ∧ x < 256) → lvl l = lvl k → l = k
  | [], [], _, _, _ => rfl
  | [], b :: k, _, h, e => by
    have := h b (List.mem_cons_self ..)
    have e : 0 = b + 256 * lvl k := e
    omega
  | a :: l, [], h, _, e => by
    have := h a (List.mem_cons_self ..)
    have e : a + 256 * lvl l = 0 := e
    omega
  | a :: l, b :: k, h, h2, e => by
    have := h a (List.mem_cons_self ..)
    have := h2 b (List.mem_cons_self ..)
    have e : a + 256 * lvl l = b + 256 * lvl k := e
    have q := lvl_inj l k (fun x hx => h x (List.mem_cons_of_mem _ hx)) (fun x hx => h2 x (List.mem_cons_of_mem _ hx)) (by omega)
    rw [q, show a = b by omega]
def ok8 (l : List Nat) : Prop := ∀ x ∈ l, 1 ≤ x ∧ x < 256
theorem lx_iff {x K : Int64} {nm ys : List Nat} (hx : x.toBitVec.toNat = lvl nm) (hK : K.toBitVec.toNat = lvl ys) (h1 : ok8 nm) (h2 : ok8 ys) : x = K ↔ nm = ys := by
  constructor
  · intro e
    exact lvl_inj nm ys h1 h2 (by rw [← hx, ← hK, e])
  · intro e
    apply Int64.toBitVec_inj.mp
    apply BitVec.eq_of_toNat_eq
    rw [hx, hK, e]
theorem sh8 : ∀ j, j < 8 → ∀ c, c < 128 → ((nI c).toInt64 <<< ((8 * nI j).toInt64 &&& 63)).toBitVec.toNat = c * 256 ^ j := by decide +kernel
theorem lx_or {x : Int64} {nm : List Nat} {c : Nat} (hx : x.toBitVec.toNat = lvl nm) (hl : nm.length < 8) (h : ok8 nm) (hc : c < 128) : (x ||| ((nI c).toInt64 <<< ((8 * nI nm.length).toInt64 &&& 63))).toBitVec.toNat = lvl (nm ++ [c]) := by
  rw [show (x ||| ((nI c).toInt64 <<< ((8 * nI nm.length).toInt64 &&& 63))).toBitVec = x.toBitVec ||| ((nI c).toInt64 <<< ((8 * nI nm.length).toInt64 &&& 63)).toBitVec from rfl, BitVec.toNat_or, sh8 _ hl c hc, hx, lvl_sn]
  have q := lvl_lt nm (fun y hy => (h y hy).2)
  rw [show (256 : Nat) = 2 ^ 8 from rfl, ← Nat.pow_mul] at q ⊢
  have := Nat.two_pow_add_eq_or_of_lt q c
  rw [Nat.mul_comm c, Nat.or_comm, ← this, Nat.add_comm]
theorem spl_all {nm ys : List Nat} : spl nm 0 nm.length ys = true ↔ nm = ys := by
  unfold spl
  rw [Bool.and_eq_true, Bool.and_eq_true, decide_eq_true_eq, decide_eq_true_eq, decide_eq_true_eq, List.drop_zero]
  constructor
  · intro ⟨_, h2, h3⟩
    rw [List.take_of_length_le (by omega)] at h3
    exact h3
  · intro e
    subst e
    exact ⟨Nat.le_refl _, by omega, List.take_of_length_le (Nat.le_refl _)⟩
theorem ok8_c : ∀ k, k < 8 → ok8 (cnT k) := fun k hk => by
  have : k = 0 ∨ k = 1 ∨ k = 2 ∨ k = 3 ∨ k = 4 ∨ k = 5 ∨ k = 6 ∨ k = 7 := by omega
  unfold ok8
  rcases this with e | e | e | e | e | e | e | e <;> subst e <;> decide
section MO18
variable {l : Launch} {G : bp_G} {H0 : Heap} {M : Nat → Nat} {h0 h : bp_H} {tw : Int32} {i : Nat} {fa : Int32} {fm : Int32} {tl : Int32} {lk : Nat} {al : Nat} {ind : Nat} {sk : Nat} {dp : Nat} {lv : Nat} {fr : Bool} {en : Nat} {nf : Nat} {nn : Nat} {dg : Nat} {nu : Int32} {kd : Nat} {pn : Int32} {pe : Nat} {T : List Nat} {xs : List Nat} {L : List (Nat × Nat)} {ps : List (Nat × Nat × Nat)} {L1 : List (Nat × Nat)} {p1 : List (Nat × Nat × Nat)} {nt : List (Nat → Nat)} {tb : List Nat} {fd : List Nat} {c s : Nat} {Q : Option Value → bp_H → Nat → Nat → Prop}
theorem OUTB.ok {ρ : BS} {j : Nat} {v : Nat → Nat} {nm : List Nat} (hB : MoX M h0 h tw i 0 fm tl (mlV v) (v 3) (v 4) (v 5) nt.length lv fr tb.length nf nn dg nu kd pn pe T xs L ps L1 p1 nt tb fd) (hρ : ρ = (i, 0, -1, lv, fr, false, decide (nt = []), v, nt, tb, nm, L1, p1)) (ho : okN T j ρ) : OUTB M h0 h tw tl kd pn pe T xs L ps ρ j := by
  subst hρ
  exact Or.inl ⟨i, lv, fr, v, nt, tb, nm, L1, p1, fm, nf, nn, dg, nu, fd, hB, ho.1, ho.2.resolve_right (fun z => z rfl), rfl⟩
theorem OUTB.bad {ρ : BS} {j : Nat} (hB : MoX M h0 h tw i fa fm tl lk al ind sk dp lv fr en nf nn dg nu kd pn pe T xs L ps L1 p1 nt tb fd) (h1 : ρ.2.1 = fa) (h2 : ρ.2.2.1 = fm) (hf : fa ≠ 0) : OUTB M h0 h tw tl kd pn pe T xs L ps ρ j := by
  have e : RR T ρ = ρ := RR_f (by rw [h1]; exact hf)
  exact Or.inr ⟨fa, fm, i, lk, al, ind, sk, dp, lv, fr, en, nf, nn, dg, nu, L1, p1, nt, tb, fd, hf, hB, by rw [e]; exact h1, by rw [e]; exact h2⟩
set_option maxRecDepth 100000 in
set_option maxHeartbeats 4000000 in
theorem s_Mo_colourNamed {ro : Bool} {x : Int64} {nm : List Nat} (hx : x.toBitVec.toNat = lvl nm) (h8 : ok8 nm) (hQ : Q (some (.int (if nm = [] then 0 else scl nm 8 0))) h c s) : bp_AM l G H0 (0, 0, ro, ro) M_Mo_colourNamed h c s [.long x] Q := by
  refine bp_of (ls := [some (.long x), none]) (by decide) dt_Mo_colourNamed (Nat.le_of_ble_eq_true rfl) (fun q hq => hq) ro ?_
  refine bp_lload_n (q := 1) 0 rfl rfl rfl rfl ?_
  refine bp_ldc2 (q := 4) 1 rfl rfl wd1533 ?_
  refine bp_lcmp (q := 5) 2 rfl rfl ?_
  refine bp_if_ne (q := 8) (tgt := 12) 3 rfl rfl (by decide) (fun z5 => ?_) (fun z5 => ?_)
  · refine bp_lload_n (q := 13) 6 rfl rfl rfl rfl ?_
    refine bp_ldc2 (q := 16) 7 rfl rfl wd1534 ?_
    refine bp_lcmp (q := 17) 8 rfl rfl ?_
    refine bp_if_ne (q := 20) (tgt := 24) 9 rfl rfl (by decide) (fun z17 => ?_) (fun z17 => ?_)
    · refine bp_lload_n (q := 25) 12 rfl rfl rfl rfl ?_
      refine bp_ldc2 (q := 28) 13 rfl rfl wd1535 ?_
      refine bp_lcmp (q := 29) 14 rfl rfl ?_
      refine bp_if_ne (q := 32) (tgt := 36) 15 rfl rfl (by decide) (fun z29 => ?_) (fun z29 => ?_)
      · refine bp_lload_n (q := 37) 18 rfl rfl rfl rfl ?_
        refine bp_ldc2 (q := 40) 19 rfl rfl wd1536 ?_
        refine bp_lcmp (q := 41) 20 rfl rfl ?_
        refine bp_if_ne (q := 44) (tgt := 48) 21 rfl rfl (by decide) (fun z41 => ?_) (fun z41 => ?_)
        · refine bp_lload_n (q := 49) 24 rfl rfl rfl rfl ?_
          refine bp_ldc2 (q := 52) 25 rfl rfl wd1537 ?_
          refine bp_lcmp (q := 53) 26 rfl rfl ?_
          refine bp_if_ne (q := 56) (tgt := 60) 27 rfl rfl (by decide) (fun z53 => ?_) (fun z53 => ?_)
          · refine bp_lload_n (q := 61) 30 rfl rfl rfl rfl ?_
            refine bp_ldc2 (q := 64) 31 rfl rfl wd1538 ?_
            refine bp_lcmp (q := 65) 32 rfl rfl ?_
            refine bp_if_ne (q := 68) (tgt := 73) 33 rfl rfl (by decide) (fun z65 => ?_) (fun z65 => ?_)
            · refine bp_lload_n (q := 74) 36 rfl rfl rfl rfl ?_
              refine bp_ldc2 (q := 77) 37 rfl rfl wd1539 ?_
              refine bp_lcmp (q := 78) 38 rfl rfl ?_
              refine bp_if_ne (q := 81) (tgt := 86) 39 rfl rfl (by decide) (fun z78 => ?_) (fun z78 => ?_)
              · refine bp_lload_n (q := 87) 42 rfl rfl rfl rfl ?_
                refine bp_ldc2 (q := 90) 43 rfl rfl wd1540 ?_
                refine bp_lcmp (q := 91) 44 rfl rfl ?_
                refine bp_if_eq (q := 94) (tgt := 100) 45 rfl rfl (by decide) (fun z91 => ?_) (fun z91 => ?_)
                · refine bp_iconst (v := 0) (q := 101) 50 rfl rfl (by decide) ?_
                  refine bp_goto (tgt := 105) 51 rfl (by decide) ?_
                  refine bp_iret 53 rfl rfl rfl ⟨_, rfl, ?_⟩
                  have y5 : ¬ nm = cnT 1 := fun e => z5 ((lg_cmp_eq _ _).mpr ((lx_iff (K := 6579570) (ys := cnT 1) hx (by decide) h8 (ok8_c 1 (by decide))).mpr e))
                  have y17 : ¬ nm = cnT 2 := fun e => z17 ((lg_cmp_eq _ _).mpr ((lx_iff (K := 474147549799) (ys := cnT 2) hx (by decide) h8 (ok8_c 2 (by decide))).mpr e))
                  have y29 : ¬ nm = cnT 3 := fun e => z29 ((lg_cmp_eq _ _).mpr ((lx_iff (K := 1702194274) (ys := cnT 3) hx (by decide) h8 (ok8_c 3 (by decide))).mpr e))
                  have y41 : ¬ nm = cnT 4 := fun e => z41 ((lg_cmp_eq _ _).mpr ((lx_iff (K := 1851881827) (ys := cnT 4) hx (by decide) h8 (ok8_c 4 (by decide))).mpr e))
                  have y53 : ¬ nm = cnT 5 := fun e => z53 ((lg_cmp_eq _ _).mpr ((lx_iff (K := 27431090237432173) (ys := cnT 5) hx (by decide) h8 (ok8_c 5 (by decide))).mpr e))
                  have y65 : ¬ nm = cnT 6 := fun e => z65 ((lg_cmp_eq _ _).mpr ((lx_iff (K := 131320444118393) (ys := cnT 6) hx (by decide) h8 (ok8_c 6 (by decide))).mpr e))
                  have y78 : ¬ nm = cnT 7 := fun e => z78 ((lg_cmp_eq _ _).mpr ((lx_iff (K := 435744761975) (ys := cnT 7) hx (by decide) h8 (ok8_c 7 (by decide))).mpr e))
                  have y : nm = cnT 0 := (lx_iff (K := 461228829794) (ys := cnT 0) hx (by decide) h8 (ok8_c 0 (by decide))).mp ((lg_cmp_eq _ _).mp z91)
                  subst y
                  rw [if_neg (by decide)] at hQ
                  rw [show scl (cnT 0) 8 0 = 0 from by decide] at hQ
                  exact hQ
                · refine bp_lload_n (q := 95) 46 rfl rfl rfl rfl ?_
                  refine bp_lconst (v := 0) (q := 96) 47 rfl rfl (by decide) ?_
                  refine bp_lcmp (q := 97) 48 rfl rfl ?_
                  refine bp_if_ne (q := 100) (tgt := 104) 49 rfl rfl (by decide) (fun z97 => ?_) (fun z97 => ?_)
                  · refine bp_iconst (v := -1) (q := 105) 52 rfl rfl (by decide) ?_
                    refine bp_iret 53 rfl rfl rfl ⟨_, rfl, ?_⟩
                    have y5 : ¬ nm = cnT 1 := fun e => z5 ((lg_cmp_eq _ _).mpr ((lx_iff (K := 6579570) (ys := cnT 1) hx (by decide) h8 (ok8_c 1 (by decide))).mpr e))
                    have y17 : ¬ nm = cnT 2 := fun e => z17 ((lg_cmp_eq _ _).mpr ((lx_iff (K := 474147549799) (ys := cnT 2) hx (by decide) h8 (ok8_c 2 (by decide))).mpr e))
                    have y29 : ¬ nm = cnT 3 := fun e => z29 ((lg_cmp_eq _ _).mpr ((lx_iff (K := 1702194274) (ys := cnT 3) hx (by decide) h8 (ok8_c 3 (by decide))).mpr e))
                    have y41 : ¬ nm = cnT 4 := fun e => z41 ((lg_cmp_eq _ _).mpr ((lx_iff (K := 1851881827) (ys := cnT 4) hx (by decide) h8 (ok8_c 4 (by decide))).mpr e))
                    have y53 : ¬ nm = cnT 5 := fun e => z53 ((lg_cmp_eq _ _).mpr ((lx_iff (K := 27431090237432173) (ys := cnT 5) hx (by decide) h8 (ok8_c 5 (by decide))).mpr e))
                    have y65 : ¬ nm = cnT 6 := fun e => z65 ((lg_cmp_eq _ _).mpr ((lx_iff (K := 131320444118393) (ys := cnT 6) hx (by decide) h8 (ok8_c 6 (by decide))).mpr e))
                    have y78 : ¬ nm = cnT 7 := fun e => z78 ((lg_cmp_eq _ _).mpr ((lx_iff (K := 435744761975) (ys := cnT 7) hx (by decide) h8 (ok8_c 7 (by decide))).mpr e))
                    have y91 : ¬ nm = cnT 0 := fun e => z91 ((lg_cmp_eq _ _).mpr ((lx_iff (K := 461228829794) (ys := cnT 0) hx (by decide) h8 (ok8_c 0 (by decide))).mpr e))
                    have y97 : ¬ nm = [] := fun e => z97 ((lg_cmp_eq _ _).mpr ((lx_iff (K := 0) (ys := []) hx rfl h8 (fun x hx => nomatch hx)).mpr e))
                    rw [if_neg y97, scl, if_neg (fun e => y91 (spl_all.mp e)), scl, if_neg (fun e => y5 (spl_all.mp e)), scl, if_neg (fun e => y17 (spl_all.mp e)), scl, if_neg (fun e => y29 (spl_all.mp e)), scl, if_neg (fun e => y41 (spl_all.mp e)), scl, if_neg (fun e => y53 (spl_all.mp e)), scl, if_neg (fun e => y65 (spl_all.mp e)), scl, if_neg (fun e => y78 (spl_all.mp e))] at hQ
                    exact hQ
                  · refine bp_iconst (v := 0) (q := 101) 50 rfl rfl (by decide) ?_
                    refine bp_goto (tgt := 105) 51 rfl (by decide) ?_
                    refine bp_iret 53 rfl rfl rfl ⟨_, rfl, ?_⟩
                    have y5 : ¬ nm = cnT 1 := fun e => z5 ((lg_cmp_eq _ _).mpr ((lx_iff (K := 6579570) (ys := cnT 1) hx (by decide) h8 (ok8_c 1 (by decide))).mpr e))
                    have y17 : ¬ nm = cnT 2 := fun e => z17 ((lg_cmp_eq _ _).mpr ((lx_iff (K := 474147549799) (ys := cnT 2) hx (by decide) h8 (ok8_c 2 (by decide))).mpr e))
                    have y29 : ¬ nm = cnT 3 := fun e => z29 ((lg_cmp_eq _ _).mpr ((lx_iff (K := 1702194274) (ys := cnT 3) hx (by decide) h8 (ok8_c 3 (by decide))).mpr e))
                    have y41 : ¬ nm = cnT 4 := fun e => z41 ((lg_cmp_eq _ _).mpr ((lx_iff (K := 1851881827) (ys := cnT 4) hx (by decide) h8 (ok8_c 4 (by decide))).mpr e))
                    have y53 : ¬ nm = cnT 5 := fun e => z53 ((lg_cmp_eq _ _).mpr ((lx_iff (K := 27431090237432173) (ys := cnT 5) hx (by decide) h8 (ok8_c 5 (by decide))).mpr e))
                    have y65 : ¬ nm = cnT 6 := fun e => z65 ((lg_cmp_eq _ _).mpr ((lx_iff (K := 131320444118393) (ys := cnT 6) hx (by decide) h8 (ok8_c 6 (by decide))).mpr e))
                    have y78 : ¬ nm = cnT 7 := fun e => z78 ((lg_cmp_eq _ _).mpr ((lx_iff (K := 435744761975) (ys := cnT 7) hx (by decide) h8 (ok8_c 7 (by decide))).mpr e))
                    have y91 : ¬ nm = cnT 0 := fun e => z91 ((lg_cmp_eq _ _).mpr ((lx_iff (K := 461228829794) (ys := cnT 0) hx (by decide) h8 (ok8_c 0 (by decide))).mpr e))
                    have y : nm = [] := (lx_iff (K := 0) (ys := []) hx rfl h8 (fun x hx => nomatch hx)).mp ((lg_cmp_eq _ _).mp z97)
                    rw [if_pos y] at hQ
                    exact hQ
              · refine bp_bipush (v := 7) (q := 83) 40 rfl rfl (by decide) ?_
                refine bp_goto (tgt := 105) 41 rfl (by decide) ?_
                refine bp_iret 53 rfl rfl rfl ⟨_, rfl, ?_⟩
                have y5 : ¬ nm = cnT 1 := fun e => z5 ((lg_cmp_eq _ _).mpr ((lx_iff (K := 6579570) (ys := cnT 1) hx (by decide) h8 (ok8_c 1 (by decide))).mpr e))
                have y17 : ¬ nm = cnT 2 := fun e => z17 ((lg_cmp_eq _ _).mpr ((lx_iff (K := 474147549799) (ys := cnT 2) hx (by decide) h8 (ok8_c 2 (by decide))).mpr e))
                have y29 : ¬ nm = cnT 3 := fun e => z29 ((lg_cmp_eq _ _).mpr ((lx_iff (K := 1702194274) (ys := cnT 3) hx (by decide) h8 (ok8_c 3 (by decide))).mpr e))
                have y41 : ¬ nm = cnT 4 := fun e => z41 ((lg_cmp_eq _ _).mpr ((lx_iff (K := 1851881827) (ys := cnT 4) hx (by decide) h8 (ok8_c 4 (by decide))).mpr e))
                have y53 : ¬ nm = cnT 5 := fun e => z53 ((lg_cmp_eq _ _).mpr ((lx_iff (K := 27431090237432173) (ys := cnT 5) hx (by decide) h8 (ok8_c 5 (by decide))).mpr e))
                have y65 : ¬ nm = cnT 6 := fun e => z65 ((lg_cmp_eq _ _).mpr ((lx_iff (K := 131320444118393) (ys := cnT 6) hx (by decide) h8 (ok8_c 6 (by decide))).mpr e))
                have y : nm = cnT 7 := (lx_iff (K := 435744761975) (ys := cnT 7) hx (by decide) h8 (ok8_c 7 (by decide))).mp ((lg_cmp_eq _ _).mp z78)
                subst y
                rw [if_neg (by decide)] at hQ
                rw [show scl (cnT 7) 8 0 = 7 from by decide] at hQ
                exact hQ
            · refine bp_bipush (v := 6) (q := 70) 34 rfl rfl (by decide) ?_
              refine bp_goto (tgt := 105) 35 rfl (by decide) ?_
              refine bp_iret 53 rfl rfl rfl ⟨_, rfl, ?_⟩
              have y5 : ¬ nm = cnT 1 := fun e => z5 ((lg_cmp_eq _ _).mpr ((lx_iff (K := 6579570) (ys := cnT 1) hx (by decide) h8 (ok8_c 1 (by decide))).mpr e))
              have y17 : ¬ nm = cnT 2 := fun e => z17 ((lg_cmp_eq _ _).mpr ((lx_iff (K := 474147549799) (ys := cnT 2) hx (by decide) h8 (ok8_c 2 (by decide))).mpr e))
              have y29 : ¬ nm = cnT 3 := fun e => z29 ((lg_cmp_eq _ _).mpr ((lx_iff (K := 1702194274) (ys := cnT 3) hx (by decide) h8 (ok8_c 3 (by decide))).mpr e))
              have y41 : ¬ nm = cnT 4 := fun e => z41 ((lg_cmp_eq _ _).mpr ((lx_iff (K := 1851881827) (ys := cnT 4) hx (by decide) h8 (ok8_c 4 (by decide))).mpr e))
              have y53 : ¬ nm = cnT 5 := fun e => z53 ((lg_cmp_eq _ _).mpr ((lx_iff (K := 27431090237432173) (ys := cnT 5) hx (by decide) h8 (ok8_c 5 (by decide))).mpr e))
              have y : nm = cnT 6 := (lx_iff (K := 131320444118393) (ys := cnT 6) hx (by decide) h8 (ok8_c 6 (by decide))).mp ((lg_cmp_eq _ _).mp z65)
              subst y
              rw [if_neg (by decide)] at hQ
              rw [show scl (cnT 6) 8 0 = 6 from by decide] at hQ
              exact hQ
          · refine bp_iconst (v := 5) (q := 57) 28 rfl rfl (by decide) ?_
            refine bp_goto (tgt := 105) 29 rfl (by decide) ?_
            refine bp_iret 53 rfl rfl rfl ⟨_, rfl, ?_⟩
            have y5 : ¬ nm = cnT 1 := fun e => z5 ((lg_cmp_eq _ _).mpr ((lx_iff (K := 6579570) (ys := cnT 1) hx (by decide) h8 (ok8_c 1 (by decide))).mpr e))
            have y17 : ¬ nm = cnT 2 := fun e => z17 ((lg_cmp_eq _ _).mpr ((lx_iff (K := 474147549799) (ys := cnT 2) hx (by decide) h8 (ok8_c 2 (by decide))).mpr e))
            have y29 : ¬ nm = cnT 3 := fun e => z29 ((lg_cmp_eq _ _).mpr ((lx_iff (K := 1702194274) (ys := cnT 3) hx (by decide) h8 (ok8_c 3 (by decide))).mpr e))
            have y41 : ¬ nm = cnT 4 := fun e => z41 ((lg_cmp_eq _ _).mpr ((lx_iff (K := 1851881827) (ys := cnT 4) hx (by decide) h8 (ok8_c 4 (by decide))).mpr e))
            have y : nm = cnT 5 := (lx_iff (K := 27431090237432173) (ys := cnT 5) hx (by decide) h8 (ok8_c 5 (by decide))).mp ((lg_cmp_eq _ _).mp z53)
            subst y
            rw [if_neg (by decide)] at hQ
            rw [show scl (cnT 5) 8 0 = 5 from by decide] at hQ
            exact hQ
        · refine bp_iconst (v := 4) (q := 45) 22 rfl rfl (by decide) ?_
          refine bp_goto (tgt := 105) 23 rfl (by decide) ?_
          refine bp_iret 53 rfl rfl rfl ⟨_, rfl, ?_⟩
          have y5 : ¬ nm = cnT 1 := fun e => z5 ((lg_cmp_eq _ _).mpr ((lx_iff (K := 6579570) (ys := cnT 1) hx (by decide) h8 (ok8_c 1 (by decide))).mpr e))
          have y17 : ¬ nm = cnT 2 := fun e => z17 ((lg_cmp_eq _ _).mpr ((lx_iff (K := 474147549799) (ys := cnT 2) hx (by decide) h8 (ok8_c 2 (by decide))).mpr e))
          have y29 : ¬ nm = cnT 3 := fun e => z29 ((lg_cmp_eq _ _).mpr ((lx_iff (K := 1702194274) (ys := cnT 3) hx (by decide) h8 (ok8_c 3 (by decide))).mpr e))
          have y : nm = cnT 4 := (lx_iff (K := 1851881827) (ys := cnT 4) hx (by decide) h8 (ok8_c 4 (by decide))).mp ((lg_cmp_eq _ _).mp z41)
          subst y
          rw [if_neg (by decide)] at hQ
          rw [show scl (cnT 4) 8 0 = 4 from by decide] at hQ
          exact hQ
      · refine bp_iconst (v := 3) (q := 33) 16 rfl rfl (by decide) ?_
        refine bp_goto (tgt := 105) 17 rfl (by decide) ?_
        refine bp_iret 53 rfl rfl rfl ⟨_, rfl, ?_⟩
        have y5 : ¬ nm = cnT 1 := fun e => z5 ((lg_cmp_eq _ _).mpr ((lx_iff (K := 6579570) (ys := cnT 1) hx (by decide) h8 (ok8_c 1 (by decide))).mpr e))
        have y17 : ¬ nm = cnT 2 := fun e => z17 ((lg_cmp_eq _ _).mpr ((lx_iff (K := 474147549799) (ys := cnT 2) hx (by decide) h8 (ok8_c 2 (by decide))).mpr e))
        have y : nm = cnT 3 := (lx_iff (K := 1702194274) (ys := cnT 3) hx (by decide) h8 (ok8_c 3 (by decide))).mp ((lg_cmp_eq _ _).mp z29)
        subst y
        rw [if_neg (by decide)] at hQ
        rw [show scl (cnT 3) 8 0 = 3 from by decide] at hQ
        exact hQ
    · refine bp_iconst (v := 2) (q := 21) 10 rfl rfl (by decide) ?_
      refine bp_goto (tgt := 105) 11 rfl (by decide) ?_
      refine bp_iret 53 rfl rfl rfl ⟨_, rfl, ?_⟩
      have y5 : ¬ nm = cnT 1 := fun e => z5 ((lg_cmp_eq _ _).mpr ((lx_iff (K := 6579570) (ys := cnT 1) hx (by decide) h8 (ok8_c 1 (by decide))).mpr e))
      have y : nm = cnT 2 := (lx_iff (K := 474147549799) (ys := cnT 2) hx (by decide) h8 (ok8_c 2 (by decide))).mp ((lg_cmp_eq _ _).mp z17)
      subst y
      rw [if_neg (by decide)] at hQ
      rw [show scl (cnT 2) 8 0 = 2 from by decide] at hQ
      exact hQ
  · refine bp_iconst (v := 1) (q := 9) 4 rfl rfl (by decide) ?_
    refine bp_goto (tgt := 105) 5 rfl (by decide) ?_
    refine bp_iret 53 rfl rfl rfl ⟨_, rfl, ?_⟩
    have y : nm = cnT 1 := (lx_iff (K := 6579570) (ys := cnT 1) hx (by decide) h8 (ok8_c 1 (by decide))).mp ((lg_cmp_eq _ _).mp z5)
    subst y
    rw [if_neg (by decide)] at hQ
    rw [show scl (cnT 1) 8 0 = 1 from by decide] at hQ
    exact hQ
end MO18
