/-! switches; arrays of references -/
section BPS
variable {l : Launch} {G : bp_G} {H0 : Heap} {d : bp_Dp} {M : bp_M} {h : bp_H} {c s pc q : Nat} {ls ls' : List (Option Value)} {st : List Value} {Q : Outcome → bp_H → Nat → Nat → Prop}
theorem bp_tsIn {dflt lo hi off : Int} {offs : Array Int} {len tgt : Nat} {x : Int32} (k : Nat) (hd : M.2.2.2.2[k]? = some (pc, .tableswitch dflt lo hi offs, len)) (h1' : ¬ x.toInt < lo) (h2' : ¬ hi < x.toInt) (ho : offs[(x.toInt - lo).toNat]? = some off) (ht : (pc : Int) + off = (tgt : Int)) (w : bp_A l G H0 d M h c s tgt ls st Q) : bp_A l G H0 d M h c s pc ls (.int x :: st) Q := by
  intro p e R s₀ m args below meth cd H locs cells slots lr X hR h1 h2 h3 hl hcl hz
  exact lv_tableIn X.1 X.2.1 (bp_dec X hd) h1' h2' ho ht (w p e R s₀ m args below meth cd H locs cells slots lr X hR h1 h2 h3 hl hcl hz)
theorem bp_tsOut {dflt lo hi : Int} {offs : Array Int} {len tgt : Nat} {x : Int32} (k : Nat) (hd : M.2.2.2.2[k]? = some (pc, .tableswitch dflt lo hi offs, len)) (ho : x.toInt < lo ∨ hi < x.toInt) (ht : (pc : Int) + dflt = (tgt : Int)) (w : bp_A l G H0 d M h c s tgt ls st Q) : bp_A l G H0 d M h c s pc ls (.int x :: st) Q := by
  intro p e R s₀ m args below meth cd H locs cells slots lr X hR h1 h2 h3 hl hcl hz
  exact lv_tableOut X.1 X.2.1 (bp_dec X hd) ho ht (w p e R s₀ m args below meth cd H locs cells slots lr X hR h1 h2 h3 hl hcl hz)
theorem bp_ls {dflt off : Int} {ps : Array (Int × Int)} {len tgt : Nat} {x : Int32} (k : Nat) (hd : M.2.2.2.2[k]? = some (pc, .lookupswitch dflt ps, len)) (hp : (ps.toList.zip (ps.toList.drop 1)).all (fun (a, next) => a.1 < next.1) = true) (ho : Op.lookupswitch.offset ps.toList dflt x.toInt = off) (ht : (pc : Int) + off = (tgt : Int)) (w : bp_A l G H0 d M h c s tgt ls st Q) : bp_A l G H0 d M h c s pc ls (.int x :: st) Q := by
  intro p e R s₀ m args below meth cd H locs cells slots lr X hR h1 h2 h3 hl hcl hz
  exact lv_lookup X.1 X.2.1 (bp_dec X hd) hp ho ht (w p e R s₀ m args below meth cd H locs cells slots lr X hR h1 h2 h3 hl hcl hz)
theorem bp_newq {index N : Nat} {n : Int32} (k : Nat) (hd : M.2.2.2.2[k]? = some (pc, .anewarray index, 3)) (hq : pc + 3 = q) (w1 : Cond.classLink M.1.cls index bp_EC ∈ bp_WS) (w2 : Cond.arrayOver (.object bp_EC) ∈ bp_WS) (hn : ¬ n < 0) (hN : n.toNatClampNeg = N) (hb : N * 8 ≤ 536870912)
    (w : ∀ a, bp_K h a = 0 → bp_A l G H0 d M (bp_new h a 5 N) c s q ls (.ref a :: st) Q) (hk : d.2.2.1 = false := by rfl) : bp_A l G H0 d M h (c + 1) (s + N) pc ls (.int n :: st) Q := by
  subst hq
  subst hN
  intro p e R s₀ m args below meth cd H locs cells slots lr X hR h1 h2 h3 hl hcl hz
  have hts := X.2.2.2.2.1
  have hok := X.2.2.2.2.2.2.1
  refine W.anew X.1 X.2.1 X.2.2.2.1 (hts _ w1) (hts _ w2) rfl (bp_dec X hd) rfl hn (by omega) (by omega) (by omega) (fun cA kA comp f1 f2 f3 f4 => ?_)
  have hcA : cA = G.2.2.1 5 := by
    obtain ⟨kA', comp', -, -, -, f1'⟩ := (hok.2 4 _ rfl).2
    exact Option.some.inj (f1.symm.trans f1')
  subst hcA
  refine w H.size (bp_fresh hR) p e R s₀ m args below meth cd _ locs (cells + 1) (slots + n.toNatClampNeg) lr X (bp_Rel_new hR ?_ (by rw [Array.size_push]) (fun q hq => by rw [Array.getElem?_push, if_neg (Nat.ne_of_lt hq)])) (by omega) (by omega) h3 hl (fun z => by rw [hk] at z; cases z) hz
  unfold bp_cell bp_arr
  rw [bp_K_new, if_pos rfl, bp_L_new, if_pos rfl]
  simp only [bp_R_new, if_true]
  rw [Array.getElem?_push_size, arrV_new]
  rfl
theorem bp_aast {a v ci : Nat} {i : Int32} {r : vw_C} (k : Nat) (hd : M.2.2.2.2[k]? = some (pc, .aastore, 1)) (hq : pc + 1 = q) (hK : bp_K h a = 5) (hKv : bp_K h v = ci + 6) (hr : bp_cl[ci]? = some r) (hrE : r.1 = bp_EC) (hin : vp_in i (bp_L h a)) (w : bp_A l G H0 d M (bp_sR h a i.toNatClampNeg (some v)) c s q ls st Q) (hk : d.2.2.1 = false := by rfl) : bp_A l G H0 d M h c s pc ls (.ref v :: .int i :: .ref a :: st) Q := by
  subst hq
  intro p e R s₀ m args below meth cd H locs cells slots lr X hR h1 h2 h3 hl hcl hz
  have hok := X.2.2.2.2.2.2.1
  have ha := (bp_arr_of (hR.1 a)).2.2.2.2 hK
  have h0 : bp_K h a ≠ 0 := by rw [hK]; decide
  have hlt : i.toNatClampNeg < bp_L h a := Nat.not_le.mp fun q => hin (Or.inr q)
  have hi0 : ¬ i < 0 := fun q => hin (Or.inl q)
  obtain ⟨cellV, g1, g2, g3, -⟩ := bp_cell_ob (hR.1 v) hKv
  have hcls := (hok.1 ci r hr).2
  obtain ⟨kA, comp, k1, k2, k3, -⟩ := (hok.2 4 _ rfl).2
  rw [hrE] at hcls
  have hcomp : comp = G.1 ci := Option.some.inj (k3.symm.trans hcls.1)
  subst hcomp
  obtain ⟨kC, hkC, -⟩ := hcls.2
  refine W.aast X.1 X.2.1 ha (fun q h => by cases h) (fun h => by cases h) k1 k2 rfl hkC ⟨hi0, by show _ < (arrV _ _ _).slots.size; rw [arrV_size]; exact hlt⟩ g1 (fun q h => by rw [g3] at h; cases h) (by rw [g2]; exact hkC) (by rw [g2]; exact va_assign hcls) rfl rfl (bp_dec X hd) (fun H' e0 z o => ?_)
  refine w p e R s₀ m args below meth cd H' _ cells slots lr X (bp_Rel_arr (i := 5) (g := fun j => va_rf (bp_R (bp_sR h a i.toNatClampNeg (some v)) a j)) hR h0 (fun z => ?_) e0 (funext fun j => ?_) z o (fun b => rfl) (fun b => rfl) (fun b hb y => rfl) (fun b hb y => rfl) (fun b hb y => ?_)) h1 h2 (bp_locs h3 (hR.2.1 a h0)) hl (fun z => by rw [hk] at z; cases z) hz
  · unfold bp_cell; rw [bp_K_sR, hK]; exact z
  · rw [bp_R_sR]
    by_cases hj : j = i.toNatClampNeg <;> simp [updV, hj, va_rf]
  · rw [bp_R_sR, if_neg (fun z => hb z.1)]
end BPS
