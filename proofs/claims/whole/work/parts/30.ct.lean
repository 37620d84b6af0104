/-! the table of colours: its object t, its array ca, the row nr of the name (its array na); tb the colours, nm the name -/
def Ct (mx c0 s0 : Nat) (h : bp_H) (t ca nr na : Nat) (tb nm : List Nat) (c s : Nat) : Prop := bp_K h t = 11 ∧ bp_R h t 0 = some ca ∧ bp_R h t 1 = some nr ∧ bp_I h t 2 = nI tb.length ∧ bp_K h ca = 1 ∧ bp_L h ca = 8 ∧ tb.length ≤ 8 ∧ (∀ j, j < tb.length → bp_I h ca j = nI (tb.getD j 0)) ∧ RG mx c0 s0 h nr na nm c s ∧ ca ≠ na
section CT
variable {l : Launch} {G : bp_G} {H0 : Heap} {h : bp_H} {c s t ca nr na mx c0 s0 : Nat} {tb nm : List Nat} {Q : Option Value → bp_H → Nat → Nat → Prop}
set_option maxRecDepth 100000 in
set_option maxHeartbeats 4000000 in
theorem s_CT_has {ro : Bool} {x : Int32} (hC : Ct mx c0 s0 h t ca nr na tb nm c s) (hQ : Q (some (.int (if x < 0 ∨ nI tb.length ≤ x then 0 else 1))) h c s) : bp_AM l G H0 (0, 0, ro, ro) M_CT_has h c s [.ref t, .int x] Q := by
  refine bp_of (ls := [some (.ref t), some (.int x)]) (by decide) dt_CT_has (Nat.le_of_ble_eq_true rfl) (fun q hq => hq) ro ?_
  refine bp_iload_n (q := 1) 0 rfl rfl rfl rfl ?_
  refine bp_if_lt (q := 4) (tgt := 16) 1 rfl rfl (by decide) (fun z1 => ?_) (fun z1 => ?_)
  · refine bp_iconst (v := 0) (q := 17) 8 rfl rfl (by decide) ?_
    refine bp_iret 9 rfl rfl (by first | rfl | assumption) ⟨_, rfl, ?_⟩
    rw [if_pos (Or.inl z1)] at hQ
    exact hQ
  · refine bp_iload_n (q := 5) 2 rfl rfl rfl rfl ?_
    refine bp_aload_n (q := 6) 3 rfl rfl rfl rfl ?_
    refine bp_getI (q := 9) (ci := 5) (j := 2) 4 rfl rfl fl_CT_24_5 hC.1 rfl ?_
    refine bp_icmp_ge (q := 12) (tgt := 16) 5 rfl rfl (by decide) (fun z9 => ?_) (fun z9 => ?_)
    · refine bp_iconst (v := 0) (q := 17) 8 rfl rfl (by decide) ?_
      refine bp_iret 9 rfl rfl (by first | rfl | assumption) ⟨_, rfl, ?_⟩
      rw [hC.2.2.2.1] at z9
      rw [if_pos (Or.inr z9)] at hQ
      exact hQ
    · refine bp_iconst (v := 1) (q := 13) 6 rfl rfl (by decide) ?_
      refine bp_goto (tgt := 17) 7 rfl (by decide) ?_
      refine bp_iret 9 rfl rfl (by first | rfl | assumption) ⟨_, rfl, ?_⟩
      rw [hC.2.2.2.1] at z9
      rw [if_neg (fun z => z.elim z1 z9)] at hQ
      exact hQ
end CT
