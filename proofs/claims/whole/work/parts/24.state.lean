/-! a State of the braced reader: style, size, colour, alignment, indent, skip -/
def So (h : bp_H) (o : Nat) (v : Nat → Nat) : Prop := bp_K h o = 10 ∧ ∀ j, j < 6 → bp_I h o j = nI (v j)
theorem So.fi {h h' : bp_H} {F : Nat → Prop} {o : Nat} {v : Nat → Nat} (hS : So h o v) (f : bp_Fi F h h') (hF : ¬ F o) : So h' o v := ⟨(f.K o).trans hS.1, fun j hj => (f.2.2.2 o hF j).trans (hS.2 j hj)⟩
theorem six {j : Nat} (h : j < 6) : j = 0 ∨ j = 1 ∨ j = 2 ∨ j = 3 ∨ j = 4 ∨ j = 5 := by omega
def vPlain (v : Nat → Nat) : Nat → Nat := fun j => if j = 0 then 0 else if j = 1 then 12 else if j = 2 then 0 else v j
def vStart : Nat → Nat := fun j => if j = 1 then 12 else if j = 5 then 1 else 0
section STATE
variable {l : Launch} {G : bp_G} {H0 : Heap} {h : bp_H} {c s o : Nat} {v : Nat → Nat} {Q : Option Value → bp_H → Nat → Nat → Prop}
set_option maxRecDepth 100000 in
set_option maxHeartbeats 4000000 in
theorem s_St_makePlain  (hS : So h o v) (hQ : ∀ h', So h' o (vPlain v) → bp_Fi (fun b => b = o) h h' → Q none h' c s) : bp_AM l G H0 (0, 0, false, false) M_St_makePlain h c s [.ref o] Q := by
  refine bp_of (ls := [some (.ref o)]) (by decide) dt_St_makePlain (Nat.le_of_ble_eq_true rfl) (fun q hq => hq) false ?_
  refine bp_aload_n (q := 1) 0 rfl rfl rfl rfl ?_
  refine bp_iconst (v := 0) (q := 2) 1 rfl rfl (by decide) ?_
  refine bp_putI (q := 5) (ci := 4) (j := 0) 2 rfl rfl fl_St_24_4 cl4 hS.1 (fun r hr => by cases hr; rfl) (by decide) rfl rfl ?_
  refine bp_aload_n (q := 6) 3 rfl rfl rfl rfl ?_
  refine bp_bipush (v := 12) (q := 8) 4 rfl rfl (by decide) ?_
  refine bp_putI (q := 11) (ci := 4) (j := 1) 5 rfl rfl fl_St_27_4 cl4 hS.1 (fun r hr => by cases hr; rfl) (by decide) rfl rfl ?_
  refine bp_aload_n (q := 12) 6 rfl rfl rfl rfl ?_
  refine bp_iconst (v := 0) (q := 13) 7 rfl rfl (by decide) ?_
  refine bp_putI (q := 16) (ci := 4) (j := 2) 8 rfl rfl fl_St_30_4 cl4 hS.1 (fun r hr => by cases hr; rfl) (by decide) rfl rfl ?_
  refine bp_vret 9 rfl rfl  ⟨_, rfl, ?_⟩
  refine hQ _ ⟨hS.1, (fun j hj => by rcases six hj with e | e | e | e | e | e <;> subst e <;> simp [bp_I_sI, vPlain, hS.2 0 (by decide), hS.2 1 (by decide), hS.2 2 (by decide), hS.2 3 (by decide), hS.2 4 (by decide), hS.2 5 (by decide), nI_0, show nI 12 = 12 from rfl])⟩ (((bp_Fi.sI (F := fun b => b = o) rfl).tr (bp_Fi.sI (F := fun b => b = o) rfl)).tr (bp_Fi.sI (F := fun b => b = o) rfl))
set_option maxRecDepth 100000 in
set_option maxHeartbeats 4000000 in
theorem s_St_reset  (hS : So h o v) (hQ : ∀ h', So h' o vStart → bp_Fi (fun b => b = o) h h' → Q none h' c s) : bp_AM l G H0 (1, 20, false, false) M_St_reset h c s [.ref o] Q := by
  refine bp_of (ls := [some (.ref o)]) (by decide) dt_St_reset (Nat.le_of_ble_eq_true rfl) (fun q hq => hq) false ?_
  refine bp_aload_n (q := 1) 0 rfl rfl rfl rfl ?_
  refine bp_callV (q := 4) (ci := 4) 1 rfl rfl cw_St_makePlain lk_St_9 rfl hS.1 wd430 wd431 rfl rfl (Nat.le_of_ble_eq_true rfl) ⟨Nat.le_of_ble_eq_true rfl, Nat.le_of_ble_eq_true rfl⟩ (s_St_makePlain hS (fun h1 hS1 f1 => ?_))
  refine bp_aload_n (q := 5) 2 rfl rfl rfl rfl ?_
  refine bp_iconst (v := 0) (q := 6) 3 rfl rfl (by decide) ?_
  refine bp_putI (q := 9) (ci := 4) (j := 3) 4 rfl rfl fl_St_14_4 cl4 hS1.1 (fun r hr => by cases hr; rfl) (by decide) rfl rfl ?_
  refine bp_aload_n (q := 10) 5 rfl rfl rfl rfl ?_
  refine bp_iconst (v := 0) (q := 11) 6 rfl rfl (by decide) ?_
  refine bp_putI (q := 14) (ci := 4) (j := 4) 7 rfl rfl fl_St_18_4 cl4 hS1.1 (fun r hr => by cases hr; rfl) (by decide) rfl rfl ?_
  refine bp_aload_n (q := 15) 8 rfl rfl rfl rfl ?_
  refine bp_iconst (v := 1) (q := 16) 9 rfl rfl (by decide) ?_
  refine bp_putI (q := 19) (ci := 4) (j := 5) 10 rfl rfl fl_St_21_4 cl4 hS1.1 (fun r hr => by cases hr; rfl) (by decide) rfl rfl ?_
  refine bp_vret 11 rfl rfl  ⟨_, rfl, ?_⟩
  refine hQ _ ⟨hS1.1, (fun j hj => by rcases six hj with e | e | e | e | e | e <;> subst e <;> simp [bp_I_sI, vPlain, vStart, hS1.2 0 (by decide), hS1.2 1 (by decide), hS1.2 2 (by decide), hS1.2 3 (by decide), hS1.2 4 (by decide), hS1.2 5 (by decide), nI_0, show nI 12 = 12 from rfl, show nI 1 = 1 from rfl])⟩ (((f1.tr (bp_Fi.sI (F := fun b => b = o) rfl)).tr (bp_Fi.sI (F := fun b => b = o) rfl)).tr (bp_Fi.sI (F := fun b => b = o) rfl))
set_option maxRecDepth 100000 in
set_option maxHeartbeats 4000000 in
theorem s_St_copy {o2 : Nat} {v2 : Nat → Nat} (hS : So h o v) (hO : So h o2 v2) (hne : o2 ≠ o) (hQ : ∀ h', So h' o v2 → bp_Fi (fun b => b = o) h h' → Q none h' c s) : bp_AM l G H0 (0, 0, false, false) M_St_copy h c s [.ref o, .ref o2] Q := by
  refine bp_of (ls := [some (.ref o), some (.ref o2)]) (by decide) dt_St_copy (Nat.le_of_ble_eq_true rfl) (fun q hq => hq) false ?_
  refine bp_aload_n (q := 1) 0 rfl rfl rfl rfl ?_
  refine bp_aload_n (q := 2) 1 rfl rfl rfl rfl ?_
  refine bp_getI (q := 5) (ci := 4) (j := 0) 2 rfl rfl fl_St_24_4 hO.1 rfl ?_
  refine bp_putI (q := 8) (ci := 4) (j := 0) 3 rfl rfl fl_St_24_4 cl4 hS.1 (fun r hr => by cases hr; rfl) (by decide) rfl rfl ?_
  refine bp_aload_n (q := 9) 4 rfl rfl rfl rfl ?_
  refine bp_aload_n (q := 10) 5 rfl rfl rfl rfl ?_
  refine bp_getI (q := 13) (ci := 4) (j := 1) 6 rfl rfl fl_St_27_4 hO.1 rfl ?_
  refine bp_putI (q := 16) (ci := 4) (j := 1) 7 rfl rfl fl_St_27_4 cl4 hS.1 (fun r hr => by cases hr; rfl) (by decide) rfl rfl ?_
  refine bp_aload_n (q := 17) 8 rfl rfl rfl rfl ?_
  refine bp_aload_n (q := 18) 9 rfl rfl rfl rfl ?_
  refine bp_getI (q := 21) (ci := 4) (j := 2) 10 rfl rfl fl_St_30_4 hO.1 rfl ?_
  refine bp_putI (q := 24) (ci := 4) (j := 2) 11 rfl rfl fl_St_30_4 cl4 hS.1 (fun r hr => by cases hr; rfl) (by decide) rfl rfl ?_
  refine bp_aload_n (q := 25) 12 rfl rfl rfl rfl ?_
  refine bp_aload_n (q := 26) 13 rfl rfl rfl rfl ?_
  refine bp_getI (q := 29) (ci := 4) (j := 3) 14 rfl rfl fl_St_14_4 hO.1 rfl ?_
  refine bp_putI (q := 32) (ci := 4) (j := 3) 15 rfl rfl fl_St_14_4 cl4 hS.1 (fun r hr => by cases hr; rfl) (by decide) rfl rfl ?_
  refine bp_aload_n (q := 33) 16 rfl rfl rfl rfl ?_
  refine bp_aload_n (q := 34) 17 rfl rfl rfl rfl ?_
  refine bp_getI (q := 37) (ci := 4) (j := 4) 18 rfl rfl fl_St_18_4 hO.1 rfl ?_
  refine bp_putI (q := 40) (ci := 4) (j := 4) 19 rfl rfl fl_St_18_4 cl4 hS.1 (fun r hr => by cases hr; rfl) (by decide) rfl rfl ?_
  refine bp_aload_n (q := 41) 20 rfl rfl rfl rfl ?_
  refine bp_aload_n (q := 42) 21 rfl rfl rfl rfl ?_
  refine bp_getI (q := 45) (ci := 4) (j := 5) 22 rfl rfl fl_St_21_4 hO.1 rfl ?_
  refine bp_putI (q := 48) (ci := 4) (j := 5) 23 rfl rfl fl_St_21_4 cl4 hS.1 (fun r hr => by cases hr; rfl) (by decide) rfl rfl ?_
  refine bp_vret 24 rfl rfl  ⟨_, rfl, ?_⟩
  refine hQ _ ⟨hS.1, (fun j hj => by rcases six hj with e | e | e | e | e | e <;> subst e <;> simp [bp_I_sI, hne, hO.2 0 (by decide), hO.2 1 (by decide), hO.2 2 (by decide), hO.2 3 (by decide), hO.2 4 (by decide), hO.2 5 (by decide)])⟩ ((((((bp_Fi.sI (F := fun b => b = o) rfl).tr (bp_Fi.sI (F := fun b => b = o) rfl)).tr (bp_Fi.sI (F := fun b => b = o) rfl)).tr (bp_Fi.sI (F := fun b => b = o) rfl)).tr (bp_Fi.sI (F := fun b => b = o) rfl)).tr (bp_Fi.sI (F := fun b => b = o) rfl))
set_option maxRecDepth 100000 in
set_option maxHeartbeats 4000000 in
theorem s_St_look {ro : Bool}  (hS : So h o v) (h0 : v 0 < 8) (h1 : v 1 < 100) (h2 : v 2 < 8) (hQ : Q (some (.int (nI (v 0 + 8 * v 2 + 64 * v 1)))) h c s) : bp_AM l G H0 (1, 22, ro, ro) M_St_look h c s [.ref o] Q := by
  refine bp_of (ls := [some (.ref o)]) (by decide) dt_St_look (Nat.le_of_ble_eq_true rfl) (fun q hq => hq) ro ?_
  refine bp_aload_n (q := 1) 0 rfl rfl rfl rfl ?_
  refine bp_getI (q := 4) (ci := 4) (j := 0) 1 rfl rfl fl_St_24_4 hS.1 rfl ?_
  refine bp_aload_n (q := 5) 2 rfl rfl rfl rfl ?_
  refine bp_getI (q := 8) (ci := 4) (j := 1) 3 rfl rfl fl_St_27_4 hS.1 rfl ?_
  refine bp_aload_n (q := 9) 4 rfl rfl rfl rfl ?_
  refine bp_getI (q := 12) (ci := 4) (j := 2) 5 rfl rfl fl_St_30_4 hS.1 rfl ?_
  rw [hS.2 0 (by decide), hS.2 1 (by decide), hS.2 2 (by decide)]
  refine bp_callS (q := 15) 6 rfl rfl cw_X_lookOf lk_St_33 wd692 rfl rfl (Nat.le_of_ble_eq_true rfl) ⟨Nat.le_of_ble_eq_true rfl, Nat.le_of_ble_eq_true rfl⟩ (s_X_lookOf (ro := ro) h0 h1 h2 ?_)
  refine bp_iret 7 rfl rfl rfl ⟨_, rfl, ?_⟩
  exact hQ
end STATE
