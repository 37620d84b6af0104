/-! names of colours, spellings of words -/
def cnI (k : Nat) : Nat := if k = 0 then 7 else k - 1
section NAMES2
variable {l : Launch} {G : bp_G} {H0 : Heap} {h : bp_H} {c s : Nat} {Q : Option Value → bp_H → Nat → Nat → Prop}
set_option maxRecDepth 100000 in
set_option maxHeartbeats 4000000 in
theorem s_X_colourName {ro : Bool} {k : Nat} (hk : k < 8) (hQ : Q (some (.ref (G.2.2.2.1 (cnI k)))) h c s) : bp_AM l G H0 (0, 0, ro, ro) M_X_colourName h c s [.int (nI k)] Q := by
  refine bp_of (ls := [some (.int (nI k))]) (by decide) dt_X_colourName (Nat.le_of_ble_eq_true rfl) (fun q hq => hq) ro ?_
  have h8 : k = 0 ∨ k = 1 ∨ k = 2 ∨ k = 3 ∨ k = 4 ∨ k = 5 ∨ k = 6 ∨ k = 7 := by omega
  rcases h8 with e | e | e | e | e | e | e | e
  · subst e
    refine bp_iload_n (q := 1) 0 rfl rfl rfl rfl ?_
    refine bp_tsOut (tgt := 65) 1 rfl (by decide) (by decide) ?_
    refine bp_ldcs hs7 (q := 67) 16 rfl rfl rfl rfl ?_
    exact bp_aret 17 rfl rfl (Or.inl ⟨_, rfl⟩) ⟨_, rfl, hQ⟩
  · subst e
    refine bp_iload_n (q := 1) 0 rfl rfl rfl rfl ?_
    refine bp_tsIn (tgt := 44) 1 rfl (by decide) (by decide) rfl (by decide) ?_
    refine bp_ldcs hs0 (q := 46) 2 rfl rfl rfl rfl ?_
    exact bp_aret 3 rfl rfl (Or.inl ⟨_, rfl⟩) ⟨_, rfl, hQ⟩
  · subst e
    refine bp_iload_n (q := 1) 0 rfl rfl rfl rfl ?_
    refine bp_tsIn (tgt := 47) 1 rfl (by decide) (by decide) rfl (by decide) ?_
    refine bp_ldcs hs1 (q := 49) 4 rfl rfl rfl rfl ?_
    exact bp_aret 5 rfl rfl (Or.inl ⟨_, rfl⟩) ⟨_, rfl, hQ⟩
  · subst e
    refine bp_iload_n (q := 1) 0 rfl rfl rfl rfl ?_
    refine bp_tsIn (tgt := 50) 1 rfl (by decide) (by decide) rfl (by decide) ?_
    refine bp_ldcs hs2 (q := 52) 6 rfl rfl rfl rfl ?_
    exact bp_aret 7 rfl rfl (Or.inl ⟨_, rfl⟩) ⟨_, rfl, hQ⟩
  · subst e
    refine bp_iload_n (q := 1) 0 rfl rfl rfl rfl ?_
    refine bp_tsIn (tgt := 53) 1 rfl (by decide) (by decide) rfl (by decide) ?_
    refine bp_ldcs hs3 (q := 55) 8 rfl rfl rfl rfl ?_
    exact bp_aret 9 rfl rfl (Or.inl ⟨_, rfl⟩) ⟨_, rfl, hQ⟩
  · subst e
    refine bp_iload_n (q := 1) 0 rfl rfl rfl rfl ?_
    refine bp_tsIn (tgt := 56) 1 rfl (by decide) (by decide) rfl (by decide) ?_
    refine bp_ldcs hs4 (q := 58) 10 rfl rfl rfl rfl ?_
    exact bp_aret 11 rfl rfl (Or.inl ⟨_, rfl⟩) ⟨_, rfl, hQ⟩
  · subst e
    refine bp_iload_n (q := 1) 0 rfl rfl rfl rfl ?_
    refine bp_tsIn (tgt := 59) 1 rfl (by decide) (by decide) rfl (by decide) ?_
    refine bp_ldcs hs5 (q := 61) 12 rfl rfl rfl rfl ?_
    exact bp_aret 13 rfl rfl (Or.inl ⟨_, rfl⟩) ⟨_, rfl, hQ⟩
  · subst e
    refine bp_iload_n (q := 1) 0 rfl rfl rfl rfl ?_
    refine bp_tsIn (tgt := 62) 1 rfl (by decide) (by decide) rfl (by decide) ?_
    refine bp_ldcs hs6 (q := 64) 14 rfl rfl rfl rfl ?_
    exact bp_aret 15 rfl rfl (Or.inl ⟨_, rfl⟩) ⟨_, rfl, hQ⟩
def spI (k : Nat) : Nat := if k = 0 then 23 else k + 7
set_option maxRecDepth 100000 in
set_option maxHeartbeats 4000000 in
theorem s_BR_spelling {ro : Bool} {k : Nat} (hk : k < 16) (hQ : Q (some (.ref (G.2.2.2.1 (spI k)))) h c s) : bp_AM l G H0 (0, 0, ro, ro) M_BR_spelling h c s [.int (nI k)] Q := by
  refine bp_of (ls := [some (.int (nI k))]) (by decide) dt_BR_spelling (Nat.le_of_ble_eq_true rfl) (fun q hq => hq) ro ?_
  have h8 : k = 0 ∨ k = 1 ∨ k = 2 ∨ k = 3 ∨ k = 4 ∨ k = 5 ∨ k = 6 ∨ k = 7 ∨ k = 8 ∨ k = 9 ∨ k = 10 ∨ k = 11 ∨ k = 12 ∨ k = 13 ∨ k = 14 ∨ k = 15 := by omega
  rcases h8 with e | e | e | e | e | e | e | e | e | e | e | e | e | e | e | e
  · subst e
    refine bp_iload_n (q := 1) 0 rfl rfl rfl rfl ?_
    refine bp_tsOut (tgt := 121) 1 rfl (by decide) (by decide) ?_
    refine bp_ldcs hs23 (q := 123) 32 rfl rfl rfl rfl ?_
    exact bp_aret 33 rfl rfl (Or.inl ⟨_, rfl⟩) ⟨_, rfl, hQ⟩
  · subst e
    refine bp_iload_n (q := 1) 0 rfl rfl rfl rfl ?_
    refine bp_tsIn (tgt := 76) 1 rfl (by decide) (by decide) rfl (by decide) ?_
    refine bp_ldcs hs8 (q := 78) 2 rfl rfl rfl rfl ?_
    exact bp_aret 3 rfl rfl (Or.inl ⟨_, rfl⟩) ⟨_, rfl, hQ⟩
  · subst e
    refine bp_iload_n (q := 1) 0 rfl rfl rfl rfl ?_
    refine bp_tsIn (tgt := 79) 1 rfl (by decide) (by decide) rfl (by decide) ?_
    refine bp_ldcs hs9 (q := 81) 4 rfl rfl rfl rfl ?_
    exact bp_aret 5 rfl rfl (Or.inl ⟨_, rfl⟩) ⟨_, rfl, hQ⟩
  · subst e
    refine bp_iload_n (q := 1) 0 rfl rfl rfl rfl ?_
    refine bp_tsIn (tgt := 82) 1 rfl (by decide) (by decide) rfl (by decide) ?_
    refine bp_ldcs hs10 (q := 84) 6 rfl rfl rfl rfl ?_
    exact bp_aret 7 rfl rfl (Or.inl ⟨_, rfl⟩) ⟨_, rfl, hQ⟩
  · subst e
    refine bp_iload_n (q := 1) 0 rfl rfl rfl rfl ?_
    refine bp_tsIn (tgt := 85) 1 rfl (by decide) (by decide) rfl (by decide) ?_
    refine bp_ldcs hs11 (q := 87) 8 rfl rfl rfl rfl ?_
    exact bp_aret 9 rfl rfl (Or.inl ⟨_, rfl⟩) ⟨_, rfl, hQ⟩
  · subst e
    refine bp_iload_n (q := 1) 0 rfl rfl rfl rfl ?_
    refine bp_tsIn (tgt := 88) 1 rfl (by decide) (by decide) rfl (by decide) ?_
    refine bp_ldcs hs12 (q := 90) 10 rfl rfl rfl rfl ?_
    exact bp_aret 11 rfl rfl (Or.inl ⟨_, rfl⟩) ⟨_, rfl, hQ⟩
  · subst e
    refine bp_iload_n (q := 1) 0 rfl rfl rfl rfl ?_
    refine bp_tsIn (tgt := 91) 1 rfl (by decide) (by decide) rfl (by decide) ?_
    refine bp_ldcs hs13 (q := 93) 12 rfl rfl rfl rfl ?_
    exact bp_aret 13 rfl rfl (Or.inl ⟨_, rfl⟩) ⟨_, rfl, hQ⟩
  · subst e
    refine bp_iload_n (q := 1) 0 rfl rfl rfl rfl ?_
    refine bp_tsIn (tgt := 94) 1 rfl (by decide) (by decide) rfl (by decide) ?_
    refine bp_ldcs hs14 (q := 96) 14 rfl rfl rfl rfl ?_
    exact bp_aret 15 rfl rfl (Or.inl ⟨_, rfl⟩) ⟨_, rfl, hQ⟩
  · subst e
    refine bp_iload_n (q := 1) 0 rfl rfl rfl rfl ?_
    refine bp_tsIn (tgt := 97) 1 rfl (by decide) (by decide) rfl (by decide) ?_
    refine bp_ldcs hs15 (q := 99) 16 rfl rfl rfl rfl ?_
    exact bp_aret 17 rfl rfl (Or.inl ⟨_, rfl⟩) ⟨_, rfl, hQ⟩
  · subst e
    refine bp_iload_n (q := 1) 0 rfl rfl rfl rfl ?_
    refine bp_tsIn (tgt := 100) 1 rfl (by decide) (by decide) rfl (by decide) ?_
    refine bp_ldcs hs16 (q := 102) 18 rfl rfl rfl rfl ?_
    exact bp_aret 19 rfl rfl (Or.inl ⟨_, rfl⟩) ⟨_, rfl, hQ⟩
  · subst e
    refine bp_iload_n (q := 1) 0 rfl rfl rfl rfl ?_
    refine bp_tsIn (tgt := 103) 1 rfl (by decide) (by decide) rfl (by decide) ?_
    refine bp_ldcs hs17 (q := 105) 20 rfl rfl rfl rfl ?_
    exact bp_aret 21 rfl rfl (Or.inl ⟨_, rfl⟩) ⟨_, rfl, hQ⟩
  · subst e
    refine bp_iload_n (q := 1) 0 rfl rfl rfl rfl ?_
    refine bp_tsIn (tgt := 106) 1 rfl (by decide) (by decide) rfl (by decide) ?_
    refine bp_ldcs hs18 (q := 108) 22 rfl rfl rfl rfl ?_
    exact bp_aret 23 rfl rfl (Or.inl ⟨_, rfl⟩) ⟨_, rfl, hQ⟩
  · subst e
    refine bp_iload_n (q := 1) 0 rfl rfl rfl rfl ?_
    refine bp_tsIn (tgt := 109) 1 rfl (by decide) (by decide) rfl (by decide) ?_
    refine bp_ldcs hs19 (q := 111) 24 rfl rfl rfl rfl ?_
    exact bp_aret 25 rfl rfl (Or.inl ⟨_, rfl⟩) ⟨_, rfl, hQ⟩
  · subst e
    refine bp_iload_n (q := 1) 0 rfl rfl rfl rfl ?_
    refine bp_tsIn (tgt := 112) 1 rfl (by decide) (by decide) rfl (by decide) ?_
    refine bp_ldcs hs20 (q := 114) 26 rfl rfl rfl rfl ?_
    exact bp_aret 27 rfl rfl (Or.inl ⟨_, rfl⟩) ⟨_, rfl, hQ⟩
  · subst e
    refine bp_iload_n (q := 1) 0 rfl rfl rfl rfl ?_
    refine bp_tsIn (tgt := 115) 1 rfl (by decide) (by decide) rfl (by decide) ?_
    refine bp_ldcs hs21 (q := 117) 28 rfl rfl rfl rfl ?_
    exact bp_aret 29 rfl rfl (Or.inl ⟨_, rfl⟩) ⟨_, rfl, hQ⟩
  · subst e
    refine bp_iload_n (q := 1) 0 rfl rfl rfl rfl ?_
    refine bp_tsIn (tgt := 118) 1 rfl (by decide) (by decide) rfl (by decide) ?_
    refine bp_ldcs hs22 (q := 120) 30 rfl rfl rfl rfl ?_
    exact bp_aret 31 rfl rfl (Or.inl ⟨_, rfl⟩) ⟨_, rfl, hQ⟩
end NAMES2
