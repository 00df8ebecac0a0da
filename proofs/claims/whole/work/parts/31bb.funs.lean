/-! methods, by program (wip/whole/gen_fun.py, gen_loop.py) -/
def V_X7_cell_r1 (Ln : Nat) (I A : Nat → Nat → Int32) (v1 : Int32) (v2 : Int32) (v3 : Int32) : Int64 := if v1 = 0 then (V_X7_cell_r1_c0 Ln I A v2 v3) else (if v1 = 1 then (V_X7_cell_r1_c1 Ln I A v2 v3) else (if v1 = 2 then (V_X7_cell_r1_c2 Ln I A v2 v3) else (if v1 = 3 then (V_X7_cell_r1_c3 Ln I A v2 v3) else (if (V_X7_isSheet Ln (zp I 1 11 0) A v1) = 0 then (-9223372036854775808) else (if (V_X7_isLane Ln (zp I 1 11 0) A v3) ≠ 0 then 0 else (-9223372036854775808))))))
def SI_X7_cell_r1 (Ln : Nat) (I A : Nat → Nat → Int32) (v1 : Int32) (v2 : Int32) (v3 : Int32) : Nat → Nat → Int32 := if v1 = 0 then (SI_X7_cell_r1_c0 Ln I A v2 v3) else (if v1 = 1 then (SI_X7_cell_r1_c1 Ln I A v2 v3) else (if v1 = 2 then (SI_X7_cell_r1_c2 Ln I A v2 v3) else (if v1 = 3 then (SI_X7_cell_r1_c3 Ln I A v2 v3) else (if (V_X7_isSheet Ln (zp I 1 11 0) A v1) = 0 then (zp I 1 11 0) else (if (V_X7_isLane Ln (zp I 1 11 0) A v3) ≠ 0 then (zp I 1 11 0) else (zp I 1 11 0))))))
def P_X7_cell_r1 (Ln : Nat) (I A : Nat → Nat → Int32) (v1 : Int32) (v2 : Int32) (v3 : Int32) : Prop := if v1 = 0 then (P_X7_cell_r1_c0 Ln I A v2 v3) else (if v1 = 1 then (P_X7_cell_r1_c1 Ln I A v2 v3) else (if v1 = 2 then (P_X7_cell_r1_c2 Ln I A v2 v3) else (if v1 = 3 then (P_X7_cell_r1_c3 Ln I A v2 v3) else True)))
set_option maxRecDepth 100000 in
theorem M_X7_cell_r1 (Ln : Nat) (I A : Nat → Nat → Int32) (v1 : Int32) (v2 : Int32) (v3 : Int32) (h : P_X7_cell_r1 Ln I A v1 v2 v3) : zEv 69 0 0 0 [some (.ref 1), some (.int v1), some (.int v2), some (.int v3)] [] (zGs Ln I A) (some (.long (V_X7_cell_r1 Ln I A v1 v2 v3)), zGs Ln (SI_X7_cell_r1 Ln I A v1 v2 v3) (A)) := by
  unfold P_X7_cell_r1 at h
  unfold V_X7_cell_r1 SI_X7_cell_r1
  by_cases n0 : v1 = 0
  · simp only [if_pos n0] at h ⊢
    subst n0
    exact M_X7_cell_r1_c0 Ln I A v2 v3 h
  simp only [if_neg n0] at h ⊢
  by_cases n1 : v1 = 1
  · simp only [if_pos n1] at h ⊢
    subst n1
    exact M_X7_cell_r1_c1 Ln I A v2 v3 h
  simp only [if_neg n1] at h ⊢
  by_cases n2 : v1 = 2
  · simp only [if_pos n2] at h ⊢
    subst n2
    exact M_X7_cell_r1_c2 Ln I A v2 v3 h
  simp only [if_neg n2] at h ⊢
  by_cases n3 : v1 = 3
  · simp only [if_pos n3] at h ⊢
    subst n3
    exact M_X7_cell_r1_c3 Ln I A v2 v3 h
  simp only [if_neg n3] at h ⊢
  refine B_X7_cell_r1_0 Ln I A v1 v2 v3  (M_X7_isSheet Ln (zp I 1 11 0) A v1 ) rfl ?_
  refine B_X7_cell_r1_9_s1 Ln (zp I 1 11 0) A v1 v2 v3 (V_X7_isSheet Ln (zp I 1 11 0) A v1)  (fun q0 => ?_) (fun q0 => ?_)
  · try simp only [if_pos q0]
    exact B_X7_cell_r1_19 Ln (zp I 1 11 0) A v1 v2 v3 
  · try simp only [if_neg q0]
    refine B_X7_cell_r1_12 Ln (zp I 1 11 0) A v1 v2 v3  (M_X7_isLane Ln (zp I 1 11 0) A v3 ) rfl ?_
    refine B_X7_cell_r1_16_s1 Ln (zp I 1 11 0) A v1 v2 v3 (V_X7_isLane Ln (zp I 1 11 0) A v3)  (fun q1 => ?_) (fun q1 => ?_)
    · try simp only [if_pos q1]
      exact absurd (zsh Ln I A v1 n0 n1 n2 n3) (by assumption)
    · try simp only [if_neg q1]
      exact B_X7_cell_r1_19 Ln (zp I 1 11 0) A v1 v2 v3 
def V_X7_copy_r1 (Ln : Nat) (I A : Nat → Nat → Int32) (v1 : Int32) (v2 : Int32) (v3 : Int32) (v4 : Int32) (v5 : Int32) : Int32 := if v1 = 0 ∧ v3 = 0 then (V_X7_copy_r1_c0_c0 Ln I A v2 v4 v5) else (if v1 = 0 ∧ v3 = 1 then (V_X7_copy_r1_c0_c1 Ln I A v2 v4 v5) else (if v1 = 0 ∧ v3 = 2 then (V_X7_copy_r1_c0_c2 Ln I A v2 v4 v5) else (if v1 = 0 ∧ v3 = 3 then (V_X7_copy_r1_c0_c3 Ln I A v2 v4 v5) else (if v1 = 1 ∧ v3 = 0 then (V_X7_copy_r1_c1_c0 Ln I A v2 v4 v5) else (if v1 = 1 ∧ v3 = 1 then (V_X7_copy_r1_c1_c1 Ln I A v2 v4 v5) else (if v1 = 1 ∧ v3 = 2 then (V_X7_copy_r1_c1_c2 Ln I A v2 v4 v5) else (if v1 = 1 ∧ v3 = 3 then (V_X7_copy_r1_c1_c3 Ln I A v2 v4 v5) else (if v1 = 2 ∧ v3 = 0 then (V_X7_copy_r1_c2_c0 Ln I A v2 v4 v5) else (if v1 = 2 ∧ v3 = 1 then (V_X7_copy_r1_c2_c1 Ln I A v2 v4 v5) else (if v1 = 2 ∧ v3 = 2 then (V_X7_copy_r1_c2_c2 Ln I A v2 v4 v5) else (if v1 = 2 ∧ v3 = 3 then (V_X7_copy_r1_c2_c3 Ln I A v2 v4 v5) else (if v1 = 3 ∧ v3 = 0 then (V_X7_copy_r1_c3_c0 Ln I A v2 v4 v5) else (if v1 = 3 ∧ v3 = 1 then (V_X7_copy_r1_c3_c1 Ln I A v2 v4 v5) else (if v1 = 3 ∧ v3 = 2 then (V_X7_copy_r1_c3_c2 Ln I A v2 v4 v5) else (if v1 = 3 ∧ v3 = 3 then (V_X7_copy_r1_c3_c3 Ln I A v2 v4 v5) else (if (V_X7_isSheet Ln I A v1) = 0 then (V_X7_faultless_r1 Ln I A (-1)) else (if (V_X7_isSheet Ln I A v3) ≠ 0 then 0 else (V_X7_faultless_r1 Ln I A (-1)))))))))))))))))))
def SI_X7_copy_r1 (Ln : Nat) (I A : Nat → Nat → Int32) (v1 : Int32) (v2 : Int32) (v3 : Int32) (v4 : Int32) (v5 : Int32) : Nat → Nat → Int32 := if v1 = 0 ∧ v3 = 0 then (SI_X7_copy_r1_c0_c0 Ln I A v2 v4 v5) else (if v1 = 0 ∧ v3 = 1 then (SI_X7_copy_r1_c0_c1 Ln I A v2 v4 v5) else (if v1 = 0 ∧ v3 = 2 then (SI_X7_copy_r1_c0_c2 Ln I A v2 v4 v5) else (if v1 = 0 ∧ v3 = 3 then (SI_X7_copy_r1_c0_c3 Ln I A v2 v4 v5) else (if v1 = 1 ∧ v3 = 0 then (SI_X7_copy_r1_c1_c0 Ln I A v2 v4 v5) else (if v1 = 1 ∧ v3 = 1 then (SI_X7_copy_r1_c1_c1 Ln I A v2 v4 v5) else (if v1 = 1 ∧ v3 = 2 then (SI_X7_copy_r1_c1_c2 Ln I A v2 v4 v5) else (if v1 = 1 ∧ v3 = 3 then (SI_X7_copy_r1_c1_c3 Ln I A v2 v4 v5) else (if v1 = 2 ∧ v3 = 0 then (SI_X7_copy_r1_c2_c0 Ln I A v2 v4 v5) else (if v1 = 2 ∧ v3 = 1 then (SI_X7_copy_r1_c2_c1 Ln I A v2 v4 v5) else (if v1 = 2 ∧ v3 = 2 then (SI_X7_copy_r1_c2_c2 Ln I A v2 v4 v5) else (if v1 = 2 ∧ v3 = 3 then (SI_X7_copy_r1_c2_c3 Ln I A v2 v4 v5) else (if v1 = 3 ∧ v3 = 0 then (SI_X7_copy_r1_c3_c0 Ln I A v2 v4 v5) else (if v1 = 3 ∧ v3 = 1 then (SI_X7_copy_r1_c3_c1 Ln I A v2 v4 v5) else (if v1 = 3 ∧ v3 = 2 then (SI_X7_copy_r1_c3_c2 Ln I A v2 v4 v5) else (if v1 = 3 ∧ v3 = 3 then (SI_X7_copy_r1_c3_c3 Ln I A v2 v4 v5) else (if (V_X7_isSheet Ln I A v1) = 0 then (SI_X7_faultless_r1 Ln I A (-1)) else (if (V_X7_isSheet Ln I A v3) ≠ 0 then I else (SI_X7_faultless_r1 Ln I A (-1)))))))))))))))))))
def SA_X7_copy_r1 (Ln : Nat) (I A : Nat → Nat → Int32) (v1 : Int32) (v2 : Int32) (v3 : Int32) (v4 : Int32) (v5 : Int32) : Nat → Nat → Int32 := if v1 = 0 ∧ v3 = 0 then (SA_X7_copy_r1_c0_c0 Ln I A v2 v4 v5) else (if v1 = 0 ∧ v3 = 1 then (SA_X7_copy_r1_c0_c1 Ln I A v2 v4 v5) else (if v1 = 0 ∧ v3 = 2 then (SA_X7_copy_r1_c0_c2 Ln I A v2 v4 v5) else (if v1 = 0 ∧ v3 = 3 then (SA_X7_copy_r1_c0_c3 Ln I A v2 v4 v5) else (if v1 = 1 ∧ v3 = 0 then (SA_X7_copy_r1_c1_c0 Ln I A v2 v4 v5) else (if v1 = 1 ∧ v3 = 1 then (SA_X7_copy_r1_c1_c1 Ln I A v2 v4 v5) else (if v1 = 1 ∧ v3 = 2 then (SA_X7_copy_r1_c1_c2 Ln I A v2 v4 v5) else (if v1 = 1 ∧ v3 = 3 then (SA_X7_copy_r1_c1_c3 Ln I A v2 v4 v5) else (if v1 = 2 ∧ v3 = 0 then (SA_X7_copy_r1_c2_c0 Ln I A v2 v4 v5) else (if v1 = 2 ∧ v3 = 1 then (SA_X7_copy_r1_c2_c1 Ln I A v2 v4 v5) else (if v1 = 2 ∧ v3 = 2 then (SA_X7_copy_r1_c2_c2 Ln I A v2 v4 v5) else (if v1 = 2 ∧ v3 = 3 then (SA_X7_copy_r1_c2_c3 Ln I A v2 v4 v5) else (if v1 = 3 ∧ v3 = 0 then (SA_X7_copy_r1_c3_c0 Ln I A v2 v4 v5) else (if v1 = 3 ∧ v3 = 1 then (SA_X7_copy_r1_c3_c1 Ln I A v2 v4 v5) else (if v1 = 3 ∧ v3 = 2 then (SA_X7_copy_r1_c3_c2 Ln I A v2 v4 v5) else (if v1 = 3 ∧ v3 = 3 then (SA_X7_copy_r1_c3_c3 Ln I A v2 v4 v5) else (if (V_X7_isSheet Ln I A v1) = 0 then A else (if (V_X7_isSheet Ln I A v3) ≠ 0 then A else A)))))))))))))))))
def P_X7_copy_r1 (Ln : Nat) (I A : Nat → Nat → Int32) (v1 : Int32) (v2 : Int32) (v3 : Int32) (v4 : Int32) (v5 : Int32) : Prop := if v1 = 0 ∧ v3 = 0 then (P_X7_copy_r1_c0_c0 Ln I A v2 v4 v5) else (if v1 = 0 ∧ v3 = 1 then (P_X7_copy_r1_c0_c1 Ln I A v2 v4 v5) else (if v1 = 0 ∧ v3 = 2 then (P_X7_copy_r1_c0_c2 Ln I A v2 v4 v5) else (if v1 = 0 ∧ v3 = 3 then (P_X7_copy_r1_c0_c3 Ln I A v2 v4 v5) else (if v1 = 1 ∧ v3 = 0 then (P_X7_copy_r1_c1_c0 Ln I A v2 v4 v5) else (if v1 = 1 ∧ v3 = 1 then (P_X7_copy_r1_c1_c1 Ln I A v2 v4 v5) else (if v1 = 1 ∧ v3 = 2 then (P_X7_copy_r1_c1_c2 Ln I A v2 v4 v5) else (if v1 = 1 ∧ v3 = 3 then (P_X7_copy_r1_c1_c3 Ln I A v2 v4 v5) else (if v1 = 2 ∧ v3 = 0 then (P_X7_copy_r1_c2_c0 Ln I A v2 v4 v5) else (if v1 = 2 ∧ v3 = 1 then (P_X7_copy_r1_c2_c1 Ln I A v2 v4 v5) else (if v1 = 2 ∧ v3 = 2 then (P_X7_copy_r1_c2_c2 Ln I A v2 v4 v5) else (if v1 = 2 ∧ v3 = 3 then (P_X7_copy_r1_c2_c3 Ln I A v2 v4 v5) else (if v1 = 3 ∧ v3 = 0 then (P_X7_copy_r1_c3_c0 Ln I A v2 v4 v5) else (if v1 = 3 ∧ v3 = 1 then (P_X7_copy_r1_c3_c1 Ln I A v2 v4 v5) else (if v1 = 3 ∧ v3 = 2 then (P_X7_copy_r1_c3_c2 Ln I A v2 v4 v5) else (if v1 = 3 ∧ v3 = 3 then (P_X7_copy_r1_c3_c3 Ln I A v2 v4 v5) else True)))))))))))))))
set_option maxRecDepth 100000 in
theorem M_X7_copy_r1 (Ln : Nat) (I A : Nat → Nat → Int32) (v1 : Int32) (v2 : Int32) (v3 : Int32) (v4 : Int32) (v5 : Int32) (h : P_X7_copy_r1 Ln I A v1 v2 v3 v4 v5) : zEv 70 0 0 0 [some (.ref 1), some (.int v1), some (.int v2), some (.int v3), some (.int v4), some (.int v5), none, none] [] (zGs Ln I A) (some (.int (V_X7_copy_r1 Ln I A v1 v2 v3 v4 v5)), zGs Ln (SI_X7_copy_r1 Ln I A v1 v2 v3 v4 v5) (SA_X7_copy_r1 Ln I A v1 v2 v3 v4 v5)) := by
  unfold P_X7_copy_r1 at h
  unfold V_X7_copy_r1 SI_X7_copy_r1 SA_X7_copy_r1
  by_cases n0 : v1 = 0 ∧ v3 = 0
  · simp only [if_pos n0] at h ⊢
    obtain ⟨n0a, n0b⟩ := n0; subst n0a; subst n0b
    exact M_X7_copy_r1_c0_c0 Ln I A v2 v4 v5 h
  simp only [if_neg n0] at h ⊢
  by_cases n1 : v1 = 0 ∧ v3 = 1
  · simp only [if_pos n1] at h ⊢
    obtain ⟨n1a, n1b⟩ := n1; subst n1a; subst n1b
    exact M_X7_copy_r1_c0_c1 Ln I A v2 v4 v5 h
  simp only [if_neg n1] at h ⊢
  by_cases n2 : v1 = 0 ∧ v3 = 2
  · simp only [if_pos n2] at h ⊢
    obtain ⟨n2a, n2b⟩ := n2; subst n2a; subst n2b
    exact M_X7_copy_r1_c0_c2 Ln I A v2 v4 v5 h
  simp only [if_neg n2] at h ⊢
  by_cases n3 : v1 = 0 ∧ v3 = 3
  · simp only [if_pos n3] at h ⊢
    obtain ⟨n3a, n3b⟩ := n3; subst n3a; subst n3b
    exact M_X7_copy_r1_c0_c3 Ln I A v2 v4 v5 h
  simp only [if_neg n3] at h ⊢
  by_cases n4 : v1 = 1 ∧ v3 = 0
  · simp only [if_pos n4] at h ⊢
    obtain ⟨n4a, n4b⟩ := n4; subst n4a; subst n4b
    exact M_X7_copy_r1_c1_c0 Ln I A v2 v4 v5 h
  simp only [if_neg n4] at h ⊢
  by_cases n5 : v1 = 1 ∧ v3 = 1
  · simp only [if_pos n5] at h ⊢
    obtain ⟨n5a, n5b⟩ := n5; subst n5a; subst n5b
    exact M_X7_copy_r1_c1_c1 Ln I A v2 v4 v5 h
  simp only [if_neg n5] at h ⊢
  by_cases n6 : v1 = 1 ∧ v3 = 2
  · simp only [if_pos n6] at h ⊢
    obtain ⟨n6a, n6b⟩ := n6; subst n6a; subst n6b
    exact M_X7_copy_r1_c1_c2 Ln I A v2 v4 v5 h
  simp only [if_neg n6] at h ⊢
  by_cases n7 : v1 = 1 ∧ v3 = 3
  · simp only [if_pos n7] at h ⊢
    obtain ⟨n7a, n7b⟩ := n7; subst n7a; subst n7b
    exact M_X7_copy_r1_c1_c3 Ln I A v2 v4 v5 h
  simp only [if_neg n7] at h ⊢
  by_cases n8 : v1 = 2 ∧ v3 = 0
  · simp only [if_pos n8] at h ⊢
    obtain ⟨n8a, n8b⟩ := n8; subst n8a; subst n8b
    exact M_X7_copy_r1_c2_c0 Ln I A v2 v4 v5 h
  simp only [if_neg n8] at h ⊢
  by_cases n9 : v1 = 2 ∧ v3 = 1
  · simp only [if_pos n9] at h ⊢
    obtain ⟨n9a, n9b⟩ := n9; subst n9a; subst n9b
    exact M_X7_copy_r1_c2_c1 Ln I A v2 v4 v5 h
  simp only [if_neg n9] at h ⊢
  by_cases n10 : v1 = 2 ∧ v3 = 2
  · simp only [if_pos n10] at h ⊢
    obtain ⟨n10a, n10b⟩ := n10; subst n10a; subst n10b
    exact M_X7_copy_r1_c2_c2 Ln I A v2 v4 v5 h
  simp only [if_neg n10] at h ⊢
  by_cases n11 : v1 = 2 ∧ v3 = 3
  · simp only [if_pos n11] at h ⊢
    obtain ⟨n11a, n11b⟩ := n11; subst n11a; subst n11b
    exact M_X7_copy_r1_c2_c3 Ln I A v2 v4 v5 h
  simp only [if_neg n11] at h ⊢
  by_cases n12 : v1 = 3 ∧ v3 = 0
  · simp only [if_pos n12] at h ⊢
    obtain ⟨n12a, n12b⟩ := n12; subst n12a; subst n12b
    exact M_X7_copy_r1_c3_c0 Ln I A v2 v4 v5 h
  simp only [if_neg n12] at h ⊢
  by_cases n13 : v1 = 3 ∧ v3 = 1
  · simp only [if_pos n13] at h ⊢
    obtain ⟨n13a, n13b⟩ := n13; subst n13a; subst n13b
    exact M_X7_copy_r1_c3_c1 Ln I A v2 v4 v5 h
  simp only [if_neg n13] at h ⊢
  by_cases n14 : v1 = 3 ∧ v3 = 2
  · simp only [if_pos n14] at h ⊢
    obtain ⟨n14a, n14b⟩ := n14; subst n14a; subst n14b
    exact M_X7_copy_r1_c3_c2 Ln I A v2 v4 v5 h
  simp only [if_neg n14] at h ⊢
  by_cases n15 : v1 = 3 ∧ v3 = 3
  · simp only [if_pos n15] at h ⊢
    obtain ⟨n15a, n15b⟩ := n15; subst n15a; subst n15b
    exact M_X7_copy_r1_c3_c3 Ln I A v2 v4 v5 h
  simp only [if_neg n15] at h ⊢
  refine B_X7_copy_r1_0 Ln I A v1 v2 v3 v4 v5  (M_X7_isSheet Ln I A v1 ) rfl ?_
  refine B_X7_copy_r1_4_s1 Ln I A v1 v2 v3 v4 v5 (V_X7_isSheet Ln I A v1)  (fun q0 => ?_) (fun q0 => ?_)
  · try simp only [if_pos q0]
    refine B_X7_copy_r1_14 Ln I A v1 v2 v3 v4 v5  (M_X7_faultless_r1 Ln I A (-1) ) rfl ?_
    exact B_X7_copy_r1_19_s1 Ln (SI_X7_faultless_r1 Ln I A (-1)) A v1 v2 v3 v4 v5 (V_X7_faultless_r1 Ln I A (-1)) 
  · try simp only [if_neg q0]
    refine B_X7_copy_r1_7 Ln I A v1 v2 v3 v4 v5  (M_X7_isSheet Ln I A v3 ) rfl ?_
    refine B_X7_copy_r1_11_s1 Ln I A v1 v2 v3 v4 v5 (V_X7_isSheet Ln I A v3)  (fun q1 => ?_) (fun q1 => ?_)
    · try simp only [if_pos q1]
      exact absurd (zsh2 Ln I A v1 v3 n0 n1 n2 n3 n4 n5 n6 n7 n8 n9 n10 n11 n12 n13 n14 n15 (by assumption)) (by assumption)
    · try simp only [if_neg q1]
      refine B_X7_copy_r1_14 Ln I A v1 v2 v3 v4 v5  (M_X7_faultless_r1 Ln I A (-1) ) rfl ?_
      exact B_X7_copy_r1_19_s1 Ln (SI_X7_faultless_r1 Ln I A (-1)) A v1 v2 v3 v4 v5 (V_X7_faultless_r1 Ln I A (-1)) 
