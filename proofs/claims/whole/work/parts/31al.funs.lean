/-! methods, by program (wip/whole/gen_fun.py, gen_loop.py) -/
def V_X7_copy_r1_c0_c1 (Ln : Nat) (I A : Nat → Nat → Int32) (v2 : Int32) (v4 : Int32) (v5 : Int32) : Int32 := if (V_X7_isSheet Ln I A 0) = 0 then (V_X7_faultless_r1 Ln I A (-1)) else (if (V_X7_isSheet Ln I A 1) ≠ 0 then (if (I 3 1) = 0 then (V_X7_faulted_r1 Ln I A 1) else (if (I 5 1) ≠ 0 then (if (I 3 2) = (I 5 2) then (if v5 < 0 then (V_X7_faulted_r1 Ln I A 3) else (if (V_X4_holds_r3 Ln I A v2 v5) = 0 then (V_X7_faulted_r1 Ln I A 3) else (if (V_X4_holds_r5 Ln I A v4 v5) ≠ 0 then (V_X7_faultless_r1 Ln I (zcp A 4 6 (v2).toNatClampNeg (v4).toNatClampNeg (v5).toNatClampNeg) v5) else (V_X7_faulted_r1 Ln I A 3)))) else (V_X7_faulted_r1 Ln I A 2)) else (V_X7_faulted_r1 Ln I A 1))) else (V_X7_faultless_r1 Ln I A (-1)))
def SI_X7_copy_r1_c0_c1 (Ln : Nat) (I A : Nat → Nat → Int32) (v2 : Int32) (v4 : Int32) (v5 : Int32) : Nat → Nat → Int32 := if (V_X7_isSheet Ln I A 0) = 0 then (SI_X7_faultless_r1 Ln I A (-1)) else (if (V_X7_isSheet Ln I A 1) ≠ 0 then (if (I 3 1) = 0 then (SI_X7_faulted_r1 Ln I A 1) else (if (I 5 1) ≠ 0 then (if (I 3 2) = (I 5 2) then (if v5 < 0 then (SI_X7_faulted_r1 Ln I A 3) else (if (V_X4_holds_r3 Ln I A v2 v5) = 0 then (SI_X7_faulted_r1 Ln I A 3) else (if (V_X4_holds_r5 Ln I A v4 v5) ≠ 0 then (SI_X7_faultless_r1 Ln I (zcp A 4 6 (v2).toNatClampNeg (v4).toNatClampNeg (v5).toNatClampNeg) v5) else (SI_X7_faulted_r1 Ln I A 3)))) else (SI_X7_faulted_r1 Ln I A 2)) else (SI_X7_faulted_r1 Ln I A 1))) else (SI_X7_faultless_r1 Ln I A (-1)))
def SA_X7_copy_r1_c0_c1 (Ln : Nat) (I A : Nat → Nat → Int32) (v2 : Int32) (v4 : Int32) (v5 : Int32) : Nat → Nat → Int32 := if (V_X7_isSheet Ln I A 0) = 0 then A else (if (V_X7_isSheet Ln I A 1) ≠ 0 then (if (I 3 1) = 0 then A else (if (I 5 1) ≠ 0 then (if (I 3 2) = (I 5 2) then (if v5 < 0 then A else (if (V_X4_holds_r3 Ln I A v2 v5) = 0 then A else (if (V_X4_holds_r5 Ln I A v4 v5) ≠ 0 then (zcp A 4 6 (v2).toNatClampNeg (v4).toNatClampNeg (v5).toNatClampNeg) else A))) else A) else A)) else A)
def P_X7_copy_r1_c0_c1 (Ln : Nat) (I A : Nat → Nat → Int32) (v2 : Int32) (v4 : Int32) (v5 : Int32) : Prop := ((V_X7_isSheet Ln I A 0) = 0 → True) ∧ (¬ ((V_X7_isSheet Ln I A 0) = 0) → (((V_X7_isSheet Ln I A 1) ≠ 0 → (((I 3 1) = 0 → True) ∧ (¬ ((I 3 1) = 0) → (((I 5 1) ≠ 0 → (((I 3 2) = (I 5 2) → ((v5 < 0 → True) ∧ (¬ (v5 < 0) → (((V_X4_holds_r3 Ln I A v2 v5) = 0 → True) ∧ (¬ ((V_X4_holds_r3 Ln I A v2 v5) = 0) → (((V_X4_holds_r5 Ln I A v4 v5) ≠ 0 → ((¬ v5 < 0) ∧ (¬ v4 < 0) ∧ (¬ v2 < 0) ∧ ((v2).toNatClampNeg + (v5).toNatClampNeg ≤ 60) ∧ ((v4).toNatClampNeg + (v5).toNatClampNeg ≤ 60))) ∧ (¬ ((V_X4_holds_r5 Ln I A v4 v5) ≠ 0) → True))))))) ∧ (¬ ((I 3 2) = (I 5 2)) → True))) ∧ (¬ ((I 5 1) ≠ 0) → True))))) ∧ (¬ ((V_X7_isSheet Ln I A 1) ≠ 0) → True)))
set_option maxRecDepth 100000 in
theorem M_X7_copy_r1_c0_c1 (Ln : Nat) (I A : Nat → Nat → Int32) (v2 : Int32) (v4 : Int32) (v5 : Int32) (h : P_X7_copy_r1_c0_c1 Ln I A v2 v4 v5) : zEv 70 0 0 0 [some (.ref 1), some (.int 0), some (.int v2), some (.int 1), some (.int v4), some (.int v5), none, none] [] (zGs Ln I A) (some (.int (V_X7_copy_r1_c0_c1 Ln I A v2 v4 v5)), zGs Ln (SI_X7_copy_r1_c0_c1 Ln I A v2 v4 v5) (SA_X7_copy_r1_c0_c1 Ln I A v2 v4 v5)) := by
  unfold P_X7_copy_r1_c0_c1 at h
  unfold V_X7_copy_r1_c0_c1 SI_X7_copy_r1_c0_c1 SA_X7_copy_r1_c0_c1
  refine B_X7_copy_r1_c0_c1_0 Ln I A v2 v4 v5  (M_X7_isSheet Ln I A 0 ) rfl ?_
  refine B_X7_copy_r1_c0_c1_4_s1 Ln I A v2 v4 v5 (V_X7_isSheet Ln I A 0)  (fun q4 => ?_) (fun q4 => ?_)
  · try simp only [if_pos q4]
    refine B_X7_copy_r1_c0_c1_14 Ln I A v2 v4 v5  (M_X7_faultless_r1 Ln I A (-1) ) rfl ?_
    exact B_X7_copy_r1_c0_c1_19_s1 Ln (SI_X7_faultless_r1 Ln I A (-1)) A v2 v4 v5 (V_X7_faultless_r1 Ln I A (-1)) 
  · try simp only [if_neg q4]
    have h5 := h.2 q4
    refine B_X7_copy_r1_c0_c1_7 Ln I A v2 v4 v5  (M_X7_isSheet Ln I A 1 ) rfl ?_
    refine B_X7_copy_r1_c0_c1_11_s1 Ln I A v2 v4 v5 (V_X7_isSheet Ln I A 1)  (fun q10 => ?_) (fun q10 => ?_)
    · try simp only [if_pos q10]
      have h11 := h5.1 q10
      refine B_X7_copy_r1_c0_c1_20 Ln I A v2 v4 v5  (fun q14 => ?_) (fun q14 => ?_)
      · try simp only [if_pos q14]
        refine B_X7_copy_r1_c0_c1_52_l3_5 Ln I A v2 v4 v5  (M_X7_faulted_r1 Ln I A 1 ) rfl ?_
        exact B_X7_copy_r1_c0_c1_57_s1_l3_5 Ln (SI_X7_faulted_r1 Ln I A 1) A v2 v4 v5 (V_X7_faulted_r1 Ln I A 1) 
      · try simp only [if_neg q14]
        have h15 := h11.2 q14
        refine B_X7_copy_r1_c0_c1_44_l3_5 Ln I A v2 v4 v5  (fun q18 => ?_) (fun q18 => ?_)
        · try simp only [if_pos q18]
          have h19 := h15.1 q18
          refine B_X7_copy_r1_c0_c1_58_l3_5 Ln I A v2 v4 v5  (fun q22 => ?_) (fun q22 => ?_)
          · try simp only [if_pos q22]
            have h23 := h19.1 q22
            refine B_X7_copy_r1_c0_c1_77_l3_5 Ln I A v2 v4 v5  (fun q26 => ?_) (fun q26 => ?_)
            · try simp only [if_pos q26]
              refine B_X7_copy_r1_c0_c1_105_l3_5 Ln I A v2 v4 v5  (M_X7_faulted_r1 Ln I A 3 ) rfl ?_
              exact B_X7_copy_r1_c0_c1_110_s1_l3_5 Ln (SI_X7_faulted_r1 Ln I A 3) A v2 v4 v5 (V_X7_faulted_r1 Ln I A 3) 
            · try simp only [if_neg q26]
              have h27 := h23.2 q26
              refine B_X7_copy_r1_c0_c1_82_l3_5 Ln I A v2 v4 v5  (M_X4_holds_r3 Ln I A v2 v5 ) rfl ?_
              refine B_X7_copy_r1_c0_c1_90_s1_l3_5 Ln I A v2 v4 v5 (V_X4_holds_r3 Ln I A v2 v5)  (fun q32 => ?_) (fun q32 => ?_)
              · try simp only [if_pos q32]
                refine B_X7_copy_r1_c0_c1_105_l3_5 Ln I A v2 v4 v5  (M_X7_faulted_r1 Ln I A 3 ) rfl ?_
                exact B_X7_copy_r1_c0_c1_110_s1_l3_5 Ln (SI_X7_faulted_r1 Ln I A 3) A v2 v4 v5 (V_X7_faulted_r1 Ln I A 3) 
              · try simp only [if_neg q32]
                have h33 := h27.2 q32
                refine B_X7_copy_r1_c0_c1_93_l3_5 Ln I A v2 v4 v5  (M_X4_holds_r5 Ln I A v4 v5 ) rfl ?_
                refine B_X7_copy_r1_c0_c1_102_s1_l3_5 Ln I A v2 v4 v5 (V_X4_holds_r5 Ln I A v4 v5)  (fun q38 => ?_) (fun q38 => ?_)
                · try simp only [if_pos q38]
                  have h39 := h33.1 q38
                  obtain ⟨g40_0, g40_1, g40_2, g40_3, g40_4⟩ := h39
                  refine B_X7_copy_r1_c0_c1_111_l3_5 Ln I A v2 v4 v5 g40_0 g40_1 g40_2 g40_3 g40_4 (M_X7_faultless_r1 Ln I (zcp A 4 6 (v2).toNatClampNeg (v4).toNatClampNeg (v5).toNatClampNeg) v5 ) rfl ?_
                  exact B_X7_copy_r1_c0_c1_135_s1_l3_5 Ln (SI_X7_faultless_r1 Ln I (zcp A 4 6 (v2).toNatClampNeg (v4).toNatClampNeg (v5).toNatClampNeg) v5) (zcp A 4 6 (v2).toNatClampNeg (v4).toNatClampNeg (v5).toNatClampNeg) v2 v4 v5 (V_X7_faultless_r1 Ln I (zcp A 4 6 (v2).toNatClampNeg (v4).toNatClampNeg (v5).toNatClampNeg) v5) 
                · try simp only [if_neg q38]
                  refine B_X7_copy_r1_c0_c1_105_l3_5 Ln I A v2 v4 v5  (M_X7_faulted_r1 Ln I A 3 ) rfl ?_
                  exact B_X7_copy_r1_c0_c1_110_s1_l3_5 Ln (SI_X7_faulted_r1 Ln I A 3) A v2 v4 v5 (V_X7_faulted_r1 Ln I A 3) 
          · try simp only [if_neg q22]
            refine B_X7_copy_r1_c0_c1_71_l3_5 Ln I A v2 v4 v5  (M_X7_faulted_r1 Ln I A 2 ) rfl ?_
            exact B_X7_copy_r1_c0_c1_76_s1_l3_5 Ln (SI_X7_faulted_r1 Ln I A 2) A v2 v4 v5 (V_X7_faulted_r1 Ln I A 2) 
        · try simp only [if_neg q18]
          refine B_X7_copy_r1_c0_c1_52_l3_5 Ln I A v2 v4 v5  (M_X7_faulted_r1 Ln I A 1 ) rfl ?_
          exact B_X7_copy_r1_c0_c1_57_s1_l3_5 Ln (SI_X7_faulted_r1 Ln I A 1) A v2 v4 v5 (V_X7_faulted_r1 Ln I A 1) 
    · try simp only [if_neg q10]
      refine B_X7_copy_r1_c0_c1_14 Ln I A v2 v4 v5  (M_X7_faultless_r1 Ln I A (-1) ) rfl ?_
      exact B_X7_copy_r1_c0_c1_19_s1 Ln (SI_X7_faultless_r1 Ln I A (-1)) A v2 v4 v5 (V_X7_faultless_r1 Ln I A (-1)) 
def V_X7_copy_r1_c0_c2 (Ln : Nat) (I A : Nat → Nat → Int32) (v2 : Int32) (v4 : Int32) (v5 : Int32) : Int32 := if (V_X7_isSheet Ln I A 0) = 0 then (V_X7_faultless_r1 Ln I A (-1)) else (if (V_X7_isSheet Ln I A 2) ≠ 0 then (if (I 3 1) = 0 then (V_X7_faulted_r1 Ln I A 1) else (if (I 7 1) ≠ 0 then (if (I 3 2) = (I 7 2) then (if v5 < 0 then (V_X7_faulted_r1 Ln I A 3) else (if (V_X4_holds_r3 Ln I A v2 v5) = 0 then (V_X7_faulted_r1 Ln I A 3) else (if (V_X4_holds_r7 Ln I A v4 v5) ≠ 0 then (V_X7_faultless_r1 Ln I (zcp A 4 8 (v2).toNatClampNeg (v4).toNatClampNeg (v5).toNatClampNeg) v5) else (V_X7_faulted_r1 Ln I A 3)))) else (V_X7_faulted_r1 Ln I A 2)) else (V_X7_faulted_r1 Ln I A 1))) else (V_X7_faultless_r1 Ln I A (-1)))
def SI_X7_copy_r1_c0_c2 (Ln : Nat) (I A : Nat → Nat → Int32) (v2 : Int32) (v4 : Int32) (v5 : Int32) : Nat → Nat → Int32 := if (V_X7_isSheet Ln I A 0) = 0 then (SI_X7_faultless_r1 Ln I A (-1)) else (if (V_X7_isSheet Ln I A 2) ≠ 0 then (if (I 3 1) = 0 then (SI_X7_faulted_r1 Ln I A 1) else (if (I 7 1) ≠ 0 then (if (I 3 2) = (I 7 2) then (if v5 < 0 then (SI_X7_faulted_r1 Ln I A 3) else (if (V_X4_holds_r3 Ln I A v2 v5) = 0 then (SI_X7_faulted_r1 Ln I A 3) else (if (V_X4_holds_r7 Ln I A v4 v5) ≠ 0 then (SI_X7_faultless_r1 Ln I (zcp A 4 8 (v2).toNatClampNeg (v4).toNatClampNeg (v5).toNatClampNeg) v5) else (SI_X7_faulted_r1 Ln I A 3)))) else (SI_X7_faulted_r1 Ln I A 2)) else (SI_X7_faulted_r1 Ln I A 1))) else (SI_X7_faultless_r1 Ln I A (-1)))
def SA_X7_copy_r1_c0_c2 (Ln : Nat) (I A : Nat → Nat → Int32) (v2 : Int32) (v4 : Int32) (v5 : Int32) : Nat → Nat → Int32 := if (V_X7_isSheet Ln I A 0) = 0 then A else (if (V_X7_isSheet Ln I A 2) ≠ 0 then (if (I 3 1) = 0 then A else (if (I 7 1) ≠ 0 then (if (I 3 2) = (I 7 2) then (if v5 < 0 then A else (if (V_X4_holds_r3 Ln I A v2 v5) = 0 then A else (if (V_X4_holds_r7 Ln I A v4 v5) ≠ 0 then (zcp A 4 8 (v2).toNatClampNeg (v4).toNatClampNeg (v5).toNatClampNeg) else A))) else A) else A)) else A)
def P_X7_copy_r1_c0_c2 (Ln : Nat) (I A : Nat → Nat → Int32) (v2 : Int32) (v4 : Int32) (v5 : Int32) : Prop := ((V_X7_isSheet Ln I A 0) = 0 → True) ∧ (¬ ((V_X7_isSheet Ln I A 0) = 0) → (((V_X7_isSheet Ln I A 2) ≠ 0 → (((I 3 1) = 0 → True) ∧ (¬ ((I 3 1) = 0) → (((I 7 1) ≠ 0 → (((I 3 2) = (I 7 2) → ((v5 < 0 → True) ∧ (¬ (v5 < 0) → (((V_X4_holds_r3 Ln I A v2 v5) = 0 → True) ∧ (¬ ((V_X4_holds_r3 Ln I A v2 v5) = 0) → (((V_X4_holds_r7 Ln I A v4 v5) ≠ 0 → ((¬ v5 < 0) ∧ (¬ v4 < 0) ∧ (¬ v2 < 0) ∧ ((v2).toNatClampNeg + (v5).toNatClampNeg ≤ 60) ∧ ((v4).toNatClampNeg + (v5).toNatClampNeg ≤ 60))) ∧ (¬ ((V_X4_holds_r7 Ln I A v4 v5) ≠ 0) → True))))))) ∧ (¬ ((I 3 2) = (I 7 2)) → True))) ∧ (¬ ((I 7 1) ≠ 0) → True))))) ∧ (¬ ((V_X7_isSheet Ln I A 2) ≠ 0) → True)))
set_option maxRecDepth 100000 in
theorem M_X7_copy_r1_c0_c2 (Ln : Nat) (I A : Nat → Nat → Int32) (v2 : Int32) (v4 : Int32) (v5 : Int32) (h : P_X7_copy_r1_c0_c2 Ln I A v2 v4 v5) : zEv 70 0 0 0 [some (.ref 1), some (.int 0), some (.int v2), some (.int 2), some (.int v4), some (.int v5), none, none] [] (zGs Ln I A) (some (.int (V_X7_copy_r1_c0_c2 Ln I A v2 v4 v5)), zGs Ln (SI_X7_copy_r1_c0_c2 Ln I A v2 v4 v5) (SA_X7_copy_r1_c0_c2 Ln I A v2 v4 v5)) := by
  unfold P_X7_copy_r1_c0_c2 at h
  unfold V_X7_copy_r1_c0_c2 SI_X7_copy_r1_c0_c2 SA_X7_copy_r1_c0_c2
  refine B_X7_copy_r1_c0_c2_0 Ln I A v2 v4 v5  (M_X7_isSheet Ln I A 0 ) rfl ?_
  refine B_X7_copy_r1_c0_c2_4_s1 Ln I A v2 v4 v5 (V_X7_isSheet Ln I A 0)  (fun q4 => ?_) (fun q4 => ?_)
  · try simp only [if_pos q4]
    refine B_X7_copy_r1_c0_c2_14 Ln I A v2 v4 v5  (M_X7_faultless_r1 Ln I A (-1) ) rfl ?_
    exact B_X7_copy_r1_c0_c2_19_s1 Ln (SI_X7_faultless_r1 Ln I A (-1)) A v2 v4 v5 (V_X7_faultless_r1 Ln I A (-1)) 
  · try simp only [if_neg q4]
    have h5 := h.2 q4
    refine B_X7_copy_r1_c0_c2_7 Ln I A v2 v4 v5  (M_X7_isSheet Ln I A 2 ) rfl ?_
    refine B_X7_copy_r1_c0_c2_11_s1 Ln I A v2 v4 v5 (V_X7_isSheet Ln I A 2)  (fun q10 => ?_) (fun q10 => ?_)
    · try simp only [if_pos q10]
      have h11 := h5.1 q10
      refine B_X7_copy_r1_c0_c2_20 Ln I A v2 v4 v5  (fun q14 => ?_) (fun q14 => ?_)
      · try simp only [if_pos q14]
        refine B_X7_copy_r1_c0_c2_52_l3_7 Ln I A v2 v4 v5  (M_X7_faulted_r1 Ln I A 1 ) rfl ?_
        exact B_X7_copy_r1_c0_c2_57_s1_l3_7 Ln (SI_X7_faulted_r1 Ln I A 1) A v2 v4 v5 (V_X7_faulted_r1 Ln I A 1) 
      · try simp only [if_neg q14]
        have h15 := h11.2 q14
        refine B_X7_copy_r1_c0_c2_44_l3_7 Ln I A v2 v4 v5  (fun q18 => ?_) (fun q18 => ?_)
        · try simp only [if_pos q18]
          have h19 := h15.1 q18
          refine B_X7_copy_r1_c0_c2_58_l3_7 Ln I A v2 v4 v5  (fun q22 => ?_) (fun q22 => ?_)
          · try simp only [if_pos q22]
            have h23 := h19.1 q22
            refine B_X7_copy_r1_c0_c2_77_l3_7 Ln I A v2 v4 v5  (fun q26 => ?_) (fun q26 => ?_)
            · try simp only [if_pos q26]
              refine B_X7_copy_r1_c0_c2_105_l3_7 Ln I A v2 v4 v5  (M_X7_faulted_r1 Ln I A 3 ) rfl ?_
              exact B_X7_copy_r1_c0_c2_110_s1_l3_7 Ln (SI_X7_faulted_r1 Ln I A 3) A v2 v4 v5 (V_X7_faulted_r1 Ln I A 3) 
            · try simp only [if_neg q26]
              have h27 := h23.2 q26
              refine B_X7_copy_r1_c0_c2_82_l3_7 Ln I A v2 v4 v5  (M_X4_holds_r3 Ln I A v2 v5 ) rfl ?_
              refine B_X7_copy_r1_c0_c2_90_s1_l3_7 Ln I A v2 v4 v5 (V_X4_holds_r3 Ln I A v2 v5)  (fun q32 => ?_) (fun q32 => ?_)
              · try simp only [if_pos q32]
                refine B_X7_copy_r1_c0_c2_105_l3_7 Ln I A v2 v4 v5  (M_X7_faulted_r1 Ln I A 3 ) rfl ?_
                exact B_X7_copy_r1_c0_c2_110_s1_l3_7 Ln (SI_X7_faulted_r1 Ln I A 3) A v2 v4 v5 (V_X7_faulted_r1 Ln I A 3) 
              · try simp only [if_neg q32]
                have h33 := h27.2 q32
                refine B_X7_copy_r1_c0_c2_93_l3_7 Ln I A v2 v4 v5  (M_X4_holds_r7 Ln I A v4 v5 ) rfl ?_
                refine B_X7_copy_r1_c0_c2_102_s1_l3_7 Ln I A v2 v4 v5 (V_X4_holds_r7 Ln I A v4 v5)  (fun q38 => ?_) (fun q38 => ?_)
                · try simp only [if_pos q38]
                  have h39 := h33.1 q38
                  obtain ⟨g40_0, g40_1, g40_2, g40_3, g40_4⟩ := h39
                  refine B_X7_copy_r1_c0_c2_111_l3_7 Ln I A v2 v4 v5 g40_0 g40_1 g40_2 g40_3 g40_4 (M_X7_faultless_r1 Ln I (zcp A 4 8 (v2).toNatClampNeg (v4).toNatClampNeg (v5).toNatClampNeg) v5 ) rfl ?_
                  exact B_X7_copy_r1_c0_c2_135_s1_l3_7 Ln (SI_X7_faultless_r1 Ln I (zcp A 4 8 (v2).toNatClampNeg (v4).toNatClampNeg (v5).toNatClampNeg) v5) (zcp A 4 8 (v2).toNatClampNeg (v4).toNatClampNeg (v5).toNatClampNeg) v2 v4 v5 (V_X7_faultless_r1 Ln I (zcp A 4 8 (v2).toNatClampNeg (v4).toNatClampNeg (v5).toNatClampNeg) v5) 
                · try simp only [if_neg q38]
                  refine B_X7_copy_r1_c0_c2_105_l3_7 Ln I A v2 v4 v5  (M_X7_faulted_r1 Ln I A 3 ) rfl ?_
                  exact B_X7_copy_r1_c0_c2_110_s1_l3_7 Ln (SI_X7_faulted_r1 Ln I A 3) A v2 v4 v5 (V_X7_faulted_r1 Ln I A 3) 
          · try simp only [if_neg q22]
            refine B_X7_copy_r1_c0_c2_71_l3_7 Ln I A v2 v4 v5  (M_X7_faulted_r1 Ln I A 2 ) rfl ?_
            exact B_X7_copy_r1_c0_c2_76_s1_l3_7 Ln (SI_X7_faulted_r1 Ln I A 2) A v2 v4 v5 (V_X7_faulted_r1 Ln I A 2) 
        · try simp only [if_neg q18]
          refine B_X7_copy_r1_c0_c2_52_l3_7 Ln I A v2 v4 v5  (M_X7_faulted_r1 Ln I A 1 ) rfl ?_
          exact B_X7_copy_r1_c0_c2_57_s1_l3_7 Ln (SI_X7_faulted_r1 Ln I A 1) A v2 v4 v5 (V_X7_faulted_r1 Ln I A 1) 
    · try simp only [if_neg q10]
      refine B_X7_copy_r1_c0_c2_14 Ln I A v2 v4 v5  (M_X7_faultless_r1 Ln I A (-1) ) rfl ?_
      exact B_X7_copy_r1_c0_c2_19_s1 Ln (SI_X7_faultless_r1 Ln I A (-1)) A v2 v4 v5 (V_X7_faultless_r1 Ln I A (-1)) 
def V_X7_copy_r1_c0_c3 (Ln : Nat) (I A : Nat → Nat → Int32) (v2 : Int32) (v4 : Int32) (v5 : Int32) : Int32 := if (V_X7_isSheet Ln I A 0) = 0 then (V_X7_faultless_r1 Ln I A (-1)) else (if (V_X7_isSheet Ln I A 3) ≠ 0 then (if (I 3 1) = 0 then (V_X7_faulted_r1 Ln I A 1) else (if (I 9 1) ≠ 0 then (if (I 3 2) = (I 9 2) then (if v5 < 0 then (V_X7_faulted_r1 Ln I A 3) else (if (V_X4_holds_r3 Ln I A v2 v5) = 0 then (V_X7_faulted_r1 Ln I A 3) else (if (V_X4_holds_r9 Ln I A v4 v5) ≠ 0 then (V_X7_faultless_r1 Ln I (zcp A 4 10 (v2).toNatClampNeg (v4).toNatClampNeg (v5).toNatClampNeg) v5) else (V_X7_faulted_r1 Ln I A 3)))) else (V_X7_faulted_r1 Ln I A 2)) else (V_X7_faulted_r1 Ln I A 1))) else (V_X7_faultless_r1 Ln I A (-1)))
def SI_X7_copy_r1_c0_c3 (Ln : Nat) (I A : Nat → Nat → Int32) (v2 : Int32) (v4 : Int32) (v5 : Int32) : Nat → Nat → Int32 := if (V_X7_isSheet Ln I A 0) = 0 then (SI_X7_faultless_r1 Ln I A (-1)) else (if (V_X7_isSheet Ln I A 3) ≠ 0 then (if (I 3 1) = 0 then (SI_X7_faulted_r1 Ln I A 1) else (if (I 9 1) ≠ 0 then (if (I 3 2) = (I 9 2) then (if v5 < 0 then (SI_X7_faulted_r1 Ln I A 3) else (if (V_X4_holds_r3 Ln I A v2 v5) = 0 then (SI_X7_faulted_r1 Ln I A 3) else (if (V_X4_holds_r9 Ln I A v4 v5) ≠ 0 then (SI_X7_faultless_r1 Ln I (zcp A 4 10 (v2).toNatClampNeg (v4).toNatClampNeg (v5).toNatClampNeg) v5) else (SI_X7_faulted_r1 Ln I A 3)))) else (SI_X7_faulted_r1 Ln I A 2)) else (SI_X7_faulted_r1 Ln I A 1))) else (SI_X7_faultless_r1 Ln I A (-1)))
def SA_X7_copy_r1_c0_c3 (Ln : Nat) (I A : Nat → Nat → Int32) (v2 : Int32) (v4 : Int32) (v5 : Int32) : Nat → Nat → Int32 := if (V_X7_isSheet Ln I A 0) = 0 then A else (if (V_X7_isSheet Ln I A 3) ≠ 0 then (if (I 3 1) = 0 then A else (if (I 9 1) ≠ 0 then (if (I 3 2) = (I 9 2) then (if v5 < 0 then A else (if (V_X4_holds_r3 Ln I A v2 v5) = 0 then A else (if (V_X4_holds_r9 Ln I A v4 v5) ≠ 0 then (zcp A 4 10 (v2).toNatClampNeg (v4).toNatClampNeg (v5).toNatClampNeg) else A))) else A) else A)) else A)
def P_X7_copy_r1_c0_c3 (Ln : Nat) (I A : Nat → Nat → Int32) (v2 : Int32) (v4 : Int32) (v5 : Int32) : Prop := ((V_X7_isSheet Ln I A 0) = 0 → True) ∧ (¬ ((V_X7_isSheet Ln I A 0) = 0) → (((V_X7_isSheet Ln I A 3) ≠ 0 → (((I 3 1) = 0 → True) ∧ (¬ ((I 3 1) = 0) → (((I 9 1) ≠ 0 → (((I 3 2) = (I 9 2) → ((v5 < 0 → True) ∧ (¬ (v5 < 0) → (((V_X4_holds_r3 Ln I A v2 v5) = 0 → True) ∧ (¬ ((V_X4_holds_r3 Ln I A v2 v5) = 0) → (((V_X4_holds_r9 Ln I A v4 v5) ≠ 0 → ((¬ v5 < 0) ∧ (¬ v4 < 0) ∧ (¬ v2 < 0) ∧ ((v2).toNatClampNeg + (v5).toNatClampNeg ≤ 60) ∧ ((v4).toNatClampNeg + (v5).toNatClampNeg ≤ 60))) ∧ (¬ ((V_X4_holds_r9 Ln I A v4 v5) ≠ 0) → True))))))) ∧ (¬ ((I 3 2) = (I 9 2)) → True))) ∧ (¬ ((I 9 1) ≠ 0) → True))))) ∧ (¬ ((V_X7_isSheet Ln I A 3) ≠ 0) → True)))
set_option maxRecDepth 100000 in
theorem M_X7_copy_r1_c0_c3 (Ln : Nat) (I A : Nat → Nat → Int32) (v2 : Int32) (v4 : Int32) (v5 : Int32) (h : P_X7_copy_r1_c0_c3 Ln I A v2 v4 v5) : zEv 70 0 0 0 [some (.ref 1), some (.int 0), some (.int v2), some (.int 3), some (.int v4), some (.int v5), none, none] [] (zGs Ln I A) (some (.int (V_X7_copy_r1_c0_c3 Ln I A v2 v4 v5)), zGs Ln (SI_X7_copy_r1_c0_c3 Ln I A v2 v4 v5) (SA_X7_copy_r1_c0_c3 Ln I A v2 v4 v5)) := by
  unfold P_X7_copy_r1_c0_c3 at h
  unfold V_X7_copy_r1_c0_c3 SI_X7_copy_r1_c0_c3 SA_X7_copy_r1_c0_c3
  refine B_X7_copy_r1_c0_c3_0 Ln I A v2 v4 v5  (M_X7_isSheet Ln I A 0 ) rfl ?_
  refine B_X7_copy_r1_c0_c3_4_s1 Ln I A v2 v4 v5 (V_X7_isSheet Ln I A 0)  (fun q4 => ?_) (fun q4 => ?_)
  · try simp only [if_pos q4]
    refine B_X7_copy_r1_c0_c3_14 Ln I A v2 v4 v5  (M_X7_faultless_r1 Ln I A (-1) ) rfl ?_
    exact B_X7_copy_r1_c0_c3_19_s1 Ln (SI_X7_faultless_r1 Ln I A (-1)) A v2 v4 v5 (V_X7_faultless_r1 Ln I A (-1)) 
  · try simp only [if_neg q4]
    have h5 := h.2 q4
    refine B_X7_copy_r1_c0_c3_7 Ln I A v2 v4 v5  (M_X7_isSheet Ln I A 3 ) rfl ?_
    refine B_X7_copy_r1_c0_c3_11_s1 Ln I A v2 v4 v5 (V_X7_isSheet Ln I A 3)  (fun q10 => ?_) (fun q10 => ?_)
    · try simp only [if_pos q10]
      have h11 := h5.1 q10
      refine B_X7_copy_r1_c0_c3_20 Ln I A v2 v4 v5  (fun q14 => ?_) (fun q14 => ?_)
      · try simp only [if_pos q14]
        refine B_X7_copy_r1_c0_c3_52_l3_9 Ln I A v2 v4 v5  (M_X7_faulted_r1 Ln I A 1 ) rfl ?_
        exact B_X7_copy_r1_c0_c3_57_s1_l3_9 Ln (SI_X7_faulted_r1 Ln I A 1) A v2 v4 v5 (V_X7_faulted_r1 Ln I A 1) 
      · try simp only [if_neg q14]
        have h15 := h11.2 q14
        refine B_X7_copy_r1_c0_c3_44_l3_9 Ln I A v2 v4 v5  (fun q18 => ?_) (fun q18 => ?_)
        · try simp only [if_pos q18]
          have h19 := h15.1 q18
          refine B_X7_copy_r1_c0_c3_58_l3_9 Ln I A v2 v4 v5  (fun q22 => ?_) (fun q22 => ?_)
          · try simp only [if_pos q22]
            have h23 := h19.1 q22
            refine B_X7_copy_r1_c0_c3_77_l3_9 Ln I A v2 v4 v5  (fun q26 => ?_) (fun q26 => ?_)
            · try simp only [if_pos q26]
              refine B_X7_copy_r1_c0_c3_105_l3_9 Ln I A v2 v4 v5  (M_X7_faulted_r1 Ln I A 3 ) rfl ?_
              exact B_X7_copy_r1_c0_c3_110_s1_l3_9 Ln (SI_X7_faulted_r1 Ln I A 3) A v2 v4 v5 (V_X7_faulted_r1 Ln I A 3) 
            · try simp only [if_neg q26]
              have h27 := h23.2 q26
              refine B_X7_copy_r1_c0_c3_82_l3_9 Ln I A v2 v4 v5  (M_X4_holds_r3 Ln I A v2 v5 ) rfl ?_
              refine B_X7_copy_r1_c0_c3_90_s1_l3_9 Ln I A v2 v4 v5 (V_X4_holds_r3 Ln I A v2 v5)  (fun q32 => ?_) (fun q32 => ?_)
              · try simp only [if_pos q32]
                refine B_X7_copy_r1_c0_c3_105_l3_9 Ln I A v2 v4 v5  (M_X7_faulted_r1 Ln I A 3 ) rfl ?_
                exact B_X7_copy_r1_c0_c3_110_s1_l3_9 Ln (SI_X7_faulted_r1 Ln I A 3) A v2 v4 v5 (V_X7_faulted_r1 Ln I A 3) 
              · try simp only [if_neg q32]
                have h33 := h27.2 q32
                refine B_X7_copy_r1_c0_c3_93_l3_9 Ln I A v2 v4 v5  (M_X4_holds_r9 Ln I A v4 v5 ) rfl ?_
                refine B_X7_copy_r1_c0_c3_102_s1_l3_9 Ln I A v2 v4 v5 (V_X4_holds_r9 Ln I A v4 v5)  (fun q38 => ?_) (fun q38 => ?_)
                · try simp only [if_pos q38]
                  have h39 := h33.1 q38
                  obtain ⟨g40_0, g40_1, g40_2, g40_3, g40_4⟩ := h39
                  refine B_X7_copy_r1_c0_c3_111_l3_9 Ln I A v2 v4 v5 g40_0 g40_1 g40_2 g40_3 g40_4 (M_X7_faultless_r1 Ln I (zcp A 4 10 (v2).toNatClampNeg (v4).toNatClampNeg (v5).toNatClampNeg) v5 ) rfl ?_
                  exact B_X7_copy_r1_c0_c3_135_s1_l3_9 Ln (SI_X7_faultless_r1 Ln I (zcp A 4 10 (v2).toNatClampNeg (v4).toNatClampNeg (v5).toNatClampNeg) v5) (zcp A 4 10 (v2).toNatClampNeg (v4).toNatClampNeg (v5).toNatClampNeg) v2 v4 v5 (V_X7_faultless_r1 Ln I (zcp A 4 10 (v2).toNatClampNeg (v4).toNatClampNeg (v5).toNatClampNeg) v5) 
                · try simp only [if_neg q38]
                  refine B_X7_copy_r1_c0_c3_105_l3_9 Ln I A v2 v4 v5  (M_X7_faulted_r1 Ln I A 3 ) rfl ?_
                  exact B_X7_copy_r1_c0_c3_110_s1_l3_9 Ln (SI_X7_faulted_r1 Ln I A 3) A v2 v4 v5 (V_X7_faulted_r1 Ln I A 3) 
          · try simp only [if_neg q22]
            refine B_X7_copy_r1_c0_c3_71_l3_9 Ln I A v2 v4 v5  (M_X7_faulted_r1 Ln I A 2 ) rfl ?_
            exact B_X7_copy_r1_c0_c3_76_s1_l3_9 Ln (SI_X7_faulted_r1 Ln I A 2) A v2 v4 v5 (V_X7_faulted_r1 Ln I A 2) 
        · try simp only [if_neg q18]
          refine B_X7_copy_r1_c0_c3_52_l3_9 Ln I A v2 v4 v5  (M_X7_faulted_r1 Ln I A 1 ) rfl ?_
          exact B_X7_copy_r1_c0_c3_57_s1_l3_9 Ln (SI_X7_faulted_r1 Ln I A 1) A v2 v4 v5 (V_X7_faulted_r1 Ln I A 1) 
    · try simp only [if_neg q10]
      refine B_X7_copy_r1_c0_c3_14 Ln I A v2 v4 v5  (M_X7_faultless_r1 Ln I A (-1) ) rfl ?_
      exact B_X7_copy_r1_c0_c3_19_s1 Ln (SI_X7_faultless_r1 Ln I A (-1)) A v2 v4 v5 (V_X7_faultless_r1 Ln I A (-1)) 
def V_X7_copy_r1_c1_c0 (Ln : Nat) (I A : Nat → Nat → Int32) (v2 : Int32) (v4 : Int32) (v5 : Int32) : Int32 := if (V_X7_isSheet Ln I A 1) = 0 then (V_X7_faultless_r1 Ln I A (-1)) else (if (V_X7_isSheet Ln I A 0) ≠ 0 then (if (I 5 1) = 0 then (V_X7_faulted_r1 Ln I A 1) else (if (I 3 1) ≠ 0 then (if (I 5 2) = (I 3 2) then (if v5 < 0 then (V_X7_faulted_r1 Ln I A 3) else (if (V_X4_holds_r5 Ln I A v2 v5) = 0 then (V_X7_faulted_r1 Ln I A 3) else (if (V_X4_holds_r3 Ln I A v4 v5) ≠ 0 then (V_X7_faultless_r1 Ln I (zcp A 6 4 (v2).toNatClampNeg (v4).toNatClampNeg (v5).toNatClampNeg) v5) else (V_X7_faulted_r1 Ln I A 3)))) else (V_X7_faulted_r1 Ln I A 2)) else (V_X7_faulted_r1 Ln I A 1))) else (V_X7_faultless_r1 Ln I A (-1)))
def SI_X7_copy_r1_c1_c0 (Ln : Nat) (I A : Nat → Nat → Int32) (v2 : Int32) (v4 : Int32) (v5 : Int32) : Nat → Nat → Int32 := if (V_X7_isSheet Ln I A 1) = 0 then (SI_X7_faultless_r1 Ln I A (-1)) else (if (V_X7_isSheet Ln I A 0) ≠ 0 then (if (I 5 1) = 0 then (SI_X7_faulted_r1 Ln I A 1) else (if (I 3 1) ≠ 0 then (if (I 5 2) = (I 3 2) then (if v5 < 0 then (SI_X7_faulted_r1 Ln I A 3) else (if (V_X4_holds_r5 Ln I A v2 v5) = 0 then (SI_X7_faulted_r1 Ln I A 3) else (if (V_X4_holds_r3 Ln I A v4 v5) ≠ 0 then (SI_X7_faultless_r1 Ln I (zcp A 6 4 (v2).toNatClampNeg (v4).toNatClampNeg (v5).toNatClampNeg) v5) else (SI_X7_faulted_r1 Ln I A 3)))) else (SI_X7_faulted_r1 Ln I A 2)) else (SI_X7_faulted_r1 Ln I A 1))) else (SI_X7_faultless_r1 Ln I A (-1)))
def SA_X7_copy_r1_c1_c0 (Ln : Nat) (I A : Nat → Nat → Int32) (v2 : Int32) (v4 : Int32) (v5 : Int32) : Nat → Nat → Int32 := if (V_X7_isSheet Ln I A 1) = 0 then A else (if (V_X7_isSheet Ln I A 0) ≠ 0 then (if (I 5 1) = 0 then A else (if (I 3 1) ≠ 0 then (if (I 5 2) = (I 3 2) then (if v5 < 0 then A else (if (V_X4_holds_r5 Ln I A v2 v5) = 0 then A else (if (V_X4_holds_r3 Ln I A v4 v5) ≠ 0 then (zcp A 6 4 (v2).toNatClampNeg (v4).toNatClampNeg (v5).toNatClampNeg) else A))) else A) else A)) else A)
def P_X7_copy_r1_c1_c0 (Ln : Nat) (I A : Nat → Nat → Int32) (v2 : Int32) (v4 : Int32) (v5 : Int32) : Prop := ((V_X7_isSheet Ln I A 1) = 0 → True) ∧ (¬ ((V_X7_isSheet Ln I A 1) = 0) → (((V_X7_isSheet Ln I A 0) ≠ 0 → (((I 5 1) = 0 → True) ∧ (¬ ((I 5 1) = 0) → (((I 3 1) ≠ 0 → (((I 5 2) = (I 3 2) → ((v5 < 0 → True) ∧ (¬ (v5 < 0) → (((V_X4_holds_r5 Ln I A v2 v5) = 0 → True) ∧ (¬ ((V_X4_holds_r5 Ln I A v2 v5) = 0) → (((V_X4_holds_r3 Ln I A v4 v5) ≠ 0 → ((¬ v5 < 0) ∧ (¬ v4 < 0) ∧ (¬ v2 < 0) ∧ ((v2).toNatClampNeg + (v5).toNatClampNeg ≤ 60) ∧ ((v4).toNatClampNeg + (v5).toNatClampNeg ≤ 60))) ∧ (¬ ((V_X4_holds_r3 Ln I A v4 v5) ≠ 0) → True))))))) ∧ (¬ ((I 5 2) = (I 3 2)) → True))) ∧ (¬ ((I 3 1) ≠ 0) → True))))) ∧ (¬ ((V_X7_isSheet Ln I A 0) ≠ 0) → True)))
set_option maxRecDepth 100000 in
theorem M_X7_copy_r1_c1_c0 (Ln : Nat) (I A : Nat → Nat → Int32) (v2 : Int32) (v4 : Int32) (v5 : Int32) (h : P_X7_copy_r1_c1_c0 Ln I A v2 v4 v5) : zEv 70 0 0 0 [some (.ref 1), some (.int 1), some (.int v2), some (.int 0), some (.int v4), some (.int v5), none, none] [] (zGs Ln I A) (some (.int (V_X7_copy_r1_c1_c0 Ln I A v2 v4 v5)), zGs Ln (SI_X7_copy_r1_c1_c0 Ln I A v2 v4 v5) (SA_X7_copy_r1_c1_c0 Ln I A v2 v4 v5)) := by
  unfold P_X7_copy_r1_c1_c0 at h
  unfold V_X7_copy_r1_c1_c0 SI_X7_copy_r1_c1_c0 SA_X7_copy_r1_c1_c0
  refine B_X7_copy_r1_c1_c0_0 Ln I A v2 v4 v5  (M_X7_isSheet Ln I A 1 ) rfl ?_
  refine B_X7_copy_r1_c1_c0_4_s1 Ln I A v2 v4 v5 (V_X7_isSheet Ln I A 1)  (fun q4 => ?_) (fun q4 => ?_)
  · try simp only [if_pos q4]
    refine B_X7_copy_r1_c1_c0_14 Ln I A v2 v4 v5  (M_X7_faultless_r1 Ln I A (-1) ) rfl ?_
    exact B_X7_copy_r1_c1_c0_19_s1 Ln (SI_X7_faultless_r1 Ln I A (-1)) A v2 v4 v5 (V_X7_faultless_r1 Ln I A (-1)) 
  · try simp only [if_neg q4]
    have h5 := h.2 q4
    refine B_X7_copy_r1_c1_c0_7 Ln I A v2 v4 v5  (M_X7_isSheet Ln I A 0 ) rfl ?_
    refine B_X7_copy_r1_c1_c0_11_s1 Ln I A v2 v4 v5 (V_X7_isSheet Ln I A 0)  (fun q10 => ?_) (fun q10 => ?_)
    · try simp only [if_pos q10]
      have h11 := h5.1 q10
      refine B_X7_copy_r1_c1_c0_20 Ln I A v2 v4 v5  (fun q14 => ?_) (fun q14 => ?_)
      · try simp only [if_pos q14]
        refine B_X7_copy_r1_c1_c0_52_l5_3 Ln I A v2 v4 v5  (M_X7_faulted_r1 Ln I A 1 ) rfl ?_
        exact B_X7_copy_r1_c1_c0_57_s1_l5_3 Ln (SI_X7_faulted_r1 Ln I A 1) A v2 v4 v5 (V_X7_faulted_r1 Ln I A 1) 
      · try simp only [if_neg q14]
        have h15 := h11.2 q14
        refine B_X7_copy_r1_c1_c0_44_l5_3 Ln I A v2 v4 v5  (fun q18 => ?_) (fun q18 => ?_)
        · try simp only [if_pos q18]
          have h19 := h15.1 q18
          refine B_X7_copy_r1_c1_c0_58_l5_3 Ln I A v2 v4 v5  (fun q22 => ?_) (fun q22 => ?_)
          · try simp only [if_pos q22]
            have h23 := h19.1 q22
            refine B_X7_copy_r1_c1_c0_77_l5_3 Ln I A v2 v4 v5  (fun q26 => ?_) (fun q26 => ?_)
            · try simp only [if_pos q26]
              refine B_X7_copy_r1_c1_c0_105_l5_3 Ln I A v2 v4 v5  (M_X7_faulted_r1 Ln I A 3 ) rfl ?_
              exact B_X7_copy_r1_c1_c0_110_s1_l5_3 Ln (SI_X7_faulted_r1 Ln I A 3) A v2 v4 v5 (V_X7_faulted_r1 Ln I A 3) 
            · try simp only [if_neg q26]
              have h27 := h23.2 q26
              refine B_X7_copy_r1_c1_c0_82_l5_3 Ln I A v2 v4 v5  (M_X4_holds_r5 Ln I A v2 v5 ) rfl ?_
              refine B_X7_copy_r1_c1_c0_90_s1_l5_3 Ln I A v2 v4 v5 (V_X4_holds_r5 Ln I A v2 v5)  (fun q32 => ?_) (fun q32 => ?_)
              · try simp only [if_pos q32]
                refine B_X7_copy_r1_c1_c0_105_l5_3 Ln I A v2 v4 v5  (M_X7_faulted_r1 Ln I A 3 ) rfl ?_
                exact B_X7_copy_r1_c1_c0_110_s1_l5_3 Ln (SI_X7_faulted_r1 Ln I A 3) A v2 v4 v5 (V_X7_faulted_r1 Ln I A 3) 
              · try simp only [if_neg q32]
                have h33 := h27.2 q32
                refine B_X7_copy_r1_c1_c0_93_l5_3 Ln I A v2 v4 v5  (M_X4_holds_r3 Ln I A v4 v5 ) rfl ?_
                refine B_X7_copy_r1_c1_c0_102_s1_l5_3 Ln I A v2 v4 v5 (V_X4_holds_r3 Ln I A v4 v5)  (fun q38 => ?_) (fun q38 => ?_)
                · try simp only [if_pos q38]
                  have h39 := h33.1 q38
                  obtain ⟨g40_0, g40_1, g40_2, g40_3, g40_4⟩ := h39
                  refine B_X7_copy_r1_c1_c0_111_l5_3 Ln I A v2 v4 v5 g40_0 g40_1 g40_2 g40_3 g40_4 (M_X7_faultless_r1 Ln I (zcp A 6 4 (v2).toNatClampNeg (v4).toNatClampNeg (v5).toNatClampNeg) v5 ) rfl ?_
                  exact B_X7_copy_r1_c1_c0_135_s1_l5_3 Ln (SI_X7_faultless_r1 Ln I (zcp A 6 4 (v2).toNatClampNeg (v4).toNatClampNeg (v5).toNatClampNeg) v5) (zcp A 6 4 (v2).toNatClampNeg (v4).toNatClampNeg (v5).toNatClampNeg) v2 v4 v5 (V_X7_faultless_r1 Ln I (zcp A 6 4 (v2).toNatClampNeg (v4).toNatClampNeg (v5).toNatClampNeg) v5) 
                · try simp only [if_neg q38]
                  refine B_X7_copy_r1_c1_c0_105_l5_3 Ln I A v2 v4 v5  (M_X7_faulted_r1 Ln I A 3 ) rfl ?_
                  exact B_X7_copy_r1_c1_c0_110_s1_l5_3 Ln (SI_X7_faulted_r1 Ln I A 3) A v2 v4 v5 (V_X7_faulted_r1 Ln I A 3) 
          · try simp only [if_neg q22]
            refine B_X7_copy_r1_c1_c0_71_l5_3 Ln I A v2 v4 v5  (M_X7_faulted_r1 Ln I A 2 ) rfl ?_
            exact B_X7_copy_r1_c1_c0_76_s1_l5_3 Ln (SI_X7_faulted_r1 Ln I A 2) A v2 v4 v5 (V_X7_faulted_r1 Ln I A 2) 
        · try simp only [if_neg q18]
          refine B_X7_copy_r1_c1_c0_52_l5_3 Ln I A v2 v4 v5  (M_X7_faulted_r1 Ln I A 1 ) rfl ?_
          exact B_X7_copy_r1_c1_c0_57_s1_l5_3 Ln (SI_X7_faulted_r1 Ln I A 1) A v2 v4 v5 (V_X7_faulted_r1 Ln I A 1) 
    · try simp only [if_neg q10]
      refine B_X7_copy_r1_c1_c0_14 Ln I A v2 v4 v5  (M_X7_faultless_r1 Ln I A (-1) ) rfl ?_
      exact B_X7_copy_r1_c1_c0_19_s1 Ln (SI_X7_faultless_r1 Ln I A (-1)) A v2 v4 v5 (V_X7_faultless_r1 Ln I A (-1)) 
def V_X7_copy_r1_c1_c1 (Ln : Nat) (I A : Nat → Nat → Int32) (v2 : Int32) (v4 : Int32) (v5 : Int32) : Int32 := if (V_X7_isSheet Ln I A 1) = 0 then (V_X7_faultless_r1 Ln I A (-1)) else (if (V_X7_isSheet Ln I A 1) ≠ 0 then (if (I 5 1) = 0 then (V_X7_faulted_r1 Ln I A 1) else (if (I 5 1) ≠ 0 then (if (I 5 2) = (I 5 2) then (if v5 < 0 then (V_X7_faulted_r1 Ln I A 3) else (if (V_X4_holds_r5 Ln I A v2 v5) = 0 then (V_X7_faulted_r1 Ln I A 3) else (if (V_X4_holds_r5 Ln I A v4 v5) ≠ 0 then (V_X7_faultless_r1 Ln I (zcp A 6 6 (v2).toNatClampNeg (v4).toNatClampNeg (v5).toNatClampNeg) v5) else (V_X7_faulted_r1 Ln I A 3)))) else (V_X7_faulted_r1 Ln I A 2)) else (V_X7_faulted_r1 Ln I A 1))) else (V_X7_faultless_r1 Ln I A (-1)))
def SI_X7_copy_r1_c1_c1 (Ln : Nat) (I A : Nat → Nat → Int32) (v2 : Int32) (v4 : Int32) (v5 : Int32) : Nat → Nat → Int32 := if (V_X7_isSheet Ln I A 1) = 0 then (SI_X7_faultless_r1 Ln I A (-1)) else (if (V_X7_isSheet Ln I A 1) ≠ 0 then (if (I 5 1) = 0 then (SI_X7_faulted_r1 Ln I A 1) else (if (I 5 1) ≠ 0 then (if (I 5 2) = (I 5 2) then (if v5 < 0 then (SI_X7_faulted_r1 Ln I A 3) else (if (V_X4_holds_r5 Ln I A v2 v5) = 0 then (SI_X7_faulted_r1 Ln I A 3) else (if (V_X4_holds_r5 Ln I A v4 v5) ≠ 0 then (SI_X7_faultless_r1 Ln I (zcp A 6 6 (v2).toNatClampNeg (v4).toNatClampNeg (v5).toNatClampNeg) v5) else (SI_X7_faulted_r1 Ln I A 3)))) else (SI_X7_faulted_r1 Ln I A 2)) else (SI_X7_faulted_r1 Ln I A 1))) else (SI_X7_faultless_r1 Ln I A (-1)))
def SA_X7_copy_r1_c1_c1 (Ln : Nat) (I A : Nat → Nat → Int32) (v2 : Int32) (v4 : Int32) (v5 : Int32) : Nat → Nat → Int32 := if (V_X7_isSheet Ln I A 1) = 0 then A else (if (V_X7_isSheet Ln I A 1) ≠ 0 then (if (I 5 1) = 0 then A else (if (I 5 1) ≠ 0 then (if (I 5 2) = (I 5 2) then (if v5 < 0 then A else (if (V_X4_holds_r5 Ln I A v2 v5) = 0 then A else (if (V_X4_holds_r5 Ln I A v4 v5) ≠ 0 then (zcp A 6 6 (v2).toNatClampNeg (v4).toNatClampNeg (v5).toNatClampNeg) else A))) else A) else A)) else A)
def P_X7_copy_r1_c1_c1 (Ln : Nat) (I A : Nat → Nat → Int32) (v2 : Int32) (v4 : Int32) (v5 : Int32) : Prop := ((V_X7_isSheet Ln I A 1) = 0 → True) ∧ (¬ ((V_X7_isSheet Ln I A 1) = 0) → (((V_X7_isSheet Ln I A 1) ≠ 0 → (((I 5 1) = 0 → True) ∧ (¬ ((I 5 1) = 0) → (((I 5 1) ≠ 0 → (((I 5 2) = (I 5 2) → ((v5 < 0 → True) ∧ (¬ (v5 < 0) → (((V_X4_holds_r5 Ln I A v2 v5) = 0 → True) ∧ (¬ ((V_X4_holds_r5 Ln I A v2 v5) = 0) → (((V_X4_holds_r5 Ln I A v4 v5) ≠ 0 → ((¬ v5 < 0) ∧ (¬ v4 < 0) ∧ (¬ v2 < 0) ∧ ((v2).toNatClampNeg + (v5).toNatClampNeg ≤ 60) ∧ ((v4).toNatClampNeg + (v5).toNatClampNeg ≤ 60))) ∧ (¬ ((V_X4_holds_r5 Ln I A v4 v5) ≠ 0) → True))))))) ∧ (¬ ((I 5 2) = (I 5 2)) → True))) ∧ (¬ ((I 5 1) ≠ 0) → True))))) ∧ (¬ ((V_X7_isSheet Ln I A 1) ≠ 0) → True)))
set_option maxRecDepth 100000 in
theorem M_X7_copy_r1_c1_c1 (Ln : Nat) (I A : Nat → Nat → Int32) (v2 : Int32) (v4 : Int32) (v5 : Int32) (h : P_X7_copy_r1_c1_c1 Ln I A v2 v4 v5) : zEv 70 0 0 0 [some (.ref 1), some (.int 1), some (.int v2), some (.int 1), some (.int v4), some (.int v5), none, none] [] (zGs Ln I A) (some (.int (V_X7_copy_r1_c1_c1 Ln I A v2 v4 v5)), zGs Ln (SI_X7_copy_r1_c1_c1 Ln I A v2 v4 v5) (SA_X7_copy_r1_c1_c1 Ln I A v2 v4 v5)) := by
  unfold P_X7_copy_r1_c1_c1 at h
  unfold V_X7_copy_r1_c1_c1 SI_X7_copy_r1_c1_c1 SA_X7_copy_r1_c1_c1
  refine B_X7_copy_r1_c1_c1_0 Ln I A v2 v4 v5  (M_X7_isSheet Ln I A 1 ) rfl ?_
  refine B_X7_copy_r1_c1_c1_4_s1 Ln I A v2 v4 v5 (V_X7_isSheet Ln I A 1)  (fun q4 => ?_) (fun q4 => ?_)
  · try simp only [if_pos q4]
    refine B_X7_copy_r1_c1_c1_14 Ln I A v2 v4 v5  (M_X7_faultless_r1 Ln I A (-1) ) rfl ?_
    exact B_X7_copy_r1_c1_c1_19_s1 Ln (SI_X7_faultless_r1 Ln I A (-1)) A v2 v4 v5 (V_X7_faultless_r1 Ln I A (-1)) 
  · try simp only [if_neg q4]
    have h5 := h.2 q4
    refine B_X7_copy_r1_c1_c1_7 Ln I A v2 v4 v5  (M_X7_isSheet Ln I A 1 ) rfl ?_
    refine B_X7_copy_r1_c1_c1_11_s1 Ln I A v2 v4 v5 (V_X7_isSheet Ln I A 1)  (fun q10 => ?_) (fun q10 => ?_)
    · try simp only [if_pos q10]
      have h11 := h5.1 q10
      refine B_X7_copy_r1_c1_c1_20 Ln I A v2 v4 v5  (fun q14 => ?_) (fun q14 => ?_)
      · try simp only [if_pos q14]
        refine B_X7_copy_r1_c1_c1_52_l5_5 Ln I A v2 v4 v5  (M_X7_faulted_r1 Ln I A 1 ) rfl ?_
        exact B_X7_copy_r1_c1_c1_57_s1_l5_5 Ln (SI_X7_faulted_r1 Ln I A 1) A v2 v4 v5 (V_X7_faulted_r1 Ln I A 1) 
      · try simp only [if_neg q14]
        have h15 := h11.2 q14
        refine B_X7_copy_r1_c1_c1_44_l5_5 Ln I A v2 v4 v5  (fun q18 => ?_) (fun q18 => ?_)
        · try simp only [if_pos q18]
          have h19 := h15.1 q18
          refine B_X7_copy_r1_c1_c1_58_l5_5 Ln I A v2 v4 v5  (fun q22 => ?_) (fun q22 => ?_)
          · try simp only [if_pos q22]
            have h23 := h19.1 q22
            refine B_X7_copy_r1_c1_c1_77_l5_5 Ln I A v2 v4 v5  (fun q26 => ?_) (fun q26 => ?_)
            · try simp only [if_pos q26]
              refine B_X7_copy_r1_c1_c1_105_l5_5 Ln I A v2 v4 v5  (M_X7_faulted_r1 Ln I A 3 ) rfl ?_
              exact B_X7_copy_r1_c1_c1_110_s1_l5_5 Ln (SI_X7_faulted_r1 Ln I A 3) A v2 v4 v5 (V_X7_faulted_r1 Ln I A 3) 
            · try simp only [if_neg q26]
              have h27 := h23.2 q26
              refine B_X7_copy_r1_c1_c1_82_l5_5 Ln I A v2 v4 v5  (M_X4_holds_r5 Ln I A v2 v5 ) rfl ?_
              refine B_X7_copy_r1_c1_c1_90_s1_l5_5 Ln I A v2 v4 v5 (V_X4_holds_r5 Ln I A v2 v5)  (fun q32 => ?_) (fun q32 => ?_)
              · try simp only [if_pos q32]
                refine B_X7_copy_r1_c1_c1_105_l5_5 Ln I A v2 v4 v5  (M_X7_faulted_r1 Ln I A 3 ) rfl ?_
                exact B_X7_copy_r1_c1_c1_110_s1_l5_5 Ln (SI_X7_faulted_r1 Ln I A 3) A v2 v4 v5 (V_X7_faulted_r1 Ln I A 3) 
              · try simp only [if_neg q32]
                have h33 := h27.2 q32
                refine B_X7_copy_r1_c1_c1_93_l5_5 Ln I A v2 v4 v5  (M_X4_holds_r5 Ln I A v4 v5 ) rfl ?_
                refine B_X7_copy_r1_c1_c1_102_s1_l5_5 Ln I A v2 v4 v5 (V_X4_holds_r5 Ln I A v4 v5)  (fun q38 => ?_) (fun q38 => ?_)
                · try simp only [if_pos q38]
                  have h39 := h33.1 q38
                  obtain ⟨g40_0, g40_1, g40_2, g40_3, g40_4⟩ := h39
                  refine B_X7_copy_r1_c1_c1_111_l5_5 Ln I A v2 v4 v5 g40_0 g40_1 g40_2 g40_3 g40_4 (M_X7_faultless_r1 Ln I (zcp A 6 6 (v2).toNatClampNeg (v4).toNatClampNeg (v5).toNatClampNeg) v5 ) rfl ?_
                  exact B_X7_copy_r1_c1_c1_135_s1_l5_5 Ln (SI_X7_faultless_r1 Ln I (zcp A 6 6 (v2).toNatClampNeg (v4).toNatClampNeg (v5).toNatClampNeg) v5) (zcp A 6 6 (v2).toNatClampNeg (v4).toNatClampNeg (v5).toNatClampNeg) v2 v4 v5 (V_X7_faultless_r1 Ln I (zcp A 6 6 (v2).toNatClampNeg (v4).toNatClampNeg (v5).toNatClampNeg) v5) 
                · try simp only [if_neg q38]
                  refine B_X7_copy_r1_c1_c1_105_l5_5 Ln I A v2 v4 v5  (M_X7_faulted_r1 Ln I A 3 ) rfl ?_
                  exact B_X7_copy_r1_c1_c1_110_s1_l5_5 Ln (SI_X7_faulted_r1 Ln I A 3) A v2 v4 v5 (V_X7_faulted_r1 Ln I A 3) 
          · try simp only [if_neg q22]
            refine B_X7_copy_r1_c1_c1_71_l5_5 Ln I A v2 v4 v5  (M_X7_faulted_r1 Ln I A 2 ) rfl ?_
            exact B_X7_copy_r1_c1_c1_76_s1_l5_5 Ln (SI_X7_faulted_r1 Ln I A 2) A v2 v4 v5 (V_X7_faulted_r1 Ln I A 2) 
        · try simp only [if_neg q18]
          refine B_X7_copy_r1_c1_c1_52_l5_5 Ln I A v2 v4 v5  (M_X7_faulted_r1 Ln I A 1 ) rfl ?_
          exact B_X7_copy_r1_c1_c1_57_s1_l5_5 Ln (SI_X7_faulted_r1 Ln I A 1) A v2 v4 v5 (V_X7_faulted_r1 Ln I A 1) 
    · try simp only [if_neg q10]
      refine B_X7_copy_r1_c1_c1_14 Ln I A v2 v4 v5  (M_X7_faultless_r1 Ln I A (-1) ) rfl ?_
      exact B_X7_copy_r1_c1_c1_19_s1 Ln (SI_X7_faultless_r1 Ln I A (-1)) A v2 v4 v5 (V_X7_faultless_r1 Ln I A (-1)) 
