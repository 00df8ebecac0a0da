/-! methods, by program (wip/whole/gen_fun.py, gen_loop.py) -/
def V_X7_bank_r1_c1 (Ln : Nat) (I A : Nat → Nat → Int32) (v2 : Int32) (v3 : Int32) (v4 : Int32) : Int32 := if (V_X7_isSheet Ln I A 1) ≠ 0 then (if (V_X7_isLane Ln I A v2) ≠ 0 then (if (V_X4_faultOfCells_r5 Ln I A v2 v3 v4) = 0 then (if (V_X5_firstFault_r6 Ln I A v3 v4) = ((-1)) then (V_X7_faultless_r1 Ln (zp (zp (zp (SI_X0_become_r11_r6 Ln I A v3 v4) 18 3 0) 22 3 0) 1 9 0) (SA_X7_goThroughNights_r1 Ln (zp (zp (zp (SI_X0_become_r11_r6 Ln I A v3 v4) 18 3 0) 22 3 0) 1 9 0) (SA_X0_become_r11_r6 Ln I A v3 v4) ) ((zp (zp (zp (SI_X0_become_r11_r6 Ln I A v3 v4) 18 3 0) 22 3 0) 1 9 0) 11 0)) else (V_X7_faultless_r1 Ln I A (((-100)) - (V_X5_firstFault_r6 Ln I A v3 v4)))) else (V_X7_faulted_r1 Ln I A (V_X4_faultOfCells_r5 Ln I A v2 v3 v4))) else (V_X7_faultless_r1 Ln I A (-2))) else (V_X7_faultless_r1 Ln I A (-1))
def SI_X7_bank_r1_c1 (Ln : Nat) (I A : Nat → Nat → Int32) (v2 : Int32) (v3 : Int32) (v4 : Int32) : Nat → Nat → Int32 := if (V_X7_isSheet Ln I A 1) ≠ 0 then (if (V_X7_isLane Ln I A v2) ≠ 0 then (if (V_X4_faultOfCells_r5 Ln I A v2 v3 v4) = 0 then (if (V_X5_firstFault_r6 Ln I A v3 v4) = ((-1)) then (SI_X7_faultless_r1 Ln (zp (zp (zp (SI_X0_become_r11_r6 Ln I A v3 v4) 18 3 0) 22 3 0) 1 9 0) (SA_X7_goThroughNights_r1 Ln (zp (zp (zp (SI_X0_become_r11_r6 Ln I A v3 v4) 18 3 0) 22 3 0) 1 9 0) (SA_X0_become_r11_r6 Ln I A v3 v4) ) ((zp (zp (zp (SI_X0_become_r11_r6 Ln I A v3 v4) 18 3 0) 22 3 0) 1 9 0) 11 0)) else (SI_X7_faultless_r1 Ln I A (((-100)) - (V_X5_firstFault_r6 Ln I A v3 v4)))) else (SI_X7_faulted_r1 Ln I A (V_X4_faultOfCells_r5 Ln I A v2 v3 v4))) else (SI_X7_faultless_r1 Ln I A (-2))) else (SI_X7_faultless_r1 Ln I A (-1))
def SA_X7_bank_r1_c1 (Ln : Nat) (I A : Nat → Nat → Int32) (v2 : Int32) (v3 : Int32) (v4 : Int32) : Nat → Nat → Int32 := if (V_X7_isSheet Ln I A 1) ≠ 0 then (if (V_X7_isLane Ln I A v2) ≠ 0 then (if (V_X4_faultOfCells_r5 Ln I A v2 v3 v4) = 0 then (if (V_X5_firstFault_r6 Ln I A v3 v4) = ((-1)) then (SA_X7_goThroughNights_r1 Ln (zp (zp (zp (SI_X0_become_r11_r6 Ln I A v3 v4) 18 3 0) 22 3 0) 1 9 0) (SA_X0_become_r11_r6 Ln I A v3 v4) ) else A) else A) else A) else A
def P_X7_bank_r1_c1 (Ln : Nat) (I A : Nat → Nat → Int32) (v2 : Int32) (v3 : Int32) (v4 : Int32) : Prop := ((V_X7_isSheet Ln I A 1) ≠ 0 → (((V_X7_isLane Ln I A v2) ≠ 0 → (((V_X4_faultOfCells_r5 Ln I A v2 v3 v4) = 0 → ((P_X5_firstFault_r6 Ln I A v3 v4) ∧ (((V_X5_firstFault_r6 Ln I A v3 v4) = ((-1)) → ((P_X0_become_r11_r6 Ln I A v3 v4) ∧ (P_X7_goThroughNights_r1 Ln (zp (zp (zp (SI_X0_become_r11_r6 Ln I A v3 v4) 18 3 0) 22 3 0) 1 9 0) (SA_X0_become_r11_r6 Ln I A v3 v4) ))) ∧ (¬ ((V_X5_firstFault_r6 Ln I A v3 v4) = ((-1))) → True)))) ∧ (¬ ((V_X4_faultOfCells_r5 Ln I A v2 v3 v4) = 0) → True))) ∧ (¬ ((V_X7_isLane Ln I A v2) ≠ 0) → True))) ∧ (¬ ((V_X7_isSheet Ln I A 1) ≠ 0) → True)
set_option maxRecDepth 100000 in
theorem M_X7_bank_r1_c1 (Ln : Nat) (I A : Nat → Nat → Int32) (v2 : Int32) (v3 : Int32) (v4 : Int32) (h : P_X7_bank_r1_c1 Ln I A v2 v3 v4) : zEv 46 0 0 0 [some (.ref 1), some (.int 1), some (.int v2), some (.int v3), some (.int v4), none, none, none] [] (zGs Ln I A) (some (.int (V_X7_bank_r1_c1 Ln I A v2 v3 v4)), zGs Ln (SI_X7_bank_r1_c1 Ln I A v2 v3 v4) (SA_X7_bank_r1_c1 Ln I A v2 v3 v4)) := by
  unfold P_X7_bank_r1_c1 at h
  unfold V_X7_bank_r1_c1 SI_X7_bank_r1_c1 SA_X7_bank_r1_c1
  refine B_X7_bank_r1_c1_0 Ln I A v2 v3 v4  (M_X7_isSheet Ln I A 1 ) rfl ?_
  refine B_X7_bank_r1_c1_4_s1 Ln I A v2 v3 v4 (V_X7_isSheet Ln I A 1)  (fun q4 => ?_) (fun q4 => ?_)
  · try simp only [if_pos q4]
    have h5 := h.1 q4
    refine B_X7_bank_r1_c1_13 Ln I A v2 v3 v4  (M_X7_isLane Ln I A v2 ) rfl ?_
    refine B_X7_bank_r1_c1_17_s1 Ln I A v2 v3 v4 (V_X7_isLane Ln I A v2)  (fun q10 => ?_) (fun q10 => ?_)
    · try simp only [if_pos q10]
      have h11 := h5.1 q10
      refine B_X7_bank_r1_c1_27 Ln I A v2 v3 v4  (M_X4_faultOfCells_r5 Ln I A v2 v3 v4 ) rfl ?_
      refine B_X7_bank_r1_c1_44_s1_l5 Ln I A v2 v3 v4 (V_X4_faultOfCells_r5 Ln I A v2 v3 v4)  (fun q16 => ?_) (fun q16 => ?_)
      · try simp only [if_pos q16]
        have h17 := h11.1 q16
        obtain ⟨g18_0, r19_⟩ := h17
        refine B_X7_bank_r1_c1_58_l5 Ln I A v2 v3 v4 (V_X4_faultOfCells_r5 Ln I A v2 v3 v4)  (M_X5_firstFault_r6 Ln I A v3 v4 g18_0) rfl ?_
        refine B_X7_bank_r1_c1_69_s1_l5 Ln I A v2 v3 v4 (V_X4_faultOfCells_r5 Ln I A v2 v3 v4) (V_X5_firstFault_r6 Ln I A v3 v4)  (fun q22 => ?_) (fun q22 => ?_)
        · try simp only [if_pos q22]
          have h23 := r19_.1 q22
          obtain ⟨g24_0, r25_⟩ := h23
          refine B_X7_bank_r1_c1_87_l5 Ln I A v2 v3 v4 (V_X4_faultOfCells_r5 Ln I A v2 v3 v4) (V_X5_firstFault_r6 Ln I A v3 v4)  (M_X0_become_r11_r6 Ln I A v3 v4 g24_0) rfl ?_
          refine B_X7_bank_r1_c1_102_l5 Ln (SI_X0_become_r11_r6 Ln I A v3 v4) (SA_X0_become_r11_r6 Ln I A v3 v4) v2 v3 v4 (V_X4_faultOfCells_r5 Ln I A v2 v3 v4) (V_X5_firstFault_r6 Ln I A v3 v4)  (M_X7_goThroughNights_r1 Ln (zp (zp (zp (SI_X0_become_r11_r6 Ln I A v3 v4) 18 3 0) 22 3 0) 1 9 0) (SA_X0_become_r11_r6 Ln I A v3 v4)  r25_) rfl ?_
          refine B_X7_bank_r1_c1_127_l5 Ln (zp (zp (zp (SI_X0_become_r11_r6 Ln I A v3 v4) 18 3 0) 22 3 0) 1 9 0) (SA_X7_goThroughNights_r1 Ln (zp (zp (zp (SI_X0_become_r11_r6 Ln I A v3 v4) 18 3 0) 22 3 0) 1 9 0) (SA_X0_become_r11_r6 Ln I A v3 v4) ) v2 v3 v4 (V_X4_faultOfCells_r5 Ln I A v2 v3 v4) (V_X5_firstFault_r6 Ln I A v3 v4)  (M_X7_faultless_r1 Ln (zp (zp (zp (SI_X0_become_r11_r6 Ln I A v3 v4) 18 3 0) 22 3 0) 1 9 0) (SA_X7_goThroughNights_r1 Ln (zp (zp (zp (SI_X0_become_r11_r6 Ln I A v3 v4) 18 3 0) 22 3 0) 1 9 0) (SA_X0_become_r11_r6 Ln I A v3 v4) ) ((zp (zp (zp (SI_X0_become_r11_r6 Ln I A v3 v4) 18 3 0) 22 3 0) 1 9 0) 11 0) ) rfl ?_
          exact B_X7_bank_r1_c1_138_s1_l5 Ln (SI_X7_faultless_r1 Ln (zp (zp (zp (SI_X0_become_r11_r6 Ln I A v3 v4) 18 3 0) 22 3 0) 1 9 0) (SA_X7_goThroughNights_r1 Ln (zp (zp (zp (SI_X0_become_r11_r6 Ln I A v3 v4) 18 3 0) 22 3 0) 1 9 0) (SA_X0_become_r11_r6 Ln I A v3 v4) ) ((zp (zp (zp (SI_X0_become_r11_r6 Ln I A v3 v4) 18 3 0) 22 3 0) 1 9 0) 11 0)) (SA_X7_goThroughNights_r1 Ln (zp (zp (zp (SI_X0_become_r11_r6 Ln I A v3 v4) 18 3 0) 22 3 0) 1 9 0) (SA_X0_become_r11_r6 Ln I A v3 v4) ) v2 v3 v4 (V_X4_faultOfCells_r5 Ln I A v2 v3 v4) (V_X5_firstFault_r6 Ln I A v3 v4) (V_X7_faultless_r1 Ln (zp (zp (zp (SI_X0_become_r11_r6 Ln I A v3 v4) 18 3 0) 22 3 0) 1 9 0) (SA_X7_goThroughNights_r1 Ln (zp (zp (zp (SI_X0_become_r11_r6 Ln I A v3 v4) 18 3 0) 22 3 0) 1 9 0) (SA_X0_become_r11_r6 Ln I A v3 v4) ) ((zp (zp (zp (SI_X0_become_r11_r6 Ln I A v3 v4) 18 3 0) 22 3 0) 1 9 0) 11 0)) 
        · try simp only [if_neg q22]
          refine B_X7_bank_r1_c1_77_l5 Ln I A v2 v3 v4 (V_X4_faultOfCells_r5 Ln I A v2 v3 v4) (V_X5_firstFault_r6 Ln I A v3 v4)  (M_X7_faultless_r1 Ln I A (((-100)) - (V_X5_firstFault_r6 Ln I A v3 v4)) ) rfl ?_
          exact B_X7_bank_r1_c1_86_s1_l5 Ln (SI_X7_faultless_r1 Ln I A (((-100)) - (V_X5_firstFault_r6 Ln I A v3 v4))) A v2 v3 v4 (V_X4_faultOfCells_r5 Ln I A v2 v3 v4) (V_X5_firstFault_r6 Ln I A v3 v4) (V_X7_faultless_r1 Ln I A (((-100)) - (V_X5_firstFault_r6 Ln I A v3 v4))) 
      · try simp only [if_neg q16]
        refine B_X7_bank_r1_c1_51_l5 Ln I A v2 v3 v4 (V_X4_faultOfCells_r5 Ln I A v2 v3 v4)  (M_X7_faulted_r1 Ln I A (V_X4_faultOfCells_r5 Ln I A v2 v3 v4) ) rfl ?_
        exact B_X7_bank_r1_c1_57_s1_l5 Ln (SI_X7_faulted_r1 Ln I A (V_X4_faultOfCells_r5 Ln I A v2 v3 v4)) A v2 v3 v4 (V_X4_faultOfCells_r5 Ln I A v2 v3 v4) (V_X7_faulted_r1 Ln I A (V_X4_faultOfCells_r5 Ln I A v2 v3 v4)) 
    · try simp only [if_neg q10]
      refine B_X7_bank_r1_c1_20 Ln I A v2 v3 v4  (M_X7_faultless_r1 Ln I A (-2) ) rfl ?_
      exact B_X7_bank_r1_c1_26_s1 Ln (SI_X7_faultless_r1 Ln I A (-2)) A v2 v3 v4 (V_X7_faultless_r1 Ln I A (-2)) 
  · try simp only [if_neg q4]
    refine B_X7_bank_r1_c1_7 Ln I A v2 v3 v4  (M_X7_faultless_r1 Ln I A (-1) ) rfl ?_
    exact B_X7_bank_r1_c1_12_s1 Ln (SI_X7_faultless_r1 Ln I A (-1)) A v2 v3 v4 (V_X7_faultless_r1 Ln I A (-1)) 
def V_X7_bank_r1_c2 (Ln : Nat) (I A : Nat → Nat → Int32) (v2 : Int32) (v3 : Int32) (v4 : Int32) : Int32 := if (V_X7_isSheet Ln I A 2) ≠ 0 then (if (V_X7_isLane Ln I A v2) ≠ 0 then (if (V_X4_faultOfCells_r7 Ln I A v2 v3 v4) = 0 then (if (V_X5_firstFault_r8 Ln I A v3 v4) = ((-1)) then (V_X7_faultless_r1 Ln (zp (zp (zp (SI_X0_become_r11_r8 Ln I A v3 v4) 18 3 0) 22 3 0) 1 9 0) (SA_X7_goThroughNights_r1 Ln (zp (zp (zp (SI_X0_become_r11_r8 Ln I A v3 v4) 18 3 0) 22 3 0) 1 9 0) (SA_X0_become_r11_r8 Ln I A v3 v4) ) ((zp (zp (zp (SI_X0_become_r11_r8 Ln I A v3 v4) 18 3 0) 22 3 0) 1 9 0) 11 0)) else (V_X7_faultless_r1 Ln I A (((-100)) - (V_X5_firstFault_r8 Ln I A v3 v4)))) else (V_X7_faulted_r1 Ln I A (V_X4_faultOfCells_r7 Ln I A v2 v3 v4))) else (V_X7_faultless_r1 Ln I A (-2))) else (V_X7_faultless_r1 Ln I A (-1))
def SI_X7_bank_r1_c2 (Ln : Nat) (I A : Nat → Nat → Int32) (v2 : Int32) (v3 : Int32) (v4 : Int32) : Nat → Nat → Int32 := if (V_X7_isSheet Ln I A 2) ≠ 0 then (if (V_X7_isLane Ln I A v2) ≠ 0 then (if (V_X4_faultOfCells_r7 Ln I A v2 v3 v4) = 0 then (if (V_X5_firstFault_r8 Ln I A v3 v4) = ((-1)) then (SI_X7_faultless_r1 Ln (zp (zp (zp (SI_X0_become_r11_r8 Ln I A v3 v4) 18 3 0) 22 3 0) 1 9 0) (SA_X7_goThroughNights_r1 Ln (zp (zp (zp (SI_X0_become_r11_r8 Ln I A v3 v4) 18 3 0) 22 3 0) 1 9 0) (SA_X0_become_r11_r8 Ln I A v3 v4) ) ((zp (zp (zp (SI_X0_become_r11_r8 Ln I A v3 v4) 18 3 0) 22 3 0) 1 9 0) 11 0)) else (SI_X7_faultless_r1 Ln I A (((-100)) - (V_X5_firstFault_r8 Ln I A v3 v4)))) else (SI_X7_faulted_r1 Ln I A (V_X4_faultOfCells_r7 Ln I A v2 v3 v4))) else (SI_X7_faultless_r1 Ln I A (-2))) else (SI_X7_faultless_r1 Ln I A (-1))
def SA_X7_bank_r1_c2 (Ln : Nat) (I A : Nat → Nat → Int32) (v2 : Int32) (v3 : Int32) (v4 : Int32) : Nat → Nat → Int32 := if (V_X7_isSheet Ln I A 2) ≠ 0 then (if (V_X7_isLane Ln I A v2) ≠ 0 then (if (V_X4_faultOfCells_r7 Ln I A v2 v3 v4) = 0 then (if (V_X5_firstFault_r8 Ln I A v3 v4) = ((-1)) then (SA_X7_goThroughNights_r1 Ln (zp (zp (zp (SI_X0_become_r11_r8 Ln I A v3 v4) 18 3 0) 22 3 0) 1 9 0) (SA_X0_become_r11_r8 Ln I A v3 v4) ) else A) else A) else A) else A
def P_X7_bank_r1_c2 (Ln : Nat) (I A : Nat → Nat → Int32) (v2 : Int32) (v3 : Int32) (v4 : Int32) : Prop := ((V_X7_isSheet Ln I A 2) ≠ 0 → (((V_X7_isLane Ln I A v2) ≠ 0 → (((V_X4_faultOfCells_r7 Ln I A v2 v3 v4) = 0 → ((P_X5_firstFault_r8 Ln I A v3 v4) ∧ (((V_X5_firstFault_r8 Ln I A v3 v4) = ((-1)) → ((P_X0_become_r11_r8 Ln I A v3 v4) ∧ (P_X7_goThroughNights_r1 Ln (zp (zp (zp (SI_X0_become_r11_r8 Ln I A v3 v4) 18 3 0) 22 3 0) 1 9 0) (SA_X0_become_r11_r8 Ln I A v3 v4) ))) ∧ (¬ ((V_X5_firstFault_r8 Ln I A v3 v4) = ((-1))) → True)))) ∧ (¬ ((V_X4_faultOfCells_r7 Ln I A v2 v3 v4) = 0) → True))) ∧ (¬ ((V_X7_isLane Ln I A v2) ≠ 0) → True))) ∧ (¬ ((V_X7_isSheet Ln I A 2) ≠ 0) → True)
set_option maxRecDepth 100000 in
theorem M_X7_bank_r1_c2 (Ln : Nat) (I A : Nat → Nat → Int32) (v2 : Int32) (v3 : Int32) (v4 : Int32) (h : P_X7_bank_r1_c2 Ln I A v2 v3 v4) : zEv 46 0 0 0 [some (.ref 1), some (.int 2), some (.int v2), some (.int v3), some (.int v4), none, none, none] [] (zGs Ln I A) (some (.int (V_X7_bank_r1_c2 Ln I A v2 v3 v4)), zGs Ln (SI_X7_bank_r1_c2 Ln I A v2 v3 v4) (SA_X7_bank_r1_c2 Ln I A v2 v3 v4)) := by
  unfold P_X7_bank_r1_c2 at h
  unfold V_X7_bank_r1_c2 SI_X7_bank_r1_c2 SA_X7_bank_r1_c2
  refine B_X7_bank_r1_c2_0 Ln I A v2 v3 v4  (M_X7_isSheet Ln I A 2 ) rfl ?_
  refine B_X7_bank_r1_c2_4_s1 Ln I A v2 v3 v4 (V_X7_isSheet Ln I A 2)  (fun q4 => ?_) (fun q4 => ?_)
  · try simp only [if_pos q4]
    have h5 := h.1 q4
    refine B_X7_bank_r1_c2_13 Ln I A v2 v3 v4  (M_X7_isLane Ln I A v2 ) rfl ?_
    refine B_X7_bank_r1_c2_17_s1 Ln I A v2 v3 v4 (V_X7_isLane Ln I A v2)  (fun q10 => ?_) (fun q10 => ?_)
    · try simp only [if_pos q10]
      have h11 := h5.1 q10
      refine B_X7_bank_r1_c2_27 Ln I A v2 v3 v4  (M_X4_faultOfCells_r7 Ln I A v2 v3 v4 ) rfl ?_
      refine B_X7_bank_r1_c2_44_s1_l7 Ln I A v2 v3 v4 (V_X4_faultOfCells_r7 Ln I A v2 v3 v4)  (fun q16 => ?_) (fun q16 => ?_)
      · try simp only [if_pos q16]
        have h17 := h11.1 q16
        obtain ⟨g18_0, r19_⟩ := h17
        refine B_X7_bank_r1_c2_58_l7 Ln I A v2 v3 v4 (V_X4_faultOfCells_r7 Ln I A v2 v3 v4)  (M_X5_firstFault_r8 Ln I A v3 v4 g18_0) rfl ?_
        refine B_X7_bank_r1_c2_69_s1_l7 Ln I A v2 v3 v4 (V_X4_faultOfCells_r7 Ln I A v2 v3 v4) (V_X5_firstFault_r8 Ln I A v3 v4)  (fun q22 => ?_) (fun q22 => ?_)
        · try simp only [if_pos q22]
          have h23 := r19_.1 q22
          obtain ⟨g24_0, r25_⟩ := h23
          refine B_X7_bank_r1_c2_87_l7 Ln I A v2 v3 v4 (V_X4_faultOfCells_r7 Ln I A v2 v3 v4) (V_X5_firstFault_r8 Ln I A v3 v4)  (M_X0_become_r11_r8 Ln I A v3 v4 g24_0) rfl ?_
          refine B_X7_bank_r1_c2_102_l7 Ln (SI_X0_become_r11_r8 Ln I A v3 v4) (SA_X0_become_r11_r8 Ln I A v3 v4) v2 v3 v4 (V_X4_faultOfCells_r7 Ln I A v2 v3 v4) (V_X5_firstFault_r8 Ln I A v3 v4)  (M_X7_goThroughNights_r1 Ln (zp (zp (zp (SI_X0_become_r11_r8 Ln I A v3 v4) 18 3 0) 22 3 0) 1 9 0) (SA_X0_become_r11_r8 Ln I A v3 v4)  r25_) rfl ?_
          refine B_X7_bank_r1_c2_127_l7 Ln (zp (zp (zp (SI_X0_become_r11_r8 Ln I A v3 v4) 18 3 0) 22 3 0) 1 9 0) (SA_X7_goThroughNights_r1 Ln (zp (zp (zp (SI_X0_become_r11_r8 Ln I A v3 v4) 18 3 0) 22 3 0) 1 9 0) (SA_X0_become_r11_r8 Ln I A v3 v4) ) v2 v3 v4 (V_X4_faultOfCells_r7 Ln I A v2 v3 v4) (V_X5_firstFault_r8 Ln I A v3 v4)  (M_X7_faultless_r1 Ln (zp (zp (zp (SI_X0_become_r11_r8 Ln I A v3 v4) 18 3 0) 22 3 0) 1 9 0) (SA_X7_goThroughNights_r1 Ln (zp (zp (zp (SI_X0_become_r11_r8 Ln I A v3 v4) 18 3 0) 22 3 0) 1 9 0) (SA_X0_become_r11_r8 Ln I A v3 v4) ) ((zp (zp (zp (SI_X0_become_r11_r8 Ln I A v3 v4) 18 3 0) 22 3 0) 1 9 0) 11 0) ) rfl ?_
          exact B_X7_bank_r1_c2_138_s1_l7 Ln (SI_X7_faultless_r1 Ln (zp (zp (zp (SI_X0_become_r11_r8 Ln I A v3 v4) 18 3 0) 22 3 0) 1 9 0) (SA_X7_goThroughNights_r1 Ln (zp (zp (zp (SI_X0_become_r11_r8 Ln I A v3 v4) 18 3 0) 22 3 0) 1 9 0) (SA_X0_become_r11_r8 Ln I A v3 v4) ) ((zp (zp (zp (SI_X0_become_r11_r8 Ln I A v3 v4) 18 3 0) 22 3 0) 1 9 0) 11 0)) (SA_X7_goThroughNights_r1 Ln (zp (zp (zp (SI_X0_become_r11_r8 Ln I A v3 v4) 18 3 0) 22 3 0) 1 9 0) (SA_X0_become_r11_r8 Ln I A v3 v4) ) v2 v3 v4 (V_X4_faultOfCells_r7 Ln I A v2 v3 v4) (V_X5_firstFault_r8 Ln I A v3 v4) (V_X7_faultless_r1 Ln (zp (zp (zp (SI_X0_become_r11_r8 Ln I A v3 v4) 18 3 0) 22 3 0) 1 9 0) (SA_X7_goThroughNights_r1 Ln (zp (zp (zp (SI_X0_become_r11_r8 Ln I A v3 v4) 18 3 0) 22 3 0) 1 9 0) (SA_X0_become_r11_r8 Ln I A v3 v4) ) ((zp (zp (zp (SI_X0_become_r11_r8 Ln I A v3 v4) 18 3 0) 22 3 0) 1 9 0) 11 0)) 
        · try simp only [if_neg q22]
          refine B_X7_bank_r1_c2_77_l7 Ln I A v2 v3 v4 (V_X4_faultOfCells_r7 Ln I A v2 v3 v4) (V_X5_firstFault_r8 Ln I A v3 v4)  (M_X7_faultless_r1 Ln I A (((-100)) - (V_X5_firstFault_r8 Ln I A v3 v4)) ) rfl ?_
          exact B_X7_bank_r1_c2_86_s1_l7 Ln (SI_X7_faultless_r1 Ln I A (((-100)) - (V_X5_firstFault_r8 Ln I A v3 v4))) A v2 v3 v4 (V_X4_faultOfCells_r7 Ln I A v2 v3 v4) (V_X5_firstFault_r8 Ln I A v3 v4) (V_X7_faultless_r1 Ln I A (((-100)) - (V_X5_firstFault_r8 Ln I A v3 v4))) 
      · try simp only [if_neg q16]
        refine B_X7_bank_r1_c2_51_l7 Ln I A v2 v3 v4 (V_X4_faultOfCells_r7 Ln I A v2 v3 v4)  (M_X7_faulted_r1 Ln I A (V_X4_faultOfCells_r7 Ln I A v2 v3 v4) ) rfl ?_
        exact B_X7_bank_r1_c2_57_s1_l7 Ln (SI_X7_faulted_r1 Ln I A (V_X4_faultOfCells_r7 Ln I A v2 v3 v4)) A v2 v3 v4 (V_X4_faultOfCells_r7 Ln I A v2 v3 v4) (V_X7_faulted_r1 Ln I A (V_X4_faultOfCells_r7 Ln I A v2 v3 v4)) 
    · try simp only [if_neg q10]
      refine B_X7_bank_r1_c2_20 Ln I A v2 v3 v4  (M_X7_faultless_r1 Ln I A (-2) ) rfl ?_
      exact B_X7_bank_r1_c2_26_s1 Ln (SI_X7_faultless_r1 Ln I A (-2)) A v2 v3 v4 (V_X7_faultless_r1 Ln I A (-2)) 
  · try simp only [if_neg q4]
    refine B_X7_bank_r1_c2_7 Ln I A v2 v3 v4  (M_X7_faultless_r1 Ln I A (-1) ) rfl ?_
    exact B_X7_bank_r1_c2_12_s1 Ln (SI_X7_faultless_r1 Ln I A (-1)) A v2 v3 v4 (V_X7_faultless_r1 Ln I A (-1)) 
def V_X7_bank_r1_c3 (Ln : Nat) (I A : Nat → Nat → Int32) (v2 : Int32) (v3 : Int32) (v4 : Int32) : Int32 := if (V_X7_isSheet Ln I A 3) ≠ 0 then (if (V_X7_isLane Ln I A v2) ≠ 0 then (if (V_X4_faultOfCells_r9 Ln I A v2 v3 v4) = 0 then (if (V_X5_firstFault_r10 Ln I A v3 v4) = ((-1)) then (V_X7_faultless_r1 Ln (zp (zp (zp (SI_X0_become_r11_r10 Ln I A v3 v4) 18 3 0) 22 3 0) 1 9 0) (SA_X7_goThroughNights_r1 Ln (zp (zp (zp (SI_X0_become_r11_r10 Ln I A v3 v4) 18 3 0) 22 3 0) 1 9 0) (SA_X0_become_r11_r10 Ln I A v3 v4) ) ((zp (zp (zp (SI_X0_become_r11_r10 Ln I A v3 v4) 18 3 0) 22 3 0) 1 9 0) 11 0)) else (V_X7_faultless_r1 Ln I A (((-100)) - (V_X5_firstFault_r10 Ln I A v3 v4)))) else (V_X7_faulted_r1 Ln I A (V_X4_faultOfCells_r9 Ln I A v2 v3 v4))) else (V_X7_faultless_r1 Ln I A (-2))) else (V_X7_faultless_r1 Ln I A (-1))
def SI_X7_bank_r1_c3 (Ln : Nat) (I A : Nat → Nat → Int32) (v2 : Int32) (v3 : Int32) (v4 : Int32) : Nat → Nat → Int32 := if (V_X7_isSheet Ln I A 3) ≠ 0 then (if (V_X7_isLane Ln I A v2) ≠ 0 then (if (V_X4_faultOfCells_r9 Ln I A v2 v3 v4) = 0 then (if (V_X5_firstFault_r10 Ln I A v3 v4) = ((-1)) then (SI_X7_faultless_r1 Ln (zp (zp (zp (SI_X0_become_r11_r10 Ln I A v3 v4) 18 3 0) 22 3 0) 1 9 0) (SA_X7_goThroughNights_r1 Ln (zp (zp (zp (SI_X0_become_r11_r10 Ln I A v3 v4) 18 3 0) 22 3 0) 1 9 0) (SA_X0_become_r11_r10 Ln I A v3 v4) ) ((zp (zp (zp (SI_X0_become_r11_r10 Ln I A v3 v4) 18 3 0) 22 3 0) 1 9 0) 11 0)) else (SI_X7_faultless_r1 Ln I A (((-100)) - (V_X5_firstFault_r10 Ln I A v3 v4)))) else (SI_X7_faulted_r1 Ln I A (V_X4_faultOfCells_r9 Ln I A v2 v3 v4))) else (SI_X7_faultless_r1 Ln I A (-2))) else (SI_X7_faultless_r1 Ln I A (-1))
def SA_X7_bank_r1_c3 (Ln : Nat) (I A : Nat → Nat → Int32) (v2 : Int32) (v3 : Int32) (v4 : Int32) : Nat → Nat → Int32 := if (V_X7_isSheet Ln I A 3) ≠ 0 then (if (V_X7_isLane Ln I A v2) ≠ 0 then (if (V_X4_faultOfCells_r9 Ln I A v2 v3 v4) = 0 then (if (V_X5_firstFault_r10 Ln I A v3 v4) = ((-1)) then (SA_X7_goThroughNights_r1 Ln (zp (zp (zp (SI_X0_become_r11_r10 Ln I A v3 v4) 18 3 0) 22 3 0) 1 9 0) (SA_X0_become_r11_r10 Ln I A v3 v4) ) else A) else A) else A) else A
def P_X7_bank_r1_c3 (Ln : Nat) (I A : Nat → Nat → Int32) (v2 : Int32) (v3 : Int32) (v4 : Int32) : Prop := ((V_X7_isSheet Ln I A 3) ≠ 0 → (((V_X7_isLane Ln I A v2) ≠ 0 → (((V_X4_faultOfCells_r9 Ln I A v2 v3 v4) = 0 → ((P_X5_firstFault_r10 Ln I A v3 v4) ∧ (((V_X5_firstFault_r10 Ln I A v3 v4) = ((-1)) → ((P_X0_become_r11_r10 Ln I A v3 v4) ∧ (P_X7_goThroughNights_r1 Ln (zp (zp (zp (SI_X0_become_r11_r10 Ln I A v3 v4) 18 3 0) 22 3 0) 1 9 0) (SA_X0_become_r11_r10 Ln I A v3 v4) ))) ∧ (¬ ((V_X5_firstFault_r10 Ln I A v3 v4) = ((-1))) → True)))) ∧ (¬ ((V_X4_faultOfCells_r9 Ln I A v2 v3 v4) = 0) → True))) ∧ (¬ ((V_X7_isLane Ln I A v2) ≠ 0) → True))) ∧ (¬ ((V_X7_isSheet Ln I A 3) ≠ 0) → True)
set_option maxRecDepth 100000 in
theorem M_X7_bank_r1_c3 (Ln : Nat) (I A : Nat → Nat → Int32) (v2 : Int32) (v3 : Int32) (v4 : Int32) (h : P_X7_bank_r1_c3 Ln I A v2 v3 v4) : zEv 46 0 0 0 [some (.ref 1), some (.int 3), some (.int v2), some (.int v3), some (.int v4), none, none, none] [] (zGs Ln I A) (some (.int (V_X7_bank_r1_c3 Ln I A v2 v3 v4)), zGs Ln (SI_X7_bank_r1_c3 Ln I A v2 v3 v4) (SA_X7_bank_r1_c3 Ln I A v2 v3 v4)) := by
  unfold P_X7_bank_r1_c3 at h
  unfold V_X7_bank_r1_c3 SI_X7_bank_r1_c3 SA_X7_bank_r1_c3
  refine B_X7_bank_r1_c3_0 Ln I A v2 v3 v4  (M_X7_isSheet Ln I A 3 ) rfl ?_
  refine B_X7_bank_r1_c3_4_s1 Ln I A v2 v3 v4 (V_X7_isSheet Ln I A 3)  (fun q4 => ?_) (fun q4 => ?_)
  · try simp only [if_pos q4]
    have h5 := h.1 q4
    refine B_X7_bank_r1_c3_13 Ln I A v2 v3 v4  (M_X7_isLane Ln I A v2 ) rfl ?_
    refine B_X7_bank_r1_c3_17_s1 Ln I A v2 v3 v4 (V_X7_isLane Ln I A v2)  (fun q10 => ?_) (fun q10 => ?_)
    · try simp only [if_pos q10]
      have h11 := h5.1 q10
      refine B_X7_bank_r1_c3_27 Ln I A v2 v3 v4  (M_X4_faultOfCells_r9 Ln I A v2 v3 v4 ) rfl ?_
      refine B_X7_bank_r1_c3_44_s1_l9 Ln I A v2 v3 v4 (V_X4_faultOfCells_r9 Ln I A v2 v3 v4)  (fun q16 => ?_) (fun q16 => ?_)
      · try simp only [if_pos q16]
        have h17 := h11.1 q16
        obtain ⟨g18_0, r19_⟩ := h17
        refine B_X7_bank_r1_c3_58_l9 Ln I A v2 v3 v4 (V_X4_faultOfCells_r9 Ln I A v2 v3 v4)  (M_X5_firstFault_r10 Ln I A v3 v4 g18_0) rfl ?_
        refine B_X7_bank_r1_c3_69_s1_l9 Ln I A v2 v3 v4 (V_X4_faultOfCells_r9 Ln I A v2 v3 v4) (V_X5_firstFault_r10 Ln I A v3 v4)  (fun q22 => ?_) (fun q22 => ?_)
        · try simp only [if_pos q22]
          have h23 := r19_.1 q22
          obtain ⟨g24_0, r25_⟩ := h23
          refine B_X7_bank_r1_c3_87_l9 Ln I A v2 v3 v4 (V_X4_faultOfCells_r9 Ln I A v2 v3 v4) (V_X5_firstFault_r10 Ln I A v3 v4)  (M_X0_become_r11_r10 Ln I A v3 v4 g24_0) rfl ?_
          refine B_X7_bank_r1_c3_102_l9 Ln (SI_X0_become_r11_r10 Ln I A v3 v4) (SA_X0_become_r11_r10 Ln I A v3 v4) v2 v3 v4 (V_X4_faultOfCells_r9 Ln I A v2 v3 v4) (V_X5_firstFault_r10 Ln I A v3 v4)  (M_X7_goThroughNights_r1 Ln (zp (zp (zp (SI_X0_become_r11_r10 Ln I A v3 v4) 18 3 0) 22 3 0) 1 9 0) (SA_X0_become_r11_r10 Ln I A v3 v4)  r25_) rfl ?_
          refine B_X7_bank_r1_c3_127_l9 Ln (zp (zp (zp (SI_X0_become_r11_r10 Ln I A v3 v4) 18 3 0) 22 3 0) 1 9 0) (SA_X7_goThroughNights_r1 Ln (zp (zp (zp (SI_X0_become_r11_r10 Ln I A v3 v4) 18 3 0) 22 3 0) 1 9 0) (SA_X0_become_r11_r10 Ln I A v3 v4) ) v2 v3 v4 (V_X4_faultOfCells_r9 Ln I A v2 v3 v4) (V_X5_firstFault_r10 Ln I A v3 v4)  (M_X7_faultless_r1 Ln (zp (zp (zp (SI_X0_become_r11_r10 Ln I A v3 v4) 18 3 0) 22 3 0) 1 9 0) (SA_X7_goThroughNights_r1 Ln (zp (zp (zp (SI_X0_become_r11_r10 Ln I A v3 v4) 18 3 0) 22 3 0) 1 9 0) (SA_X0_become_r11_r10 Ln I A v3 v4) ) ((zp (zp (zp (SI_X0_become_r11_r10 Ln I A v3 v4) 18 3 0) 22 3 0) 1 9 0) 11 0) ) rfl ?_
          exact B_X7_bank_r1_c3_138_s1_l9 Ln (SI_X7_faultless_r1 Ln (zp (zp (zp (SI_X0_become_r11_r10 Ln I A v3 v4) 18 3 0) 22 3 0) 1 9 0) (SA_X7_goThroughNights_r1 Ln (zp (zp (zp (SI_X0_become_r11_r10 Ln I A v3 v4) 18 3 0) 22 3 0) 1 9 0) (SA_X0_become_r11_r10 Ln I A v3 v4) ) ((zp (zp (zp (SI_X0_become_r11_r10 Ln I A v3 v4) 18 3 0) 22 3 0) 1 9 0) 11 0)) (SA_X7_goThroughNights_r1 Ln (zp (zp (zp (SI_X0_become_r11_r10 Ln I A v3 v4) 18 3 0) 22 3 0) 1 9 0) (SA_X0_become_r11_r10 Ln I A v3 v4) ) v2 v3 v4 (V_X4_faultOfCells_r9 Ln I A v2 v3 v4) (V_X5_firstFault_r10 Ln I A v3 v4) (V_X7_faultless_r1 Ln (zp (zp (zp (SI_X0_become_r11_r10 Ln I A v3 v4) 18 3 0) 22 3 0) 1 9 0) (SA_X7_goThroughNights_r1 Ln (zp (zp (zp (SI_X0_become_r11_r10 Ln I A v3 v4) 18 3 0) 22 3 0) 1 9 0) (SA_X0_become_r11_r10 Ln I A v3 v4) ) ((zp (zp (zp (SI_X0_become_r11_r10 Ln I A v3 v4) 18 3 0) 22 3 0) 1 9 0) 11 0)) 
        · try simp only [if_neg q22]
          refine B_X7_bank_r1_c3_77_l9 Ln I A v2 v3 v4 (V_X4_faultOfCells_r9 Ln I A v2 v3 v4) (V_X5_firstFault_r10 Ln I A v3 v4)  (M_X7_faultless_r1 Ln I A (((-100)) - (V_X5_firstFault_r10 Ln I A v3 v4)) ) rfl ?_
          exact B_X7_bank_r1_c3_86_s1_l9 Ln (SI_X7_faultless_r1 Ln I A (((-100)) - (V_X5_firstFault_r10 Ln I A v3 v4))) A v2 v3 v4 (V_X4_faultOfCells_r9 Ln I A v2 v3 v4) (V_X5_firstFault_r10 Ln I A v3 v4) (V_X7_faultless_r1 Ln I A (((-100)) - (V_X5_firstFault_r10 Ln I A v3 v4))) 
      · try simp only [if_neg q16]
        refine B_X7_bank_r1_c3_51_l9 Ln I A v2 v3 v4 (V_X4_faultOfCells_r9 Ln I A v2 v3 v4)  (M_X7_faulted_r1 Ln I A (V_X4_faultOfCells_r9 Ln I A v2 v3 v4) ) rfl ?_
        exact B_X7_bank_r1_c3_57_s1_l9 Ln (SI_X7_faulted_r1 Ln I A (V_X4_faultOfCells_r9 Ln I A v2 v3 v4)) A v2 v3 v4 (V_X4_faultOfCells_r9 Ln I A v2 v3 v4) (V_X7_faulted_r1 Ln I A (V_X4_faultOfCells_r9 Ln I A v2 v3 v4)) 
    · try simp only [if_neg q10]
      refine B_X7_bank_r1_c3_20 Ln I A v2 v3 v4  (M_X7_faultless_r1 Ln I A (-2) ) rfl ?_
      exact B_X7_bank_r1_c3_26_s1 Ln (SI_X7_faultless_r1 Ln I A (-2)) A v2 v3 v4 (V_X7_faultless_r1 Ln I A (-2)) 
  · try simp only [if_neg q4]
    refine B_X7_bank_r1_c3_7 Ln I A v2 v3 v4  (M_X7_faultless_r1 Ln I A (-1) ) rfl ?_
    exact B_X7_bank_r1_c3_12_s1 Ln (SI_X7_faultless_r1 Ln I A (-1)) A v2 v3 v4 (V_X7_faultless_r1 Ln I A (-1)) 
theorem zsh (Ln : Nat) (I A : Nat → Nat → Int32) (v1 : Int32) (n0 : ¬ v1 = 0) (n1 : ¬ v1 = 1) (n2 : ¬ v1 = 2) (n3 : ¬ v1 = 3) : V_X7_isSheet Ln I A v1 = 0 := by
  unfold V_X7_isSheet
  split
  · rfl
  · split
    · rfl
    · next h1 h2 =>
      exfalso
      simp only [Int32.lt_iff_toInt_lt, Int32.le_iff_toInt_le, Int32.toInt_zero] at h1 h2
      have e4 : (4 : Int32).toInt = 4 := by decide
      have h3 : v1.toInt < 4 := by omega
      have h4 : 0 ≤ v1.toInt := by omega
      have ex : ∀ c : Int32, v1.toInt = c.toInt → v1 = c := fun c h => Int32.toInt_inj.mp h
      have e0 : (0 : Int32).toInt = 0 := by decide
      have e1 : (1 : Int32).toInt = 1 := by decide
      have e2 : (2 : Int32).toInt = 2 := by decide
      have e3 : (3 : Int32).toInt = 3 := by decide
      rcases (show v1.toInt = 0 ∨ v1.toInt = 1 ∨ v1.toInt = 2 ∨ v1.toInt = 3 by omega) with h | h | h | h
      · exact n0 (ex 0 (by omega))
      · exact n1 (ex 1 (by omega))
      · exact n2 (ex 2 (by omega))
      · exact n3 (ex 3 (by omega))
theorem zsh2 (Ln : Nat) (I A : Nat → Nat → Int32) (v1 v3 : Int32) (n0 : ¬ (v1 = 0 ∧ v3 = 0)) (n1 : ¬ (v1 = 0 ∧ v3 = 1)) (n2 : ¬ (v1 = 0 ∧ v3 = 2)) (n3 : ¬ (v1 = 0 ∧ v3 = 3)) (n4 : ¬ (v1 = 1 ∧ v3 = 0)) (n5 : ¬ (v1 = 1 ∧ v3 = 1)) (n6 : ¬ (v1 = 1 ∧ v3 = 2)) (n7 : ¬ (v1 = 1 ∧ v3 = 3)) (n8 : ¬ (v1 = 2 ∧ v3 = 0)) (n9 : ¬ (v1 = 2 ∧ v3 = 1)) (n10 : ¬ (v1 = 2 ∧ v3 = 2)) (n11 : ¬ (v1 = 2 ∧ v3 = 3)) (n12 : ¬ (v1 = 3 ∧ v3 = 0)) (n13 : ¬ (v1 = 3 ∧ v3 = 1)) (n14 : ¬ (v1 = 3 ∧ v3 = 2)) (n15 : ¬ (v1 = 3 ∧ v3 = 3)) (hv : ¬ V_X7_isSheet Ln I A v1 = 0) : V_X7_isSheet Ln I A v3 = 0 := by
  by_cases a0 : v1 = 0
  · exact zsh Ln I A v3 (fun q => n0 ⟨a0, q⟩) (fun q => n1 ⟨a0, q⟩) (fun q => n2 ⟨a0, q⟩) (fun q => n3 ⟨a0, q⟩)
  by_cases a1 : v1 = 1
  · exact zsh Ln I A v3 (fun q => n4 ⟨a1, q⟩) (fun q => n5 ⟨a1, q⟩) (fun q => n6 ⟨a1, q⟩) (fun q => n7 ⟨a1, q⟩)
  by_cases a2 : v1 = 2
  · exact zsh Ln I A v3 (fun q => n8 ⟨a2, q⟩) (fun q => n9 ⟨a2, q⟩) (fun q => n10 ⟨a2, q⟩) (fun q => n11 ⟨a2, q⟩)
  by_cases a3 : v1 = 3
  · exact zsh Ln I A v3 (fun q => n12 ⟨a3, q⟩) (fun q => n13 ⟨a3, q⟩) (fun q => n14 ⟨a3, q⟩) (fun q => n15 ⟨a3, q⟩)
  exact absurd (zsh Ln I A v1 a0 a1 a2 a3) hv
def V_X7_bank_r1 (Ln : Nat) (I A : Nat → Nat → Int32) (v1 : Int32) (v2 : Int32) (v3 : Int32) (v4 : Int32) : Int32 := if v1 = 0 then (V_X7_bank_r1_c0 Ln I A v2 v3 v4) else (if v1 = 1 then (V_X7_bank_r1_c1 Ln I A v2 v3 v4) else (if v1 = 2 then (V_X7_bank_r1_c2 Ln I A v2 v3 v4) else (if v1 = 3 then (V_X7_bank_r1_c3 Ln I A v2 v3 v4) else (if (V_X7_isSheet Ln I A v1) ≠ 0 then (if (V_X7_isLane Ln I A v2) ≠ 0 then 0 else (V_X7_faultless_r1 Ln I A (-2))) else (V_X7_faultless_r1 Ln I A (-1))))))
def SI_X7_bank_r1 (Ln : Nat) (I A : Nat → Nat → Int32) (v1 : Int32) (v2 : Int32) (v3 : Int32) (v4 : Int32) : Nat → Nat → Int32 := if v1 = 0 then (SI_X7_bank_r1_c0 Ln I A v2 v3 v4) else (if v1 = 1 then (SI_X7_bank_r1_c1 Ln I A v2 v3 v4) else (if v1 = 2 then (SI_X7_bank_r1_c2 Ln I A v2 v3 v4) else (if v1 = 3 then (SI_X7_bank_r1_c3 Ln I A v2 v3 v4) else (if (V_X7_isSheet Ln I A v1) ≠ 0 then (if (V_X7_isLane Ln I A v2) ≠ 0 then I else (SI_X7_faultless_r1 Ln I A (-2))) else (SI_X7_faultless_r1 Ln I A (-1))))))
def SA_X7_bank_r1 (Ln : Nat) (I A : Nat → Nat → Int32) (v1 : Int32) (v2 : Int32) (v3 : Int32) (v4 : Int32) : Nat → Nat → Int32 := if v1 = 0 then (SA_X7_bank_r1_c0 Ln I A v2 v3 v4) else (if v1 = 1 then (SA_X7_bank_r1_c1 Ln I A v2 v3 v4) else (if v1 = 2 then (SA_X7_bank_r1_c2 Ln I A v2 v3 v4) else (if v1 = 3 then (SA_X7_bank_r1_c3 Ln I A v2 v3 v4) else (if (V_X7_isSheet Ln I A v1) ≠ 0 then (if (V_X7_isLane Ln I A v2) ≠ 0 then A else A) else A))))
def P_X7_bank_r1 (Ln : Nat) (I A : Nat → Nat → Int32) (v1 : Int32) (v2 : Int32) (v3 : Int32) (v4 : Int32) : Prop := if v1 = 0 then (P_X7_bank_r1_c0 Ln I A v2 v3 v4) else (if v1 = 1 then (P_X7_bank_r1_c1 Ln I A v2 v3 v4) else (if v1 = 2 then (P_X7_bank_r1_c2 Ln I A v2 v3 v4) else (if v1 = 3 then (P_X7_bank_r1_c3 Ln I A v2 v3 v4) else True)))
set_option maxRecDepth 100000 in
theorem M_X7_bank_r1 (Ln : Nat) (I A : Nat → Nat → Int32) (v1 : Int32) (v2 : Int32) (v3 : Int32) (v4 : Int32) (h : P_X7_bank_r1 Ln I A v1 v2 v3 v4) : zEv 46 0 0 0 [some (.ref 1), some (.int v1), some (.int v2), some (.int v3), some (.int v4), none, none, none] [] (zGs Ln I A) (some (.int (V_X7_bank_r1 Ln I A v1 v2 v3 v4)), zGs Ln (SI_X7_bank_r1 Ln I A v1 v2 v3 v4) (SA_X7_bank_r1 Ln I A v1 v2 v3 v4)) := by
  unfold P_X7_bank_r1 at h
  unfold V_X7_bank_r1 SI_X7_bank_r1 SA_X7_bank_r1
  by_cases n0 : v1 = 0
  · simp only [if_pos n0] at h ⊢
    subst n0
    exact M_X7_bank_r1_c0 Ln I A v2 v3 v4 h
  simp only [if_neg n0] at h ⊢
  by_cases n1 : v1 = 1
  · simp only [if_pos n1] at h ⊢
    subst n1
    exact M_X7_bank_r1_c1 Ln I A v2 v3 v4 h
  simp only [if_neg n1] at h ⊢
  by_cases n2 : v1 = 2
  · simp only [if_pos n2] at h ⊢
    subst n2
    exact M_X7_bank_r1_c2 Ln I A v2 v3 v4 h
  simp only [if_neg n2] at h ⊢
  by_cases n3 : v1 = 3
  · simp only [if_pos n3] at h ⊢
    subst n3
    exact M_X7_bank_r1_c3 Ln I A v2 v3 v4 h
  simp only [if_neg n3] at h ⊢
  refine B_X7_bank_r1_0 Ln I A v1 v2 v3 v4  (M_X7_isSheet Ln I A v1 ) rfl ?_
  refine B_X7_bank_r1_4_s1 Ln I A v1 v2 v3 v4 (V_X7_isSheet Ln I A v1)  (fun q0 => ?_) (fun q0 => ?_)
  · try simp only [if_pos q0]
    refine B_X7_bank_r1_13 Ln I A v1 v2 v3 v4  (M_X7_isLane Ln I A v2 ) rfl ?_
    refine B_X7_bank_r1_17_s1 Ln I A v1 v2 v3 v4 (V_X7_isLane Ln I A v2)  (fun q1 => ?_) (fun q1 => ?_)
    · try simp only [if_pos q1]
      exact absurd (zsh Ln I A v1 n0 n1 n2 n3) (by assumption)
    · try simp only [if_neg q1]
      refine B_X7_bank_r1_20 Ln I A v1 v2 v3 v4  (M_X7_faultless_r1 Ln I A (-2) ) rfl ?_
      exact B_X7_bank_r1_26_s1 Ln (SI_X7_faultless_r1 Ln I A (-2)) A v1 v2 v3 v4 (V_X7_faultless_r1 Ln I A (-2)) 
  · try simp only [if_neg q0]
    refine B_X7_bank_r1_7 Ln I A v1 v2 v3 v4  (M_X7_faultless_r1 Ln I A (-1) ) rfl ?_
    exact B_X7_bank_r1_12_s1 Ln (SI_X7_faultless_r1 Ln I A (-1)) A v1 v2 v3 v4 (V_X7_faultless_r1 Ln I A (-1)) 
def V_X7_crossings_r1 (Ln : Nat) (I A : Nat → Nat → Int32) (v1 : Int32) (v2 : Int32) (v3 : Int32) (v4 : Int32) : Int32 := if v1 = 0 then (V_X7_crossings_r1_c0 Ln I A v2 v3 v4) else (if v1 = 1 then (V_X7_crossings_r1_c1 Ln I A v2 v3 v4) else (if v1 = 2 then (V_X7_crossings_r1_c2 Ln I A v2 v3 v4) else (if v1 = 3 then (V_X7_crossings_r1_c3 Ln I A v2 v3 v4) else (if (V_X7_isSheet Ln I A v1) ≠ 0 then (if (V_X7_isLane Ln I A v2) ≠ 0 then (if (V_X7_noBank_r1 Ln I A ) = 0 then 0 else (V_X7_faultless_r1 Ln I A (-3))) else (V_X7_faultless_r1 Ln I A (-2))) else (V_X7_faultless_r1 Ln I A (-1))))))
def SI_X7_crossings_r1 (Ln : Nat) (I A : Nat → Nat → Int32) (v1 : Int32) (v2 : Int32) (v3 : Int32) (v4 : Int32) : Nat → Nat → Int32 := if v1 = 0 then (SI_X7_crossings_r1_c0 Ln I A v2 v3 v4) else (if v1 = 1 then (SI_X7_crossings_r1_c1 Ln I A v2 v3 v4) else (if v1 = 2 then (SI_X7_crossings_r1_c2 Ln I A v2 v3 v4) else (if v1 = 3 then (SI_X7_crossings_r1_c3 Ln I A v2 v3 v4) else (if (V_X7_isSheet Ln I A v1) ≠ 0 then (if (V_X7_isLane Ln I A v2) ≠ 0 then (if (V_X7_noBank_r1 Ln I A ) = 0 then I else (SI_X7_faultless_r1 Ln I A (-3))) else (SI_X7_faultless_r1 Ln I A (-2))) else (SI_X7_faultless_r1 Ln I A (-1))))))
def P_X7_crossings_r1 (Ln : Nat) (I A : Nat → Nat → Int32) (v1 : Int32) (v2 : Int32) (v3 : Int32) (v4 : Int32) : Prop := if v1 = 0 then (P_X7_crossings_r1_c0 Ln I A v2 v3 v4) else (if v1 = 1 then (P_X7_crossings_r1_c1 Ln I A v2 v3 v4) else (if v1 = 2 then (P_X7_crossings_r1_c2 Ln I A v2 v3 v4) else (if v1 = 3 then (P_X7_crossings_r1_c3 Ln I A v2 v3 v4) else True)))
set_option maxRecDepth 100000 in
theorem M_X7_crossings_r1 (Ln : Nat) (I A : Nat → Nat → Int32) (v1 : Int32) (v2 : Int32) (v3 : Int32) (v4 : Int32) (h : P_X7_crossings_r1 Ln I A v1 v2 v3 v4) : zEv 57 0 0 0 [some (.ref 1), some (.int v1), some (.int v2), some (.int v3), some (.int v4), none, none] [] (zGs Ln I A) (some (.int (V_X7_crossings_r1 Ln I A v1 v2 v3 v4)), zGs Ln (SI_X7_crossings_r1 Ln I A v1 v2 v3 v4) (A)) := by
  unfold P_X7_crossings_r1 at h
  unfold V_X7_crossings_r1 SI_X7_crossings_r1
  by_cases n0 : v1 = 0
  · simp only [if_pos n0] at h ⊢
    subst n0
    exact M_X7_crossings_r1_c0 Ln I A v2 v3 v4 h
  simp only [if_neg n0] at h ⊢
  by_cases n1 : v1 = 1
  · simp only [if_pos n1] at h ⊢
    subst n1
    exact M_X7_crossings_r1_c1 Ln I A v2 v3 v4 h
  simp only [if_neg n1] at h ⊢
  by_cases n2 : v1 = 2
  · simp only [if_pos n2] at h ⊢
    subst n2
    exact M_X7_crossings_r1_c2 Ln I A v2 v3 v4 h
  simp only [if_neg n2] at h ⊢
  by_cases n3 : v1 = 3
  · simp only [if_pos n3] at h ⊢
    subst n3
    exact M_X7_crossings_r1_c3 Ln I A v2 v3 v4 h
  simp only [if_neg n3] at h ⊢
  refine B_X7_crossings_r1_0 Ln I A v1 v2 v3 v4  (M_X7_isSheet Ln I A v1 ) rfl ?_
  refine B_X7_crossings_r1_4_s1 Ln I A v1 v2 v3 v4 (V_X7_isSheet Ln I A v1)  (fun q0 => ?_) (fun q0 => ?_)
  · try simp only [if_pos q0]
    refine B_X7_crossings_r1_13 Ln I A v1 v2 v3 v4  (M_X7_isLane Ln I A v2 ) rfl ?_
    refine B_X7_crossings_r1_17_s1 Ln I A v1 v2 v3 v4 (V_X7_isLane Ln I A v2)  (fun q1 => ?_) (fun q1 => ?_)
    · try simp only [if_pos q1]
      refine B_X7_crossings_r1_27 Ln I A v1 v2 v3 v4  (M_X7_noBank_r1 Ln I A  ) rfl ?_
      refine B_X7_crossings_r1_31_s1 Ln I A v1 v2 v3 v4 (V_X7_noBank_r1 Ln I A )  (fun q2 => ?_) (fun q2 => ?_)
      · try simp only [if_pos q2]
        exact absurd (zsh Ln I A v1 n0 n1 n2 n3) (by assumption)
      · try simp only [if_neg q2]
        refine B_X7_crossings_r1_34 Ln I A v1 v2 v3 v4  (M_X7_faultless_r1 Ln I A (-3) ) rfl ?_
        exact B_X7_crossings_r1_40_s1 Ln (SI_X7_faultless_r1 Ln I A (-3)) A v1 v2 v3 v4 (V_X7_faultless_r1 Ln I A (-3)) 
    · try simp only [if_neg q1]
      refine B_X7_crossings_r1_20 Ln I A v1 v2 v3 v4  (M_X7_faultless_r1 Ln I A (-2) ) rfl ?_
      exact B_X7_crossings_r1_26_s1 Ln (SI_X7_faultless_r1 Ln I A (-2)) A v1 v2 v3 v4 (V_X7_faultless_r1 Ln I A (-2)) 
  · try simp only [if_neg q0]
    refine B_X7_crossings_r1_7 Ln I A v1 v2 v3 v4  (M_X7_faultless_r1 Ln I A (-1) ) rfl ?_
    exact B_X7_crossings_r1_12_s1 Ln (SI_X7_faultless_r1 Ln I A (-1)) A v1 v2 v3 v4 (V_X7_faultless_r1 Ln I A (-1)) 
def V_X7_sheet_r1 (Ln : Nat) (I A : Nat → Nat → Int32) (v1 : Int32) (v2 : Int32) (v3 : Int32) : Int32 := if v1 = 0 then (V_X7_sheet_r1_c0 Ln I A v2 v3) else (if v1 = 1 then (V_X7_sheet_r1_c1 Ln I A v2 v3) else (if v1 = 2 then (V_X7_sheet_r1_c2 Ln I A v2 v3) else (if v1 = 3 then (V_X7_sheet_r1_c3 Ln I A v2 v3) else (if (V_X7_isSheet Ln I A v1) ≠ 0 then (if (V_X7_isLane Ln I A v2) = 0 then (V_X7_faultless_r1 Ln I A (-2)) else (if v3 ≤ 60 then (if 0 ≤ v3 then 0 else (V_X7_faulted_r1 Ln I A 4)) else (V_X7_faultless_r1 Ln I A (-2)))) else (V_X7_faultless_r1 Ln I A (-1))))))
def SI_X7_sheet_r1 (Ln : Nat) (I A : Nat → Nat → Int32) (v1 : Int32) (v2 : Int32) (v3 : Int32) : Nat → Nat → Int32 := if v1 = 0 then (SI_X7_sheet_r1_c0 Ln I A v2 v3) else (if v1 = 1 then (SI_X7_sheet_r1_c1 Ln I A v2 v3) else (if v1 = 2 then (SI_X7_sheet_r1_c2 Ln I A v2 v3) else (if v1 = 3 then (SI_X7_sheet_r1_c3 Ln I A v2 v3) else (if (V_X7_isSheet Ln I A v1) ≠ 0 then (if (V_X7_isLane Ln I A v2) = 0 then (SI_X7_faultless_r1 Ln I A (-2)) else (if v3 ≤ 60 then (if 0 ≤ v3 then I else (SI_X7_faulted_r1 Ln I A 4)) else (SI_X7_faultless_r1 Ln I A (-2)))) else (SI_X7_faultless_r1 Ln I A (-1))))))
def SA_X7_sheet_r1 (Ln : Nat) (I A : Nat → Nat → Int32) (v1 : Int32) (v2 : Int32) (v3 : Int32) : Nat → Nat → Int32 := if v1 = 0 then (SA_X7_sheet_r1_c0 Ln I A v2 v3) else (if v1 = 1 then (SA_X7_sheet_r1_c1 Ln I A v2 v3) else (if v1 = 2 then (SA_X7_sheet_r1_c2 Ln I A v2 v3) else (if v1 = 3 then (SA_X7_sheet_r1_c3 Ln I A v2 v3) else (if (V_X7_isSheet Ln I A v1) ≠ 0 then (if (V_X7_isLane Ln I A v2) = 0 then A else (if v3 ≤ 60 then (if 0 ≤ v3 then A else A) else A)) else A))))
def P_X7_sheet_r1 (Ln : Nat) (I A : Nat → Nat → Int32) (v1 : Int32) (v2 : Int32) (v3 : Int32) : Prop := if v1 = 0 then (P_X7_sheet_r1_c0 Ln I A v2 v3) else (if v1 = 1 then (P_X7_sheet_r1_c1 Ln I A v2 v3) else (if v1 = 2 then (P_X7_sheet_r1_c2 Ln I A v2 v3) else (if v1 = 3 then (P_X7_sheet_r1_c3 Ln I A v2 v3) else True)))
set_option maxRecDepth 100000 in
theorem M_X7_sheet_r1 (Ln : Nat) (I A : Nat → Nat → Int32) (v1 : Int32) (v2 : Int32) (v3 : Int32) (h : P_X7_sheet_r1 Ln I A v1 v2 v3) : zEv 66 0 0 0 [some (.ref 1), some (.int v1), some (.int v2), some (.int v3)] [] (zGs Ln I A) (some (.int (V_X7_sheet_r1 Ln I A v1 v2 v3)), zGs Ln (SI_X7_sheet_r1 Ln I A v1 v2 v3) (SA_X7_sheet_r1 Ln I A v1 v2 v3)) := by
  unfold P_X7_sheet_r1 at h
  unfold V_X7_sheet_r1 SI_X7_sheet_r1 SA_X7_sheet_r1
  by_cases n0 : v1 = 0
  · simp only [if_pos n0] at h ⊢
    subst n0
    exact M_X7_sheet_r1_c0 Ln I A v2 v3 h
  simp only [if_neg n0] at h ⊢
  by_cases n1 : v1 = 1
  · simp only [if_pos n1] at h ⊢
    subst n1
    exact M_X7_sheet_r1_c1 Ln I A v2 v3 h
  simp only [if_neg n1] at h ⊢
  by_cases n2 : v1 = 2
  · simp only [if_pos n2] at h ⊢
    subst n2
    exact M_X7_sheet_r1_c2 Ln I A v2 v3 h
  simp only [if_neg n2] at h ⊢
  by_cases n3 : v1 = 3
  · simp only [if_pos n3] at h ⊢
    subst n3
    exact M_X7_sheet_r1_c3 Ln I A v2 v3 h
  simp only [if_neg n3] at h ⊢
  refine B_X7_sheet_r1_0 Ln I A v1 v2 v3  (M_X7_isSheet Ln I A v1 ) rfl ?_
  refine B_X7_sheet_r1_4_s1 Ln I A v1 v2 v3 (V_X7_isSheet Ln I A v1)  (fun q0 => ?_) (fun q0 => ?_)
  · try simp only [if_pos q0]
    refine B_X7_sheet_r1_13 Ln I A v1 v2 v3  (M_X7_isLane Ln I A v2 ) rfl ?_
    refine B_X7_sheet_r1_17_s1 Ln I A v1 v2 v3 (V_X7_isLane Ln I A v2)  (fun q1 => ?_) (fun q1 => ?_)
    · try simp only [if_pos q1]
      refine B_X7_sheet_r1_26 Ln I A v1 v2 v3  (M_X7_faultless_r1 Ln I A (-2) ) rfl ?_
      exact B_X7_sheet_r1_32_s1 Ln (SI_X7_faultless_r1 Ln I A (-2)) A v1 v2 v3 (V_X7_faultless_r1 Ln I A (-2)) 
    · try simp only [if_neg q1]
      refine B_X7_sheet_r1_20 Ln I A v1 v2 v3  (fun q2 => ?_) (fun q2 => ?_)
      · try simp only [if_pos q2]
        refine B_X7_sheet_r1_33 Ln I A v1 v2 v3  (fun q3 => ?_) (fun q3 => ?_)
        · try simp only [if_pos q3]
          exact absurd (zsh Ln I A v1 n0 n1 n2 n3) (by assumption)
        · try simp only [if_neg q3]
          refine B_X7_sheet_r1_37 Ln I A v1 v2 v3  (M_X7_faulted_r1 Ln I A 4 ) rfl ?_
          exact B_X7_sheet_r1_42_s1 Ln (SI_X7_faulted_r1 Ln I A 4) A v1 v2 v3 (V_X7_faulted_r1 Ln I A 4) 
      · try simp only [if_neg q2]
        refine B_X7_sheet_r1_26 Ln I A v1 v2 v3  (M_X7_faultless_r1 Ln I A (-2) ) rfl ?_
        exact B_X7_sheet_r1_32_s1 Ln (SI_X7_faultless_r1 Ln I A (-2)) A v1 v2 v3 (V_X7_faultless_r1 Ln I A (-2)) 
  · try simp only [if_neg q0]
    refine B_X7_sheet_r1_7 Ln I A v1 v2 v3  (M_X7_faultless_r1 Ln I A (-1) ) rfl ?_
    exact B_X7_sheet_r1_12_s1 Ln (SI_X7_faultless_r1 Ln I A (-1)) A v1 v2 v3 (V_X7_faultless_r1 Ln I A (-1)) 
def V_X7_lose_r1 (Ln : Nat) (I A : Nat → Nat → Int32) (v1 : Int32) : Int32 := if v1 = 0 then (V_X7_lose_r1_c0 Ln I A ) else (if v1 = 1 then (V_X7_lose_r1_c1 Ln I A ) else (if v1 = 2 then (V_X7_lose_r1_c2 Ln I A ) else (if v1 = 3 then (V_X7_lose_r1_c3 Ln I A ) else (if (V_X7_isSheet Ln I A v1) ≠ 0 then 0 else (-1)))))
def SI_X7_lose_r1 (Ln : Nat) (I A : Nat → Nat → Int32) (v1 : Int32) : Nat → Nat → Int32 := if v1 = 0 then (SI_X7_lose_r1_c0 Ln I A ) else (if v1 = 1 then (SI_X7_lose_r1_c1 Ln I A ) else (if v1 = 2 then (SI_X7_lose_r1_c2 Ln I A ) else (if v1 = 3 then (SI_X7_lose_r1_c3 Ln I A ) else (if (V_X7_isSheet Ln I A v1) ≠ 0 then I else I))))
set_option maxRecDepth 100000 in
theorem M_X7_lose_r1 (Ln : Nat) (I A : Nat → Nat → Int32) (v1 : Int32) : zEv 67 0 0 0 [some (.ref 1), some (.int v1), none] [] (zGs Ln I A) (some (.int (V_X7_lose_r1 Ln I A v1)), zGs Ln (SI_X7_lose_r1 Ln I A v1) (A)) := by
  unfold V_X7_lose_r1 SI_X7_lose_r1
  by_cases n0 : v1 = 0
  · simp only [if_pos n0]
    subst n0
    exact M_X7_lose_r1_c0 Ln I A 
  simp only [if_neg n0]
  by_cases n1 : v1 = 1
  · simp only [if_pos n1]
    subst n1
    exact M_X7_lose_r1_c1 Ln I A 
  simp only [if_neg n1]
  by_cases n2 : v1 = 2
  · simp only [if_pos n2]
    subst n2
    exact M_X7_lose_r1_c2 Ln I A 
  simp only [if_neg n2]
  by_cases n3 : v1 = 3
  · simp only [if_pos n3]
    subst n3
    exact M_X7_lose_r1_c3 Ln I A 
  simp only [if_neg n3]
  refine B_X7_lose_r1_0 Ln I A v1  (M_X7_isSheet Ln I A v1 ) rfl ?_
  refine B_X7_lose_r1_4_s1 Ln I A v1 (V_X7_isSheet Ln I A v1)  (fun q0 => ?_) (fun q0 => ?_)
  · try simp only [if_pos q0]
    exact absurd (zsh Ln I A v1 n0 n1 n2 n3) (by assumption)
  · try simp only [if_neg q0]
    exact B_X7_lose_r1_7 Ln I A v1 
def V_X7_put_r1 (Ln : Nat) (I A : Nat → Nat → Int32) (v1 : Int32) (v2 : Int32) (v3 : Int32) : Int32 := if v1 = 0 then (V_X7_put_r1_c0 Ln I A v2 v3) else (if v1 = 1 then (V_X7_put_r1_c1 Ln I A v2 v3) else (if v1 = 2 then (V_X7_put_r1_c2 Ln I A v2 v3) else (if v1 = 3 then (V_X7_put_r1_c3 Ln I A v2 v3) else (if (V_X7_isSheet Ln I A v1) ≠ 0 then 0 else (V_X7_faultless_r1 Ln I A (-1))))))
def SI_X7_put_r1 (Ln : Nat) (I A : Nat → Nat → Int32) (v1 : Int32) (v2 : Int32) (v3 : Int32) : Nat → Nat → Int32 := if v1 = 0 then (SI_X7_put_r1_c0 Ln I A v2 v3) else (if v1 = 1 then (SI_X7_put_r1_c1 Ln I A v2 v3) else (if v1 = 2 then (SI_X7_put_r1_c2 Ln I A v2 v3) else (if v1 = 3 then (SI_X7_put_r1_c3 Ln I A v2 v3) else (if (V_X7_isSheet Ln I A v1) ≠ 0 then I else (SI_X7_faultless_r1 Ln I A (-1))))))
def SA_X7_put_r1 (Ln : Nat) (I A : Nat → Nat → Int32) (v1 : Int32) (v2 : Int32) (v3 : Int32) : Nat → Nat → Int32 := if v1 = 0 then (SA_X7_put_r1_c0 Ln I A v2 v3) else (if v1 = 1 then (SA_X7_put_r1_c1 Ln I A v2 v3) else (if v1 = 2 then (SA_X7_put_r1_c2 Ln I A v2 v3) else (if v1 = 3 then (SA_X7_put_r1_c3 Ln I A v2 v3) else (if (V_X7_isSheet Ln I A v1) ≠ 0 then A else A))))
def P_X7_put_r1 (Ln : Nat) (I A : Nat → Nat → Int32) (v1 : Int32) (v2 : Int32) (v3 : Int32) : Prop := if v1 = 0 then (P_X7_put_r1_c0 Ln I A v2 v3) else (if v1 = 1 then (P_X7_put_r1_c1 Ln I A v2 v3) else (if v1 = 2 then (P_X7_put_r1_c2 Ln I A v2 v3) else (if v1 = 3 then (P_X7_put_r1_c3 Ln I A v2 v3) else True)))
set_option maxRecDepth 100000 in
theorem M_X7_put_r1 (Ln : Nat) (I A : Nat → Nat → Int32) (v1 : Int32) (v2 : Int32) (v3 : Int32) (h : P_X7_put_r1 Ln I A v1 v2 v3) : zEv 68 0 0 0 [some (.ref 1), some (.int v1), some (.int v2), some (.int v3), none] [] (zGs Ln I A) (some (.int (V_X7_put_r1 Ln I A v1 v2 v3)), zGs Ln (SI_X7_put_r1 Ln I A v1 v2 v3) (SA_X7_put_r1 Ln I A v1 v2 v3)) := by
  unfold P_X7_put_r1 at h
  unfold V_X7_put_r1 SI_X7_put_r1 SA_X7_put_r1
  by_cases n0 : v1 = 0
  · simp only [if_pos n0] at h ⊢
    subst n0
    exact M_X7_put_r1_c0 Ln I A v2 v3 h
  simp only [if_neg n0] at h ⊢
  by_cases n1 : v1 = 1
  · simp only [if_pos n1] at h ⊢
    subst n1
    exact M_X7_put_r1_c1 Ln I A v2 v3 h
  simp only [if_neg n1] at h ⊢
  by_cases n2 : v1 = 2
  · simp only [if_pos n2] at h ⊢
    subst n2
    exact M_X7_put_r1_c2 Ln I A v2 v3 h
  simp only [if_neg n2] at h ⊢
  by_cases n3 : v1 = 3
  · simp only [if_pos n3] at h ⊢
    subst n3
    exact M_X7_put_r1_c3 Ln I A v2 v3 h
  simp only [if_neg n3] at h ⊢
  refine B_X7_put_r1_0 Ln I A v1 v2 v3  (M_X7_isSheet Ln I A v1 ) rfl ?_
  refine B_X7_put_r1_4_s1 Ln I A v1 v2 v3 (V_X7_isSheet Ln I A v1)  (fun q0 => ?_) (fun q0 => ?_)
  · try simp only [if_pos q0]
    exact absurd (zsh Ln I A v1 n0 n1 n2 n3) (by assumption)
  · try simp only [if_neg q0]
    refine B_X7_put_r1_7 Ln I A v1 v2 v3  (M_X7_faultless_r1 Ln I A (-1) ) rfl ?_
    exact B_X7_put_r1_12_s1 Ln (SI_X7_faultless_r1 Ln I A (-1)) A v1 v2 v3 (V_X7_faultless_r1 Ln I A (-1)) 
