/-! methods, by program (wip/whole/gen_fun.py, gen_loop.py) -/
def V_X7_sheet_r1_c3 (Ln : Nat) (I A : Nat → Nat → Int32) (v2 : Int32) (v3 : Int32) : Int32 := if (V_X7_isSheet Ln I A 3) ≠ 0 then (if (V_X7_isLane Ln I A v2) = 0 then (V_X7_faultless_r1 Ln I A (-2)) else (if v3 ≤ 60 then (if 0 ≤ v3 then (V_X7_faultless_r1 Ln (SI_X4_renew_r9 Ln I A v2 v3) (SA_X4_renew_r9 Ln I A v2 v3) 1) else (V_X7_faulted_r1 Ln I A 4)) else (V_X7_faultless_r1 Ln I A (-2)))) else (V_X7_faultless_r1 Ln I A (-1))
def SI_X7_sheet_r1_c3 (Ln : Nat) (I A : Nat → Nat → Int32) (v2 : Int32) (v3 : Int32) : Nat → Nat → Int32 := if (V_X7_isSheet Ln I A 3) ≠ 0 then (if (V_X7_isLane Ln I A v2) = 0 then (SI_X7_faultless_r1 Ln I A (-2)) else (if v3 ≤ 60 then (if 0 ≤ v3 then (SI_X7_faultless_r1 Ln (SI_X4_renew_r9 Ln I A v2 v3) (SA_X4_renew_r9 Ln I A v2 v3) 1) else (SI_X7_faulted_r1 Ln I A 4)) else (SI_X7_faultless_r1 Ln I A (-2)))) else (SI_X7_faultless_r1 Ln I A (-1))
def SA_X7_sheet_r1_c3 (Ln : Nat) (I A : Nat → Nat → Int32) (v2 : Int32) (v3 : Int32) : Nat → Nat → Int32 := if (V_X7_isSheet Ln I A 3) ≠ 0 then (if (V_X7_isLane Ln I A v2) = 0 then A else (if v3 ≤ 60 then (if 0 ≤ v3 then (SA_X4_renew_r9 Ln I A v2 v3) else A) else A)) else A
def P_X7_sheet_r1_c3 (Ln : Nat) (I A : Nat → Nat → Int32) (v2 : Int32) (v3 : Int32) : Prop := ((V_X7_isSheet Ln I A 3) ≠ 0 → (((V_X7_isLane Ln I A v2) = 0 → True) ∧ (¬ ((V_X7_isLane Ln I A v2) = 0) → ((v3 ≤ 60 → ((0 ≤ v3 → (P_X4_renew_r9 Ln I A v2 v3)) ∧ (¬ (0 ≤ v3) → True))) ∧ (¬ (v3 ≤ 60) → True))))) ∧ (¬ ((V_X7_isSheet Ln I A 3) ≠ 0) → True)
set_option maxRecDepth 100000 in
theorem M_X7_sheet_r1_c3 (Ln : Nat) (I A : Nat → Nat → Int32) (v2 : Int32) (v3 : Int32) (h : P_X7_sheet_r1_c3 Ln I A v2 v3) : zEv 66 0 0 0 [some (.ref 1), some (.int 3), some (.int v2), some (.int v3)] [] (zGs Ln I A) (some (.int (V_X7_sheet_r1_c3 Ln I A v2 v3)), zGs Ln (SI_X7_sheet_r1_c3 Ln I A v2 v3) (SA_X7_sheet_r1_c3 Ln I A v2 v3)) := by
  unfold P_X7_sheet_r1_c3 at h
  unfold V_X7_sheet_r1_c3 SI_X7_sheet_r1_c3 SA_X7_sheet_r1_c3
  refine B_X7_sheet_r1_c3_0 Ln I A v2 v3  (M_X7_isSheet Ln I A 3 ) rfl ?_
  refine B_X7_sheet_r1_c3_4_s1 Ln I A v2 v3 (V_X7_isSheet Ln I A 3)  (fun q4 => ?_) (fun q4 => ?_)
  · try simp only [if_pos q4]
    have h5 := h.1 q4
    refine B_X7_sheet_r1_c3_13 Ln I A v2 v3  (M_X7_isLane Ln I A v2 ) rfl ?_
    refine B_X7_sheet_r1_c3_17_s1 Ln I A v2 v3 (V_X7_isLane Ln I A v2)  (fun q10 => ?_) (fun q10 => ?_)
    · try simp only [if_pos q10]
      refine B_X7_sheet_r1_c3_26 Ln I A v2 v3  (M_X7_faultless_r1 Ln I A (-2) ) rfl ?_
      exact B_X7_sheet_r1_c3_32_s1 Ln (SI_X7_faultless_r1 Ln I A (-2)) A v2 v3 (V_X7_faultless_r1 Ln I A (-2)) 
    · try simp only [if_neg q10]
      have h11 := h5.2 q10
      refine B_X7_sheet_r1_c3_20 Ln I A v2 v3  (fun q14 => ?_) (fun q14 => ?_)
      · try simp only [if_pos q14]
        have h15 := h11.1 q14
        refine B_X7_sheet_r1_c3_33 Ln I A v2 v3  (fun q18 => ?_) (fun q18 => ?_)
        · try simp only [if_pos q18]
          have h19 := h15.1 q18
          refine B_X7_sheet_r1_c3_43 Ln I A v2 v3  (M_X4_renew_r9 Ln I A v2 v3 h19) rfl ?_
          refine B_X7_sheet_r1_c3_54 Ln (SI_X4_renew_r9 Ln I A v2 v3) (SA_X4_renew_r9 Ln I A v2 v3) v2 v3  (M_X7_faultless_r1 Ln (SI_X4_renew_r9 Ln I A v2 v3) (SA_X4_renew_r9 Ln I A v2 v3) 1 ) rfl ?_
          exact B_X7_sheet_r1_c3_59_s1 Ln (SI_X7_faultless_r1 Ln (SI_X4_renew_r9 Ln I A v2 v3) (SA_X4_renew_r9 Ln I A v2 v3) 1) (SA_X4_renew_r9 Ln I A v2 v3) v2 v3 (V_X7_faultless_r1 Ln (SI_X4_renew_r9 Ln I A v2 v3) (SA_X4_renew_r9 Ln I A v2 v3) 1) 
        · try simp only [if_neg q18]
          refine B_X7_sheet_r1_c3_37 Ln I A v2 v3  (M_X7_faulted_r1 Ln I A 4 ) rfl ?_
          exact B_X7_sheet_r1_c3_42_s1 Ln (SI_X7_faulted_r1 Ln I A 4) A v2 v3 (V_X7_faulted_r1 Ln I A 4) 
      · try simp only [if_neg q14]
        refine B_X7_sheet_r1_c3_26 Ln I A v2 v3  (M_X7_faultless_r1 Ln I A (-2) ) rfl ?_
        exact B_X7_sheet_r1_c3_32_s1 Ln (SI_X7_faultless_r1 Ln I A (-2)) A v2 v3 (V_X7_faultless_r1 Ln I A (-2)) 
  · try simp only [if_neg q4]
    refine B_X7_sheet_r1_c3_7 Ln I A v2 v3  (M_X7_faultless_r1 Ln I A (-1) ) rfl ?_
    exact B_X7_sheet_r1_c3_12_s1 Ln (SI_X7_faultless_r1 Ln I A (-1)) A v2 v3 (V_X7_faultless_r1 Ln I A (-1)) 
def V_X7_put_r1_c0 (Ln : Nat) (I A : Nat → Nat → Int32) (v2 : Int32) (v3 : Int32) : Int32 := if (V_X7_isSheet Ln I A 0) ≠ 0 then (if (V_X4_faultOfCells_r3 Ln I A (I 3 2) v2 1) = 0 then (V_X7_faultless_r1 Ln I (SA_X4_write_r3 Ln I A v2 v3) 1) else (V_X7_faulted_r1 Ln I A (V_X4_faultOfCells_r3 Ln I A (I 3 2) v2 1))) else (V_X7_faultless_r1 Ln I A (-1))
def SI_X7_put_r1_c0 (Ln : Nat) (I A : Nat → Nat → Int32) (v2 : Int32) (v3 : Int32) : Nat → Nat → Int32 := if (V_X7_isSheet Ln I A 0) ≠ 0 then (if (V_X4_faultOfCells_r3 Ln I A (I 3 2) v2 1) = 0 then (SI_X7_faultless_r1 Ln I (SA_X4_write_r3 Ln I A v2 v3) 1) else (SI_X7_faulted_r1 Ln I A (V_X4_faultOfCells_r3 Ln I A (I 3 2) v2 1))) else (SI_X7_faultless_r1 Ln I A (-1))
def SA_X7_put_r1_c0 (Ln : Nat) (I A : Nat → Nat → Int32) (v2 : Int32) (v3 : Int32) : Nat → Nat → Int32 := if (V_X7_isSheet Ln I A 0) ≠ 0 then (if (V_X4_faultOfCells_r3 Ln I A (I 3 2) v2 1) = 0 then (SA_X4_write_r3 Ln I A v2 v3) else A) else A
def P_X7_put_r1_c0 (Ln : Nat) (I A : Nat → Nat → Int32) (v2 : Int32) (v3 : Int32) : Prop := ((V_X7_isSheet Ln I A 0) ≠ 0 → (((V_X4_faultOfCells_r3 Ln I A (I 3 2) v2 1) = 0 → (P_X4_write_r3 Ln I A v2 v3)) ∧ (¬ ((V_X4_faultOfCells_r3 Ln I A (I 3 2) v2 1) = 0) → True))) ∧ (¬ ((V_X7_isSheet Ln I A 0) ≠ 0) → True)
set_option maxRecDepth 100000 in
theorem M_X7_put_r1_c0 (Ln : Nat) (I A : Nat → Nat → Int32) (v2 : Int32) (v3 : Int32) (h : P_X7_put_r1_c0 Ln I A v2 v3) : zEv 68 0 0 0 [some (.ref 1), some (.int 0), some (.int v2), some (.int v3), none] [] (zGs Ln I A) (some (.int (V_X7_put_r1_c0 Ln I A v2 v3)), zGs Ln (SI_X7_put_r1_c0 Ln I A v2 v3) (SA_X7_put_r1_c0 Ln I A v2 v3)) := by
  unfold P_X7_put_r1_c0 at h
  unfold V_X7_put_r1_c0 SI_X7_put_r1_c0 SA_X7_put_r1_c0
  refine B_X7_put_r1_c0_0 Ln I A v2 v3  (M_X7_isSheet Ln I A 0 ) rfl ?_
  refine B_X7_put_r1_c0_4_s1 Ln I A v2 v3 (V_X7_isSheet Ln I A 0)  (fun q4 => ?_) (fun q4 => ?_)
  · try simp only [if_pos q4]
    have h5 := h.1 q4
    refine B_X7_put_r1_c0_13 Ln I A v2 v3  (M_X4_faultOfCells_r3 Ln I A (I 3 2) v2 1 ) rfl ?_
    refine B_X7_put_r1_c0_33_s1 Ln I A v2 v3 (V_X4_faultOfCells_r3 Ln I A (I 3 2) v2 1)  (fun q10 => ?_) (fun q10 => ?_)
    · try simp only [if_pos q10]
      have h11 := h5.1 q10
      refine B_X7_put_r1_c0_47 Ln I A v2 v3 (V_X4_faultOfCells_r3 Ln I A (I 3 2) v2 1)  (M_X4_write_r3 Ln I A v2 v3 h11) rfl ?_
      refine B_X7_put_r1_c0_58 Ln I (SA_X4_write_r3 Ln I A v2 v3) v2 v3 (V_X4_faultOfCells_r3 Ln I A (I 3 2) v2 1)  (M_X7_faultless_r1 Ln I (SA_X4_write_r3 Ln I A v2 v3) 1 ) rfl ?_
      exact B_X7_put_r1_c0_63_s1 Ln (SI_X7_faultless_r1 Ln I (SA_X4_write_r3 Ln I A v2 v3) 1) (SA_X4_write_r3 Ln I A v2 v3) v2 v3 (V_X4_faultOfCells_r3 Ln I A (I 3 2) v2 1) (V_X7_faultless_r1 Ln I (SA_X4_write_r3 Ln I A v2 v3) 1) 
    · try simp only [if_neg q10]
      refine B_X7_put_r1_c0_40 Ln I A v2 v3 (V_X4_faultOfCells_r3 Ln I A (I 3 2) v2 1)  (M_X7_faulted_r1 Ln I A (V_X4_faultOfCells_r3 Ln I A (I 3 2) v2 1) ) rfl ?_
      exact B_X7_put_r1_c0_46_s1 Ln (SI_X7_faulted_r1 Ln I A (V_X4_faultOfCells_r3 Ln I A (I 3 2) v2 1)) A v2 v3 (V_X4_faultOfCells_r3 Ln I A (I 3 2) v2 1) (V_X7_faulted_r1 Ln I A (V_X4_faultOfCells_r3 Ln I A (I 3 2) v2 1)) 
  · try simp only [if_neg q4]
    refine B_X7_put_r1_c0_7 Ln I A v2 v3  (M_X7_faultless_r1 Ln I A (-1) ) rfl ?_
    exact B_X7_put_r1_c0_12_s1 Ln (SI_X7_faultless_r1 Ln I A (-1)) A v2 v3 (V_X7_faultless_r1 Ln I A (-1)) 
def V_X7_put_r1_c1 (Ln : Nat) (I A : Nat → Nat → Int32) (v2 : Int32) (v3 : Int32) : Int32 := if (V_X7_isSheet Ln I A 1) ≠ 0 then (if (V_X4_faultOfCells_r5 Ln I A (I 5 2) v2 1) = 0 then (V_X7_faultless_r1 Ln I (SA_X4_write_r5 Ln I A v2 v3) 1) else (V_X7_faulted_r1 Ln I A (V_X4_faultOfCells_r5 Ln I A (I 5 2) v2 1))) else (V_X7_faultless_r1 Ln I A (-1))
def SI_X7_put_r1_c1 (Ln : Nat) (I A : Nat → Nat → Int32) (v2 : Int32) (v3 : Int32) : Nat → Nat → Int32 := if (V_X7_isSheet Ln I A 1) ≠ 0 then (if (V_X4_faultOfCells_r5 Ln I A (I 5 2) v2 1) = 0 then (SI_X7_faultless_r1 Ln I (SA_X4_write_r5 Ln I A v2 v3) 1) else (SI_X7_faulted_r1 Ln I A (V_X4_faultOfCells_r5 Ln I A (I 5 2) v2 1))) else (SI_X7_faultless_r1 Ln I A (-1))
def SA_X7_put_r1_c1 (Ln : Nat) (I A : Nat → Nat → Int32) (v2 : Int32) (v3 : Int32) : Nat → Nat → Int32 := if (V_X7_isSheet Ln I A 1) ≠ 0 then (if (V_X4_faultOfCells_r5 Ln I A (I 5 2) v2 1) = 0 then (SA_X4_write_r5 Ln I A v2 v3) else A) else A
def P_X7_put_r1_c1 (Ln : Nat) (I A : Nat → Nat → Int32) (v2 : Int32) (v3 : Int32) : Prop := ((V_X7_isSheet Ln I A 1) ≠ 0 → (((V_X4_faultOfCells_r5 Ln I A (I 5 2) v2 1) = 0 → (P_X4_write_r5 Ln I A v2 v3)) ∧ (¬ ((V_X4_faultOfCells_r5 Ln I A (I 5 2) v2 1) = 0) → True))) ∧ (¬ ((V_X7_isSheet Ln I A 1) ≠ 0) → True)
set_option maxRecDepth 100000 in
theorem M_X7_put_r1_c1 (Ln : Nat) (I A : Nat → Nat → Int32) (v2 : Int32) (v3 : Int32) (h : P_X7_put_r1_c1 Ln I A v2 v3) : zEv 68 0 0 0 [some (.ref 1), some (.int 1), some (.int v2), some (.int v3), none] [] (zGs Ln I A) (some (.int (V_X7_put_r1_c1 Ln I A v2 v3)), zGs Ln (SI_X7_put_r1_c1 Ln I A v2 v3) (SA_X7_put_r1_c1 Ln I A v2 v3)) := by
  unfold P_X7_put_r1_c1 at h
  unfold V_X7_put_r1_c1 SI_X7_put_r1_c1 SA_X7_put_r1_c1
  refine B_X7_put_r1_c1_0 Ln I A v2 v3  (M_X7_isSheet Ln I A 1 ) rfl ?_
  refine B_X7_put_r1_c1_4_s1 Ln I A v2 v3 (V_X7_isSheet Ln I A 1)  (fun q4 => ?_) (fun q4 => ?_)
  · try simp only [if_pos q4]
    have h5 := h.1 q4
    refine B_X7_put_r1_c1_13 Ln I A v2 v3  (M_X4_faultOfCells_r5 Ln I A (I 5 2) v2 1 ) rfl ?_
    refine B_X7_put_r1_c1_33_s1 Ln I A v2 v3 (V_X4_faultOfCells_r5 Ln I A (I 5 2) v2 1)  (fun q10 => ?_) (fun q10 => ?_)
    · try simp only [if_pos q10]
      have h11 := h5.1 q10
      refine B_X7_put_r1_c1_47 Ln I A v2 v3 (V_X4_faultOfCells_r5 Ln I A (I 5 2) v2 1)  (M_X4_write_r5 Ln I A v2 v3 h11) rfl ?_
      refine B_X7_put_r1_c1_58 Ln I (SA_X4_write_r5 Ln I A v2 v3) v2 v3 (V_X4_faultOfCells_r5 Ln I A (I 5 2) v2 1)  (M_X7_faultless_r1 Ln I (SA_X4_write_r5 Ln I A v2 v3) 1 ) rfl ?_
      exact B_X7_put_r1_c1_63_s1 Ln (SI_X7_faultless_r1 Ln I (SA_X4_write_r5 Ln I A v2 v3) 1) (SA_X4_write_r5 Ln I A v2 v3) v2 v3 (V_X4_faultOfCells_r5 Ln I A (I 5 2) v2 1) (V_X7_faultless_r1 Ln I (SA_X4_write_r5 Ln I A v2 v3) 1) 
    · try simp only [if_neg q10]
      refine B_X7_put_r1_c1_40 Ln I A v2 v3 (V_X4_faultOfCells_r5 Ln I A (I 5 2) v2 1)  (M_X7_faulted_r1 Ln I A (V_X4_faultOfCells_r5 Ln I A (I 5 2) v2 1) ) rfl ?_
      exact B_X7_put_r1_c1_46_s1 Ln (SI_X7_faulted_r1 Ln I A (V_X4_faultOfCells_r5 Ln I A (I 5 2) v2 1)) A v2 v3 (V_X4_faultOfCells_r5 Ln I A (I 5 2) v2 1) (V_X7_faulted_r1 Ln I A (V_X4_faultOfCells_r5 Ln I A (I 5 2) v2 1)) 
  · try simp only [if_neg q4]
    refine B_X7_put_r1_c1_7 Ln I A v2 v3  (M_X7_faultless_r1 Ln I A (-1) ) rfl ?_
    exact B_X7_put_r1_c1_12_s1 Ln (SI_X7_faultless_r1 Ln I A (-1)) A v2 v3 (V_X7_faultless_r1 Ln I A (-1)) 
def V_X7_put_r1_c2 (Ln : Nat) (I A : Nat → Nat → Int32) (v2 : Int32) (v3 : Int32) : Int32 := if (V_X7_isSheet Ln I A 2) ≠ 0 then (if (V_X4_faultOfCells_r7 Ln I A (I 7 2) v2 1) = 0 then (V_X7_faultless_r1 Ln I (SA_X4_write_r7 Ln I A v2 v3) 1) else (V_X7_faulted_r1 Ln I A (V_X4_faultOfCells_r7 Ln I A (I 7 2) v2 1))) else (V_X7_faultless_r1 Ln I A (-1))
def SI_X7_put_r1_c2 (Ln : Nat) (I A : Nat → Nat → Int32) (v2 : Int32) (v3 : Int32) : Nat → Nat → Int32 := if (V_X7_isSheet Ln I A 2) ≠ 0 then (if (V_X4_faultOfCells_r7 Ln I A (I 7 2) v2 1) = 0 then (SI_X7_faultless_r1 Ln I (SA_X4_write_r7 Ln I A v2 v3) 1) else (SI_X7_faulted_r1 Ln I A (V_X4_faultOfCells_r7 Ln I A (I 7 2) v2 1))) else (SI_X7_faultless_r1 Ln I A (-1))
def SA_X7_put_r1_c2 (Ln : Nat) (I A : Nat → Nat → Int32) (v2 : Int32) (v3 : Int32) : Nat → Nat → Int32 := if (V_X7_isSheet Ln I A 2) ≠ 0 then (if (V_X4_faultOfCells_r7 Ln I A (I 7 2) v2 1) = 0 then (SA_X4_write_r7 Ln I A v2 v3) else A) else A
def P_X7_put_r1_c2 (Ln : Nat) (I A : Nat → Nat → Int32) (v2 : Int32) (v3 : Int32) : Prop := ((V_X7_isSheet Ln I A 2) ≠ 0 → (((V_X4_faultOfCells_r7 Ln I A (I 7 2) v2 1) = 0 → (P_X4_write_r7 Ln I A v2 v3)) ∧ (¬ ((V_X4_faultOfCells_r7 Ln I A (I 7 2) v2 1) = 0) → True))) ∧ (¬ ((V_X7_isSheet Ln I A 2) ≠ 0) → True)
set_option maxRecDepth 100000 in
theorem M_X7_put_r1_c2 (Ln : Nat) (I A : Nat → Nat → Int32) (v2 : Int32) (v3 : Int32) (h : P_X7_put_r1_c2 Ln I A v2 v3) : zEv 68 0 0 0 [some (.ref 1), some (.int 2), some (.int v2), some (.int v3), none] [] (zGs Ln I A) (some (.int (V_X7_put_r1_c2 Ln I A v2 v3)), zGs Ln (SI_X7_put_r1_c2 Ln I A v2 v3) (SA_X7_put_r1_c2 Ln I A v2 v3)) := by
  unfold P_X7_put_r1_c2 at h
  unfold V_X7_put_r1_c2 SI_X7_put_r1_c2 SA_X7_put_r1_c2
  refine B_X7_put_r1_c2_0 Ln I A v2 v3  (M_X7_isSheet Ln I A 2 ) rfl ?_
  refine B_X7_put_r1_c2_4_s1 Ln I A v2 v3 (V_X7_isSheet Ln I A 2)  (fun q4 => ?_) (fun q4 => ?_)
  · try simp only [if_pos q4]
    have h5 := h.1 q4
    refine B_X7_put_r1_c2_13 Ln I A v2 v3  (M_X4_faultOfCells_r7 Ln I A (I 7 2) v2 1 ) rfl ?_
    refine B_X7_put_r1_c2_33_s1 Ln I A v2 v3 (V_X4_faultOfCells_r7 Ln I A (I 7 2) v2 1)  (fun q10 => ?_) (fun q10 => ?_)
    · try simp only [if_pos q10]
      have h11 := h5.1 q10
      refine B_X7_put_r1_c2_47 Ln I A v2 v3 (V_X4_faultOfCells_r7 Ln I A (I 7 2) v2 1)  (M_X4_write_r7 Ln I A v2 v3 h11) rfl ?_
      refine B_X7_put_r1_c2_58 Ln I (SA_X4_write_r7 Ln I A v2 v3) v2 v3 (V_X4_faultOfCells_r7 Ln I A (I 7 2) v2 1)  (M_X7_faultless_r1 Ln I (SA_X4_write_r7 Ln I A v2 v3) 1 ) rfl ?_
      exact B_X7_put_r1_c2_63_s1 Ln (SI_X7_faultless_r1 Ln I (SA_X4_write_r7 Ln I A v2 v3) 1) (SA_X4_write_r7 Ln I A v2 v3) v2 v3 (V_X4_faultOfCells_r7 Ln I A (I 7 2) v2 1) (V_X7_faultless_r1 Ln I (SA_X4_write_r7 Ln I A v2 v3) 1) 
    · try simp only [if_neg q10]
      refine B_X7_put_r1_c2_40 Ln I A v2 v3 (V_X4_faultOfCells_r7 Ln I A (I 7 2) v2 1)  (M_X7_faulted_r1 Ln I A (V_X4_faultOfCells_r7 Ln I A (I 7 2) v2 1) ) rfl ?_
      exact B_X7_put_r1_c2_46_s1 Ln (SI_X7_faulted_r1 Ln I A (V_X4_faultOfCells_r7 Ln I A (I 7 2) v2 1)) A v2 v3 (V_X4_faultOfCells_r7 Ln I A (I 7 2) v2 1) (V_X7_faulted_r1 Ln I A (V_X4_faultOfCells_r7 Ln I A (I 7 2) v2 1)) 
  · try simp only [if_neg q4]
    refine B_X7_put_r1_c2_7 Ln I A v2 v3  (M_X7_faultless_r1 Ln I A (-1) ) rfl ?_
    exact B_X7_put_r1_c2_12_s1 Ln (SI_X7_faultless_r1 Ln I A (-1)) A v2 v3 (V_X7_faultless_r1 Ln I A (-1)) 
def V_X7_put_r1_c3 (Ln : Nat) (I A : Nat → Nat → Int32) (v2 : Int32) (v3 : Int32) : Int32 := if (V_X7_isSheet Ln I A 3) ≠ 0 then (if (V_X4_faultOfCells_r9 Ln I A (I 9 2) v2 1) = 0 then (V_X7_faultless_r1 Ln I (SA_X4_write_r9 Ln I A v2 v3) 1) else (V_X7_faulted_r1 Ln I A (V_X4_faultOfCells_r9 Ln I A (I 9 2) v2 1))) else (V_X7_faultless_r1 Ln I A (-1))
def SI_X7_put_r1_c3 (Ln : Nat) (I A : Nat → Nat → Int32) (v2 : Int32) (v3 : Int32) : Nat → Nat → Int32 := if (V_X7_isSheet Ln I A 3) ≠ 0 then (if (V_X4_faultOfCells_r9 Ln I A (I 9 2) v2 1) = 0 then (SI_X7_faultless_r1 Ln I (SA_X4_write_r9 Ln I A v2 v3) 1) else (SI_X7_faulted_r1 Ln I A (V_X4_faultOfCells_r9 Ln I A (I 9 2) v2 1))) else (SI_X7_faultless_r1 Ln I A (-1))
def SA_X7_put_r1_c3 (Ln : Nat) (I A : Nat → Nat → Int32) (v2 : Int32) (v3 : Int32) : Nat → Nat → Int32 := if (V_X7_isSheet Ln I A 3) ≠ 0 then (if (V_X4_faultOfCells_r9 Ln I A (I 9 2) v2 1) = 0 then (SA_X4_write_r9 Ln I A v2 v3) else A) else A
def P_X7_put_r1_c3 (Ln : Nat) (I A : Nat → Nat → Int32) (v2 : Int32) (v3 : Int32) : Prop := ((V_X7_isSheet Ln I A 3) ≠ 0 → (((V_X4_faultOfCells_r9 Ln I A (I 9 2) v2 1) = 0 → (P_X4_write_r9 Ln I A v2 v3)) ∧ (¬ ((V_X4_faultOfCells_r9 Ln I A (I 9 2) v2 1) = 0) → True))) ∧ (¬ ((V_X7_isSheet Ln I A 3) ≠ 0) → True)
set_option maxRecDepth 100000 in
theorem M_X7_put_r1_c3 (Ln : Nat) (I A : Nat → Nat → Int32) (v2 : Int32) (v3 : Int32) (h : P_X7_put_r1_c3 Ln I A v2 v3) : zEv 68 0 0 0 [some (.ref 1), some (.int 3), some (.int v2), some (.int v3), none] [] (zGs Ln I A) (some (.int (V_X7_put_r1_c3 Ln I A v2 v3)), zGs Ln (SI_X7_put_r1_c3 Ln I A v2 v3) (SA_X7_put_r1_c3 Ln I A v2 v3)) := by
  unfold P_X7_put_r1_c3 at h
  unfold V_X7_put_r1_c3 SI_X7_put_r1_c3 SA_X7_put_r1_c3
  refine B_X7_put_r1_c3_0 Ln I A v2 v3  (M_X7_isSheet Ln I A 3 ) rfl ?_
  refine B_X7_put_r1_c3_4_s1 Ln I A v2 v3 (V_X7_isSheet Ln I A 3)  (fun q4 => ?_) (fun q4 => ?_)
  · try simp only [if_pos q4]
    have h5 := h.1 q4
    refine B_X7_put_r1_c3_13 Ln I A v2 v3  (M_X4_faultOfCells_r9 Ln I A (I 9 2) v2 1 ) rfl ?_
    refine B_X7_put_r1_c3_33_s1 Ln I A v2 v3 (V_X4_faultOfCells_r9 Ln I A (I 9 2) v2 1)  (fun q10 => ?_) (fun q10 => ?_)
    · try simp only [if_pos q10]
      have h11 := h5.1 q10
      refine B_X7_put_r1_c3_47 Ln I A v2 v3 (V_X4_faultOfCells_r9 Ln I A (I 9 2) v2 1)  (M_X4_write_r9 Ln I A v2 v3 h11) rfl ?_
      refine B_X7_put_r1_c3_58 Ln I (SA_X4_write_r9 Ln I A v2 v3) v2 v3 (V_X4_faultOfCells_r9 Ln I A (I 9 2) v2 1)  (M_X7_faultless_r1 Ln I (SA_X4_write_r9 Ln I A v2 v3) 1 ) rfl ?_
      exact B_X7_put_r1_c3_63_s1 Ln (SI_X7_faultless_r1 Ln I (SA_X4_write_r9 Ln I A v2 v3) 1) (SA_X4_write_r9 Ln I A v2 v3) v2 v3 (V_X4_faultOfCells_r9 Ln I A (I 9 2) v2 1) (V_X7_faultless_r1 Ln I (SA_X4_write_r9 Ln I A v2 v3) 1) 
    · try simp only [if_neg q10]
      refine B_X7_put_r1_c3_40 Ln I A v2 v3 (V_X4_faultOfCells_r9 Ln I A (I 9 2) v2 1)  (M_X7_faulted_r1 Ln I A (V_X4_faultOfCells_r9 Ln I A (I 9 2) v2 1) ) rfl ?_
      exact B_X7_put_r1_c3_46_s1 Ln (SI_X7_faulted_r1 Ln I A (V_X4_faultOfCells_r9 Ln I A (I 9 2) v2 1)) A v2 v3 (V_X4_faultOfCells_r9 Ln I A (I 9 2) v2 1) (V_X7_faulted_r1 Ln I A (V_X4_faultOfCells_r9 Ln I A (I 9 2) v2 1)) 
  · try simp only [if_neg q4]
    refine B_X7_put_r1_c3_7 Ln I A v2 v3  (M_X7_faultless_r1 Ln I A (-1) ) rfl ?_
    exact B_X7_put_r1_c3_12_s1 Ln (SI_X7_faultless_r1 Ln I A (-1)) A v2 v3 (V_X7_faultless_r1 Ln I A (-1)) 
def V_X7_cell_r1_c0 (Ln : Nat) (I A : Nat → Nat → Int32) (v2 : Int32) (v3 : Int32) : Int64 := if (V_X7_isSheet Ln (zp I 1 11 0) A 0) = 0 then (-9223372036854775808) else (if (V_X7_isLane Ln (zp I 1 11 0) A v3) ≠ 0 then (if (V_X4_faultOfCells_r3 Ln (zp I 1 11 0) A v3 v2 1) ≠ 0 then (-9223372036854775808) else (Int32.toInt64 (A 4 (v2).toNatClampNeg))) else (-9223372036854775808))
def SI_X7_cell_r1_c0 (Ln : Nat) (I A : Nat → Nat → Int32) (v2 : Int32) (v3 : Int32) : Nat → Nat → Int32 := if (V_X7_isSheet Ln (zp I 1 11 0) A 0) = 0 then (zp I 1 11 0) else (if (V_X7_isLane Ln (zp I 1 11 0) A v3) ≠ 0 then (if (V_X4_faultOfCells_r3 Ln (zp I 1 11 0) A v3 v2 1) ≠ 0 then (zp (zp I 1 11 0) 1 11 (V_X4_faultOfCells_r3 Ln (zp I 1 11 0) A v3 v2 1)) else (zp (zp I 1 11 0) 1 11 (V_X4_faultOfCells_r3 Ln (zp I 1 11 0) A v3 v2 1))) else (zp I 1 11 0))
def P_X7_cell_r1_c0 (Ln : Nat) (I A : Nat → Nat → Int32) (v2 : Int32) (v3 : Int32) : Prop := ((V_X7_isSheet Ln (zp I 1 11 0) A 0) = 0 → True) ∧ (¬ ((V_X7_isSheet Ln (zp I 1 11 0) A 0) = 0) → (((V_X7_isLane Ln (zp I 1 11 0) A v3) ≠ 0 → (((V_X4_faultOfCells_r3 Ln (zp I 1 11 0) A v3 v2 1) ≠ 0 → True) ∧ (¬ ((V_X4_faultOfCells_r3 Ln (zp I 1 11 0) A v3 v2 1) ≠ 0) → (zin v2 60 = true)))) ∧ (¬ ((V_X7_isLane Ln (zp I 1 11 0) A v3) ≠ 0) → True)))
set_option maxRecDepth 100000 in
theorem M_X7_cell_r1_c0 (Ln : Nat) (I A : Nat → Nat → Int32) (v2 : Int32) (v3 : Int32) (h : P_X7_cell_r1_c0 Ln I A v2 v3) : zEv 69 0 0 0 [some (.ref 1), some (.int 0), some (.int v2), some (.int v3)] [] (zGs Ln I A) (some (.long (V_X7_cell_r1_c0 Ln I A v2 v3)), zGs Ln (SI_X7_cell_r1_c0 Ln I A v2 v3) (A)) := by
  unfold P_X7_cell_r1_c0 at h
  unfold V_X7_cell_r1_c0 SI_X7_cell_r1_c0
  refine B_X7_cell_r1_c0_0 Ln I A v2 v3  (M_X7_isSheet Ln (zp I 1 11 0) A 0 ) rfl ?_
  refine B_X7_cell_r1_c0_9_s1 Ln (zp I 1 11 0) A v2 v3 (V_X7_isSheet Ln (zp I 1 11 0) A 0)  (fun q4 => ?_) (fun q4 => ?_)
  · try simp only [if_pos q4]
    exact B_X7_cell_r1_c0_19 Ln (zp I 1 11 0) A v2 v3 
  · try simp only [if_neg q4]
    have h5 := h.2 q4
    refine B_X7_cell_r1_c0_12 Ln (zp I 1 11 0) A v2 v3  (M_X7_isLane Ln (zp I 1 11 0) A v3 ) rfl ?_
    refine B_X7_cell_r1_c0_16_s1 Ln (zp I 1 11 0) A v2 v3 (V_X7_isLane Ln (zp I 1 11 0) A v3)  (fun q10 => ?_) (fun q10 => ?_)
    · try simp only [if_pos q10]
      have h11 := h5.1 q10
      refine B_X7_cell_r1_c0_23 Ln (zp I 1 11 0) A v2 v3  (M_X4_faultOfCells_r3 Ln (zp I 1 11 0) A v3 v2 1 ) rfl ?_
      refine B_X7_cell_r1_c0_36_s2 Ln (zp I 1 11 0) A v2 v3 (V_X4_faultOfCells_r3 Ln (zp I 1 11 0) A v3 v2 1)  (fun q16 => ?_) (fun q16 => ?_)
      · try simp only [if_pos q16]
        refine B_X7_cell_r1_c0_61 Ln (zp (zp I 1 11 0) 1 11 (V_X4_faultOfCells_r3 Ln (zp I 1 11 0) A v3 v2 1)) A v2 v3  ?_
        exact B_X7_cell_r1_c0_64_s1 Ln (zp (zp I 1 11 0) 1 11 (V_X4_faultOfCells_r3 Ln (zp I 1 11 0) A v3 v2 1)) A v2 v3 (-9223372036854775808) 
      · try simp only [if_neg q16]
        have h17 := h11.2 q16
        refine B_X7_cell_r1_c0_46 Ln (zp (zp I 1 11 0) 1 11 (V_X4_faultOfCells_r3 Ln (zp I 1 11 0) A v3 v2 1)) A v2 v3 h17 ?_
        exact B_X7_cell_r1_c0_64_s1 Ln (zp (zp I 1 11 0) 1 11 (V_X4_faultOfCells_r3 Ln (zp I 1 11 0) A v3 v2 1)) A v2 v3 (Int32.toInt64 (A 4 (v2).toNatClampNeg)) 
    · try simp only [if_neg q10]
      exact B_X7_cell_r1_c0_19 Ln (zp I 1 11 0) A v2 v3 
def V_X7_cell_r1_c1 (Ln : Nat) (I A : Nat → Nat → Int32) (v2 : Int32) (v3 : Int32) : Int64 := if (V_X7_isSheet Ln (zp I 1 11 0) A 1) = 0 then (-9223372036854775808) else (if (V_X7_isLane Ln (zp I 1 11 0) A v3) ≠ 0 then (if (V_X4_faultOfCells_r5 Ln (zp I 1 11 0) A v3 v2 1) ≠ 0 then (-9223372036854775808) else (Int32.toInt64 (A 6 (v2).toNatClampNeg))) else (-9223372036854775808))
def SI_X7_cell_r1_c1 (Ln : Nat) (I A : Nat → Nat → Int32) (v2 : Int32) (v3 : Int32) : Nat → Nat → Int32 := if (V_X7_isSheet Ln (zp I 1 11 0) A 1) = 0 then (zp I 1 11 0) else (if (V_X7_isLane Ln (zp I 1 11 0) A v3) ≠ 0 then (if (V_X4_faultOfCells_r5 Ln (zp I 1 11 0) A v3 v2 1) ≠ 0 then (zp (zp I 1 11 0) 1 11 (V_X4_faultOfCells_r5 Ln (zp I 1 11 0) A v3 v2 1)) else (zp (zp I 1 11 0) 1 11 (V_X4_faultOfCells_r5 Ln (zp I 1 11 0) A v3 v2 1))) else (zp I 1 11 0))
def P_X7_cell_r1_c1 (Ln : Nat) (I A : Nat → Nat → Int32) (v2 : Int32) (v3 : Int32) : Prop := ((V_X7_isSheet Ln (zp I 1 11 0) A 1) = 0 → True) ∧ (¬ ((V_X7_isSheet Ln (zp I 1 11 0) A 1) = 0) → (((V_X7_isLane Ln (zp I 1 11 0) A v3) ≠ 0 → (((V_X4_faultOfCells_r5 Ln (zp I 1 11 0) A v3 v2 1) ≠ 0 → True) ∧ (¬ ((V_X4_faultOfCells_r5 Ln (zp I 1 11 0) A v3 v2 1) ≠ 0) → (zin v2 60 = true)))) ∧ (¬ ((V_X7_isLane Ln (zp I 1 11 0) A v3) ≠ 0) → True)))
set_option maxRecDepth 100000 in
theorem M_X7_cell_r1_c1 (Ln : Nat) (I A : Nat → Nat → Int32) (v2 : Int32) (v3 : Int32) (h : P_X7_cell_r1_c1 Ln I A v2 v3) : zEv 69 0 0 0 [some (.ref 1), some (.int 1), some (.int v2), some (.int v3)] [] (zGs Ln I A) (some (.long (V_X7_cell_r1_c1 Ln I A v2 v3)), zGs Ln (SI_X7_cell_r1_c1 Ln I A v2 v3) (A)) := by
  unfold P_X7_cell_r1_c1 at h
  unfold V_X7_cell_r1_c1 SI_X7_cell_r1_c1
  refine B_X7_cell_r1_c1_0 Ln I A v2 v3  (M_X7_isSheet Ln (zp I 1 11 0) A 1 ) rfl ?_
  refine B_X7_cell_r1_c1_9_s1 Ln (zp I 1 11 0) A v2 v3 (V_X7_isSheet Ln (zp I 1 11 0) A 1)  (fun q4 => ?_) (fun q4 => ?_)
  · try simp only [if_pos q4]
    exact B_X7_cell_r1_c1_19 Ln (zp I 1 11 0) A v2 v3 
  · try simp only [if_neg q4]
    have h5 := h.2 q4
    refine B_X7_cell_r1_c1_12 Ln (zp I 1 11 0) A v2 v3  (M_X7_isLane Ln (zp I 1 11 0) A v3 ) rfl ?_
    refine B_X7_cell_r1_c1_16_s1 Ln (zp I 1 11 0) A v2 v3 (V_X7_isLane Ln (zp I 1 11 0) A v3)  (fun q10 => ?_) (fun q10 => ?_)
    · try simp only [if_pos q10]
      have h11 := h5.1 q10
      refine B_X7_cell_r1_c1_23 Ln (zp I 1 11 0) A v2 v3  (M_X4_faultOfCells_r5 Ln (zp I 1 11 0) A v3 v2 1 ) rfl ?_
      refine B_X7_cell_r1_c1_36_s2 Ln (zp I 1 11 0) A v2 v3 (V_X4_faultOfCells_r5 Ln (zp I 1 11 0) A v3 v2 1)  (fun q16 => ?_) (fun q16 => ?_)
      · try simp only [if_pos q16]
        refine B_X7_cell_r1_c1_61 Ln (zp (zp I 1 11 0) 1 11 (V_X4_faultOfCells_r5 Ln (zp I 1 11 0) A v3 v2 1)) A v2 v3  ?_
        exact B_X7_cell_r1_c1_64_s1 Ln (zp (zp I 1 11 0) 1 11 (V_X4_faultOfCells_r5 Ln (zp I 1 11 0) A v3 v2 1)) A v2 v3 (-9223372036854775808) 
      · try simp only [if_neg q16]
        have h17 := h11.2 q16
        refine B_X7_cell_r1_c1_46 Ln (zp (zp I 1 11 0) 1 11 (V_X4_faultOfCells_r5 Ln (zp I 1 11 0) A v3 v2 1)) A v2 v3 h17 ?_
        exact B_X7_cell_r1_c1_64_s1 Ln (zp (zp I 1 11 0) 1 11 (V_X4_faultOfCells_r5 Ln (zp I 1 11 0) A v3 v2 1)) A v2 v3 (Int32.toInt64 (A 6 (v2).toNatClampNeg)) 
    · try simp only [if_neg q10]
      exact B_X7_cell_r1_c1_19 Ln (zp I 1 11 0) A v2 v3 
def V_X7_cell_r1_c2 (Ln : Nat) (I A : Nat → Nat → Int32) (v2 : Int32) (v3 : Int32) : Int64 := if (V_X7_isSheet Ln (zp I 1 11 0) A 2) = 0 then (-9223372036854775808) else (if (V_X7_isLane Ln (zp I 1 11 0) A v3) ≠ 0 then (if (V_X4_faultOfCells_r7 Ln (zp I 1 11 0) A v3 v2 1) ≠ 0 then (-9223372036854775808) else (Int32.toInt64 (A 8 (v2).toNatClampNeg))) else (-9223372036854775808))
def SI_X7_cell_r1_c2 (Ln : Nat) (I A : Nat → Nat → Int32) (v2 : Int32) (v3 : Int32) : Nat → Nat → Int32 := if (V_X7_isSheet Ln (zp I 1 11 0) A 2) = 0 then (zp I 1 11 0) else (if (V_X7_isLane Ln (zp I 1 11 0) A v3) ≠ 0 then (if (V_X4_faultOfCells_r7 Ln (zp I 1 11 0) A v3 v2 1) ≠ 0 then (zp (zp I 1 11 0) 1 11 (V_X4_faultOfCells_r7 Ln (zp I 1 11 0) A v3 v2 1)) else (zp (zp I 1 11 0) 1 11 (V_X4_faultOfCells_r7 Ln (zp I 1 11 0) A v3 v2 1))) else (zp I 1 11 0))
def P_X7_cell_r1_c2 (Ln : Nat) (I A : Nat → Nat → Int32) (v2 : Int32) (v3 : Int32) : Prop := ((V_X7_isSheet Ln (zp I 1 11 0) A 2) = 0 → True) ∧ (¬ ((V_X7_isSheet Ln (zp I 1 11 0) A 2) = 0) → (((V_X7_isLane Ln (zp I 1 11 0) A v3) ≠ 0 → (((V_X4_faultOfCells_r7 Ln (zp I 1 11 0) A v3 v2 1) ≠ 0 → True) ∧ (¬ ((V_X4_faultOfCells_r7 Ln (zp I 1 11 0) A v3 v2 1) ≠ 0) → (zin v2 60 = true)))) ∧ (¬ ((V_X7_isLane Ln (zp I 1 11 0) A v3) ≠ 0) → True)))
set_option maxRecDepth 100000 in
theorem M_X7_cell_r1_c2 (Ln : Nat) (I A : Nat → Nat → Int32) (v2 : Int32) (v3 : Int32) (h : P_X7_cell_r1_c2 Ln I A v2 v3) : zEv 69 0 0 0 [some (.ref 1), some (.int 2), some (.int v2), some (.int v3)] [] (zGs Ln I A) (some (.long (V_X7_cell_r1_c2 Ln I A v2 v3)), zGs Ln (SI_X7_cell_r1_c2 Ln I A v2 v3) (A)) := by
  unfold P_X7_cell_r1_c2 at h
  unfold V_X7_cell_r1_c2 SI_X7_cell_r1_c2
  refine B_X7_cell_r1_c2_0 Ln I A v2 v3  (M_X7_isSheet Ln (zp I 1 11 0) A 2 ) rfl ?_
  refine B_X7_cell_r1_c2_9_s1 Ln (zp I 1 11 0) A v2 v3 (V_X7_isSheet Ln (zp I 1 11 0) A 2)  (fun q4 => ?_) (fun q4 => ?_)
  · try simp only [if_pos q4]
    exact B_X7_cell_r1_c2_19 Ln (zp I 1 11 0) A v2 v3 
  · try simp only [if_neg q4]
    have h5 := h.2 q4
    refine B_X7_cell_r1_c2_12 Ln (zp I 1 11 0) A v2 v3  (M_X7_isLane Ln (zp I 1 11 0) A v3 ) rfl ?_
    refine B_X7_cell_r1_c2_16_s1 Ln (zp I 1 11 0) A v2 v3 (V_X7_isLane Ln (zp I 1 11 0) A v3)  (fun q10 => ?_) (fun q10 => ?_)
    · try simp only [if_pos q10]
      have h11 := h5.1 q10
      refine B_X7_cell_r1_c2_23 Ln (zp I 1 11 0) A v2 v3  (M_X4_faultOfCells_r7 Ln (zp I 1 11 0) A v3 v2 1 ) rfl ?_
      refine B_X7_cell_r1_c2_36_s2 Ln (zp I 1 11 0) A v2 v3 (V_X4_faultOfCells_r7 Ln (zp I 1 11 0) A v3 v2 1)  (fun q16 => ?_) (fun q16 => ?_)
      · try simp only [if_pos q16]
        refine B_X7_cell_r1_c2_61 Ln (zp (zp I 1 11 0) 1 11 (V_X4_faultOfCells_r7 Ln (zp I 1 11 0) A v3 v2 1)) A v2 v3  ?_
        exact B_X7_cell_r1_c2_64_s1 Ln (zp (zp I 1 11 0) 1 11 (V_X4_faultOfCells_r7 Ln (zp I 1 11 0) A v3 v2 1)) A v2 v3 (-9223372036854775808) 
      · try simp only [if_neg q16]
        have h17 := h11.2 q16
        refine B_X7_cell_r1_c2_46 Ln (zp (zp I 1 11 0) 1 11 (V_X4_faultOfCells_r7 Ln (zp I 1 11 0) A v3 v2 1)) A v2 v3 h17 ?_
        exact B_X7_cell_r1_c2_64_s1 Ln (zp (zp I 1 11 0) 1 11 (V_X4_faultOfCells_r7 Ln (zp I 1 11 0) A v3 v2 1)) A v2 v3 (Int32.toInt64 (A 8 (v2).toNatClampNeg)) 
    · try simp only [if_neg q10]
      exact B_X7_cell_r1_c2_19 Ln (zp I 1 11 0) A v2 v3 
def V_X7_cell_r1_c3 (Ln : Nat) (I A : Nat → Nat → Int32) (v2 : Int32) (v3 : Int32) : Int64 := if (V_X7_isSheet Ln (zp I 1 11 0) A 3) = 0 then (-9223372036854775808) else (if (V_X7_isLane Ln (zp I 1 11 0) A v3) ≠ 0 then (if (V_X4_faultOfCells_r9 Ln (zp I 1 11 0) A v3 v2 1) ≠ 0 then (-9223372036854775808) else (Int32.toInt64 (A 10 (v2).toNatClampNeg))) else (-9223372036854775808))
def SI_X7_cell_r1_c3 (Ln : Nat) (I A : Nat → Nat → Int32) (v2 : Int32) (v3 : Int32) : Nat → Nat → Int32 := if (V_X7_isSheet Ln (zp I 1 11 0) A 3) = 0 then (zp I 1 11 0) else (if (V_X7_isLane Ln (zp I 1 11 0) A v3) ≠ 0 then (if (V_X4_faultOfCells_r9 Ln (zp I 1 11 0) A v3 v2 1) ≠ 0 then (zp (zp I 1 11 0) 1 11 (V_X4_faultOfCells_r9 Ln (zp I 1 11 0) A v3 v2 1)) else (zp (zp I 1 11 0) 1 11 (V_X4_faultOfCells_r9 Ln (zp I 1 11 0) A v3 v2 1))) else (zp I 1 11 0))
def P_X7_cell_r1_c3 (Ln : Nat) (I A : Nat → Nat → Int32) (v2 : Int32) (v3 : Int32) : Prop := ((V_X7_isSheet Ln (zp I 1 11 0) A 3) = 0 → True) ∧ (¬ ((V_X7_isSheet Ln (zp I 1 11 0) A 3) = 0) → (((V_X7_isLane Ln (zp I 1 11 0) A v3) ≠ 0 → (((V_X4_faultOfCells_r9 Ln (zp I 1 11 0) A v3 v2 1) ≠ 0 → True) ∧ (¬ ((V_X4_faultOfCells_r9 Ln (zp I 1 11 0) A v3 v2 1) ≠ 0) → (zin v2 60 = true)))) ∧ (¬ ((V_X7_isLane Ln (zp I 1 11 0) A v3) ≠ 0) → True)))
set_option maxRecDepth 100000 in
theorem M_X7_cell_r1_c3 (Ln : Nat) (I A : Nat → Nat → Int32) (v2 : Int32) (v3 : Int32) (h : P_X7_cell_r1_c3 Ln I A v2 v3) : zEv 69 0 0 0 [some (.ref 1), some (.int 3), some (.int v2), some (.int v3)] [] (zGs Ln I A) (some (.long (V_X7_cell_r1_c3 Ln I A v2 v3)), zGs Ln (SI_X7_cell_r1_c3 Ln I A v2 v3) (A)) := by
  unfold P_X7_cell_r1_c3 at h
  unfold V_X7_cell_r1_c3 SI_X7_cell_r1_c3
  refine B_X7_cell_r1_c3_0 Ln I A v2 v3  (M_X7_isSheet Ln (zp I 1 11 0) A 3 ) rfl ?_
  refine B_X7_cell_r1_c3_9_s1 Ln (zp I 1 11 0) A v2 v3 (V_X7_isSheet Ln (zp I 1 11 0) A 3)  (fun q4 => ?_) (fun q4 => ?_)
  · try simp only [if_pos q4]
    exact B_X7_cell_r1_c3_19 Ln (zp I 1 11 0) A v2 v3 
  · try simp only [if_neg q4]
    have h5 := h.2 q4
    refine B_X7_cell_r1_c3_12 Ln (zp I 1 11 0) A v2 v3  (M_X7_isLane Ln (zp I 1 11 0) A v3 ) rfl ?_
    refine B_X7_cell_r1_c3_16_s1 Ln (zp I 1 11 0) A v2 v3 (V_X7_isLane Ln (zp I 1 11 0) A v3)  (fun q10 => ?_) (fun q10 => ?_)
    · try simp only [if_pos q10]
      have h11 := h5.1 q10
      refine B_X7_cell_r1_c3_23 Ln (zp I 1 11 0) A v2 v3  (M_X4_faultOfCells_r9 Ln (zp I 1 11 0) A v3 v2 1 ) rfl ?_
      refine B_X7_cell_r1_c3_36_s2 Ln (zp I 1 11 0) A v2 v3 (V_X4_faultOfCells_r9 Ln (zp I 1 11 0) A v3 v2 1)  (fun q16 => ?_) (fun q16 => ?_)
      · try simp only [if_pos q16]
        refine B_X7_cell_r1_c3_61 Ln (zp (zp I 1 11 0) 1 11 (V_X4_faultOfCells_r9 Ln (zp I 1 11 0) A v3 v2 1)) A v2 v3  ?_
        exact B_X7_cell_r1_c3_64_s1 Ln (zp (zp I 1 11 0) 1 11 (V_X4_faultOfCells_r9 Ln (zp I 1 11 0) A v3 v2 1)) A v2 v3 (-9223372036854775808) 
      · try simp only [if_neg q16]
        have h17 := h11.2 q16
        refine B_X7_cell_r1_c3_46 Ln (zp (zp I 1 11 0) 1 11 (V_X4_faultOfCells_r9 Ln (zp I 1 11 0) A v3 v2 1)) A v2 v3 h17 ?_
        exact B_X7_cell_r1_c3_64_s1 Ln (zp (zp I 1 11 0) 1 11 (V_X4_faultOfCells_r9 Ln (zp I 1 11 0) A v3 v2 1)) A v2 v3 (Int32.toInt64 (A 10 (v2).toNatClampNeg)) 
    · try simp only [if_neg q10]
      exact B_X7_cell_r1_c3_19 Ln (zp I 1 11 0) A v2 v3 
def LA_X1_leastWaiting_r26_94 : Nat → (Ln : Nat) → (I A : Nat → Nat → Int32) → Int32 → Int32 → Int32 → Int32 → Int32
  | 0, Ln, I, A, v1, v2, v3, v4 => 0
  | m + 1, Ln, I, A, v1, v2, v3, v4 => if 64 ≤ v4 then v3 else (LA_X1_leastWaiting_r26_94 m Ln I A v1 v2 (if A 27 (v4).toNatClampNeg < v3 then A 27 (v4).toNatClampNeg else v3) (v4 + 1))
def PLA_X1_leastWaiting_r26_94 : Nat → (Ln : Nat) → (I A : Nat → Nat → Int32) → Int32 → Int32 → Int32 → Int32 → Prop
  | 0, Ln, I, A, v1, v2, v3, v4 => False
  | m + 1, Ln, I, A, v1, v2, v3, v4 => (64 ≤ v4 → True) ∧ (¬ (64 ≤ v4) → ((zin v4 64 = true) ∧ (PLA_X1_leastWaiting_r26_94 m Ln I A v1 v2 (if A 27 (v4).toNatClampNeg < v3 then A 27 (v4).toNatClampNeg else v3) (v4 + 1))))
set_option maxRecDepth 100000 in
theorem MLA_X1_leastWaiting_r26_94 (m Ln : Nat) : ∀ (I A : Nat → Nat → Int32) (v1 : Int32) (v2 : Int32) (v3 : Int32) (v4 : Int32), PLA_X1_leastWaiting_r26_94 m Ln I A v1 v2 v3 v4 → zEv 11 94 0 0 [some (.ref 26), some (.int v1), some (.int v2), some (.int v3), some (.int v4)] [] (zGs Ln I A) (some (.int (LA_X1_leastWaiting_r26_94 m Ln I A v1 v2 v3 v4)), zGs Ln I A) := by
  induction m with
  | zero => intro I A v1 v2 v3 v4 h; exact h.elim
  | succ m ih =>
    intro I A v1 v2 v3 v4 h
    simp only [PLA_X1_leastWaiting_r26_94] at h
    simp only [LA_X1_leastWaiting_r26_94]
    refine B_X1_leastWaiting_r26_94 Ln I A v1 v2 v3 v4  (fun q2 => ?_) (fun q2 => ?_)
    · try simp only [if_pos q2]
      exact B_X1_leastWaiting_r26_119 Ln I A v1 v2 v3 v4 
    · try simp only [if_neg q2]
      have h3 := h.2 q2
      obtain ⟨g4_0, r5_⟩ := h3
      refine B_X1_leastWaiting_r26_101 Ln I A v1 v2 v3 v4 g4_0 ?_
      exact ih I A v1 v2 (if A 27 (v4).toNatClampNeg < v3 then A 27 (v4).toNatClampNeg else v3) (v4 + 1) r5_
def LA_X1_leastWaiting_r26_61 : Nat → (Ln : Nat) → (I A : Nat → Nat → Int32) → Int32 → Int32 → Int32 → Int32 × (Nat → Nat → Int32)
  | 0, Ln, I, A, v1, v2, v3 => (0, A)
  | m + 1, Ln, I, A, v1, v2, v3 => if 60 ≤ v3 then ((LA_X1_leastWaiting_r26_94 1000 Ln I A v1 v2 1000 0), A) else (LA_X1_leastWaiting_r26_61 m Ln I (SA_X1_cross_r26 Ln I A (A 16 (v3).toNatClampNeg) v2) v1 v2 (v3 + 1))
def PLA_X1_leastWaiting_r26_61 : Nat → (Ln : Nat) → (I A : Nat → Nat → Int32) → Int32 → Int32 → Int32 → Prop
  | 0, Ln, I, A, v1, v2, v3 => False
  | m + 1, Ln, I, A, v1, v2, v3 => (60 ≤ v3 → (PLA_X1_leastWaiting_r26_94 1000 Ln I A v1 v2 1000 0)) ∧ (¬ (60 ≤ v3) → ((zin v3 60 = true) ∧ (P_X1_cross_r26 Ln I A (A 16 (v3).toNatClampNeg) v2) ∧ (PLA_X1_leastWaiting_r26_61 m Ln I (SA_X1_cross_r26 Ln I A (A 16 (v3).toNatClampNeg) v2) v1 v2 (v3 + 1))))
set_option maxRecDepth 100000 in
theorem MLA_X1_leastWaiting_r26_61 (m Ln : Nat) : ∀ (I A : Nat → Nat → Int32) (v1 : Int32) (v2 : Int32) (v3 : Int32), PLA_X1_leastWaiting_r26_61 m Ln I A v1 v2 v3 → zEv 11 61 0 0 [some (.ref 26), some (.int v1), some (.int v2), some (.int v3), none] [] (zGs Ln I A) (some (.int (LA_X1_leastWaiting_r26_61 m Ln I A v1 v2 v3).1), zGs Ln I (LA_X1_leastWaiting_r26_61 m Ln I A v1 v2 v3).2) := by
  induction m with
  | zero => intro I A v1 v2 v3 h; exact h.elim
  | succ m ih =>
    intro I A v1 v2 v3 h
    simp only [PLA_X1_leastWaiting_r26_61] at h
    simp only [LA_X1_leastWaiting_r26_61]
    refine B_X1_leastWaiting_r26_61 Ln I A v1 v2 v3  (fun q2 => ?_) (fun q2 => ?_)
    · try simp only [if_pos q2]
      have h3 := h.1 q2
      refine B_X1_leastWaiting_r26_87 Ln I A v1 v2 v3  ?_
      exact MLA_X1_leastWaiting_r26_94 1000 Ln I A v1 v2 1000 0 h3
    · try simp only [if_neg q2]
      have h6 := h.2 q2
      obtain ⟨g7_0, g7_1, r8_⟩ := h6
      refine B_X1_leastWaiting_r26_67 Ln I A v1 v2 v3 g7_0 (M_X1_cross_r26 Ln I A (A 16 (v3).toNatClampNeg) v2 g7_1) rfl ?_
      refine B_X1_leastWaiting_r26_81 Ln I (SA_X1_cross_r26 Ln I A (A 16 (v3).toNatClampNeg) v2) v1 v2 v3  ?_
      exact ih I (SA_X1_cross_r26 Ln I A (A 16 (v3).toNatClampNeg) v2) v1 v2 (v3 + 1) r8_
def LA_X1_leastWaiting_r26_4 : Nat → (Ln : Nat) → (I A : Nat → Nat → Int32) → Int32 → Int32 → Int32 → Int32 × (Nat → Nat → Int32)
  | 0, Ln, I, A, v1, v2, v3 => (0, A)
  | m + 1, Ln, I, A, v1, v2, v3 => if (I 11 0) ≤ v3 then (LA_X1_leastWaiting_r26_61 1000 Ln I (zw (SA_J7_fill_53178_r27 Ln I A 1000) 27 0 0) v1 v2 0) else (if (V_X0_carries_r11 Ln I A (1 <<< (v3 &&& 31))) = 0 then (LA_X1_leastWaiting_r26_4 m Ln I A v1 v2 (v3 + 1)) else (LA_X1_leastWaiting_r26_4 m Ln I A v1 (v2 ||| (v1 &&& (1 <<< (v3 &&& 31)))) (v3 + 1)))
def PLA_X1_leastWaiting_r26_4 : Nat → (Ln : Nat) → (I A : Nat → Nat → Int32) → Int32 → Int32 → Int32 → Prop
  | 0, Ln, I, A, v1, v2, v3 => False
  | m + 1, Ln, I, A, v1, v2, v3 => ((I 11 0) ≤ v3 → ((P_J7_fill_53178_r27 Ln I A 1000) ∧ (PLA_X1_leastWaiting_r26_61 1000 Ln I (zw (SA_J7_fill_53178_r27 Ln I A 1000) 27 0 0) v1 v2 0))) ∧ (¬ ((I 11 0) ≤ v3) → ((P_X0_carries_r11 Ln I A (1 <<< (v3 &&& 31))) ∧ (((V_X0_carries_r11 Ln I A (1 <<< (v3 &&& 31))) = 0 → (PLA_X1_leastWaiting_r26_4 m Ln I A v1 v2 (v3 + 1))) ∧ (¬ ((V_X0_carries_r11 Ln I A (1 <<< (v3 &&& 31))) = 0) → (PLA_X1_leastWaiting_r26_4 m Ln I A v1 (v2 ||| (v1 &&& (1 <<< (v3 &&& 31)))) (v3 + 1))))))
set_option maxRecDepth 100000 in
theorem MLA_X1_leastWaiting_r26_4 (m Ln : Nat) : ∀ (I A : Nat → Nat → Int32) (v1 : Int32) (v2 : Int32) (v3 : Int32), PLA_X1_leastWaiting_r26_4 m Ln I A v1 v2 v3 → zEv 11 4 0 0 [some (.ref 26), some (.int v1), some (.int v2), some (.int v3), none] [] (zGs Ln I A) (some (.int (LA_X1_leastWaiting_r26_4 m Ln I A v1 v2 v3).1), zGs Ln I (LA_X1_leastWaiting_r26_4 m Ln I A v1 v2 v3).2) := by
  induction m with
  | zero => intro I A v1 v2 v3 h; exact h.elim
  | succ m ih =>
    intro I A v1 v2 v3 h
    simp only [PLA_X1_leastWaiting_r26_4] at h
    simp only [LA_X1_leastWaiting_r26_4]
    refine B_X1_leastWaiting_r26_4 Ln I A v1 v2 v3  (fun q2 => ?_) (fun q2 => ?_)
    · try simp only [if_pos q2]
      have h3 := h.1 q2
      obtain ⟨g4_0, r5_⟩ := h3
      refine B_X1_leastWaiting_r26_42 Ln I A v1 v2 v3  (M_J7_fill_53178_r27 Ln I A 1000 g4_0) rfl ?_
      refine B_X1_leastWaiting_r26_52 Ln I (SA_J7_fill_53178_r27 Ln I A 1000) v1 v2 v3  ?_
      exact MLA_X1_leastWaiting_r26_61 1000 Ln I (zw (SA_J7_fill_53178_r27 Ln I A 1000) 27 0 0) v1 v2 0 r5_
    · try simp only [if_neg q2]
      have h8 := h.2 q2
      obtain ⟨g9_0, r10_⟩ := h8
      refine B_X1_leastWaiting_r26_15 Ln I A v1 v2 v3  (M_X0_carries_r11 Ln I A (1 <<< (v3 &&& 31)) g9_0) rfl ?_
      refine B_X1_leastWaiting_r26_25_s1 Ln I A v1 v2 v3 (V_X0_carries_r11 Ln I A (1 <<< (v3 &&& 31)))  (fun q13 => ?_) (fun q13 => ?_)
      · try simp only [if_pos q13]
        have h14 := r10_.1 q13
        refine B_X1_leastWaiting_r26_36 Ln I A v1 v2 v3  ?_
        exact ih I A v1 v2 (v3 + 1) h14
      · try simp only [if_neg q13]
        have h17 := r10_.2 q13
        refine B_X1_leastWaiting_r26_28 Ln I A v1 v2 v3  ?_
        refine B_X1_leastWaiting_r26_36 Ln I A v1 (v2 ||| (v1 &&& (1 <<< (v3 &&& 31)))) v3  ?_
        exact ih I A v1 (v2 ||| (v1 &&& (1 <<< (v3 &&& 31)))) (v3 + 1) h17
def V_X1_leastWaiting_r26 (Ln : Nat) (I A : Nat → Nat → Int32) (v1 : Int32) : Int32 := (LA_X1_leastWaiting_r26_4 1000 Ln I A v1 0 0).1
def SA_X1_leastWaiting_r26 (Ln : Nat) (I A : Nat → Nat → Int32) (v1 : Int32) : Nat → Nat → Int32 := (LA_X1_leastWaiting_r26_4 1000 Ln I A v1 0 0).2
def P_X1_leastWaiting_r26 (Ln : Nat) (I A : Nat → Nat → Int32) (v1 : Int32) : Prop := PLA_X1_leastWaiting_r26_4 1000 Ln I A v1 0 0
set_option maxRecDepth 100000 in
theorem M_X1_leastWaiting_r26 (Ln : Nat) (I A : Nat → Nat → Int32) (v1 : Int32) (h : P_X1_leastWaiting_r26 Ln I A v1) : zEv 11 0 0 0 [some (.ref 26), some (.int v1), none, none, none] [] (zGs Ln I A) (some (.int (V_X1_leastWaiting_r26 Ln I A v1)), zGs Ln (I) (SA_X1_leastWaiting_r26 Ln I A v1)) := by
  unfold P_X1_leastWaiting_r26 at h
  unfold V_X1_leastWaiting_r26 SA_X1_leastWaiting_r26
  refine B_X1_leastWaiting_r26_0 Ln I A v1  ?_
  exact MLA_X1_leastWaiting_r26_4 1000 Ln I A v1 0 0 h
