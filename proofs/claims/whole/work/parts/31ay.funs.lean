/-! methods, by program (wip/whole/gen_fun.py, gen_loop.py) -/
def V_X7_crossings_r1_c0 (Ln : Nat) (I A : Nat → Nat → Int32) (v2 : Int32) (v3 : Int32) (v4 : Int32) : Int32 := if (V_X7_isSheet Ln I A 0) ≠ 0 then (if (V_X7_isLane Ln I A v2) ≠ 0 then (if (V_X7_noBank_r1 Ln I A ) = 0 then (if (V_X4_faultOfCells_r3 Ln I A v2 v3 v4) = 0 then (if 20 < v4 then (V_X7_faultless_r1 Ln I A (-2)) else (if (V_X0_knowsAll_r11_r4 Ln I A v3 v4) ≠ 0 then (V_X7_faultless_r1 Ln I A (V_X1_firstWrong_r26_r4 Ln I A v3 v4 (V_X0_whoPays_r11_r42 Ln I A ))) else (V_X7_faultless_r1 Ln I A (-2)))) else (V_X7_faulted_r1 Ln I A (V_X4_faultOfCells_r3 Ln I A v2 v3 v4))) else (V_X7_faultless_r1 Ln I A (-3))) else (V_X7_faultless_r1 Ln I A (-2))) else (V_X7_faultless_r1 Ln I A (-1))
def SI_X7_crossings_r1_c0 (Ln : Nat) (I A : Nat → Nat → Int32) (v2 : Int32) (v3 : Int32) (v4 : Int32) : Nat → Nat → Int32 := if (V_X7_isSheet Ln I A 0) ≠ 0 then (if (V_X7_isLane Ln I A v2) ≠ 0 then (if (V_X7_noBank_r1 Ln I A ) = 0 then (if (V_X4_faultOfCells_r3 Ln I A v2 v3 v4) = 0 then (if 20 < v4 then (SI_X7_faultless_r1 Ln I A (-2)) else (if (V_X0_knowsAll_r11_r4 Ln I A v3 v4) ≠ 0 then (SI_X7_faultless_r1 Ln I A (V_X1_firstWrong_r26_r4 Ln I A v3 v4 (V_X0_whoPays_r11_r42 Ln I A ))) else (SI_X7_faultless_r1 Ln I A (-2)))) else (SI_X7_faulted_r1 Ln I A (V_X4_faultOfCells_r3 Ln I A v2 v3 v4))) else (SI_X7_faultless_r1 Ln I A (-3))) else (SI_X7_faultless_r1 Ln I A (-2))) else (SI_X7_faultless_r1 Ln I A (-1))
def P_X7_crossings_r1_c0 (Ln : Nat) (I A : Nat → Nat → Int32) (v2 : Int32) (v3 : Int32) (v4 : Int32) : Prop := ((V_X7_isSheet Ln I A 0) ≠ 0 → (((V_X7_isLane Ln I A v2) ≠ 0 → (((V_X7_noBank_r1 Ln I A ) = 0 → (((V_X4_faultOfCells_r3 Ln I A v2 v3 v4) = 0 → ((20 < v4 → True) ∧ (¬ (20 < v4) → ((P_X0_knowsAll_r11_r4 Ln I A v3 v4) ∧ (((V_X0_knowsAll_r11_r4 Ln I A v3 v4) ≠ 0 → ((P_X0_whoPays_r11_r42 Ln I A ) ∧ (P_X1_firstWrong_r26_r4 Ln I A v3 v4 (V_X0_whoPays_r11_r42 Ln I A )))) ∧ (¬ ((V_X0_knowsAll_r11_r4 Ln I A v3 v4) ≠ 0) → True)))))) ∧ (¬ ((V_X4_faultOfCells_r3 Ln I A v2 v3 v4) = 0) → True))) ∧ (¬ ((V_X7_noBank_r1 Ln I A ) = 0) → True))) ∧ (¬ ((V_X7_isLane Ln I A v2) ≠ 0) → True))) ∧ (¬ ((V_X7_isSheet Ln I A 0) ≠ 0) → True)
set_option maxRecDepth 100000 in
theorem M_X7_crossings_r1_c0 (Ln : Nat) (I A : Nat → Nat → Int32) (v2 : Int32) (v3 : Int32) (v4 : Int32) (h : P_X7_crossings_r1_c0 Ln I A v2 v3 v4) : zEv 57 0 0 0 [some (.ref 1), some (.int 0), some (.int v2), some (.int v3), some (.int v4), none, none] [] (zGs Ln I A) (some (.int (V_X7_crossings_r1_c0 Ln I A v2 v3 v4)), zGs Ln (SI_X7_crossings_r1_c0 Ln I A v2 v3 v4) (A)) := by
  unfold P_X7_crossings_r1_c0 at h
  unfold V_X7_crossings_r1_c0 SI_X7_crossings_r1_c0
  refine B_X7_crossings_r1_c0_0 Ln I A v2 v3 v4  (M_X7_isSheet Ln I A 0 ) rfl ?_
  refine B_X7_crossings_r1_c0_4_s1 Ln I A v2 v3 v4 (V_X7_isSheet Ln I A 0)  (fun q4 => ?_) (fun q4 => ?_)
  · try simp only [if_pos q4]
    have h5 := h.1 q4
    refine B_X7_crossings_r1_c0_13 Ln I A v2 v3 v4  (M_X7_isLane Ln I A v2 ) rfl ?_
    refine B_X7_crossings_r1_c0_17_s1 Ln I A v2 v3 v4 (V_X7_isLane Ln I A v2)  (fun q10 => ?_) (fun q10 => ?_)
    · try simp only [if_pos q10]
      have h11 := h5.1 q10
      refine B_X7_crossings_r1_c0_27 Ln I A v2 v3 v4  (M_X7_noBank_r1 Ln I A  ) rfl ?_
      refine B_X7_crossings_r1_c0_31_s1 Ln I A v2 v3 v4 (V_X7_noBank_r1 Ln I A )  (fun q16 => ?_) (fun q16 => ?_)
      · try simp only [if_pos q16]
        have h17 := h11.1 q16
        refine B_X7_crossings_r1_c0_41 Ln I A v2 v3 v4  (M_X4_faultOfCells_r3 Ln I A v2 v3 v4 ) rfl ?_
        refine B_X7_crossings_r1_c0_58_s1_l3 Ln I A v2 v3 v4 (V_X4_faultOfCells_r3 Ln I A v2 v3 v4)  (fun q22 => ?_) (fun q22 => ?_)
        · try simp only [if_pos q22]
          have h23 := h17.1 q22
          refine B_X7_crossings_r1_c0_72_l3 Ln I A v2 v3 v4 (V_X4_faultOfCells_r3 Ln I A v2 v3 v4)  (fun q26 => ?_) (fun q26 => ?_)
          · try simp only [if_pos q26]
            refine B_X7_crossings_r1_c0_97_l3 Ln I A v2 v3 v4 (V_X4_faultOfCells_r3 Ln I A v2 v3 v4)  (M_X7_faultless_r1 Ln I A (-2) ) rfl ?_
            exact B_X7_crossings_r1_c0_103_s1_l3 Ln (SI_X7_faultless_r1 Ln I A (-2)) A v2 v3 v4 (V_X4_faultOfCells_r3 Ln I A v2 v3 v4) (V_X7_faultless_r1 Ln I A (-2)) 
          · try simp only [if_neg q26]
            have h27 := h23.2 q26
            obtain ⟨g28_0, r29_⟩ := h27
            refine B_X7_crossings_r1_c0_79_l3 Ln I A v2 v3 v4 (V_X4_faultOfCells_r3 Ln I A v2 v3 v4)  (M_X0_knowsAll_r11_r4 Ln I A v3 v4 g28_0) rfl ?_
            refine B_X7_crossings_r1_c0_94_s1_l3 Ln I A v2 v3 v4 (V_X4_faultOfCells_r3 Ln I A v2 v3 v4) (V_X0_knowsAll_r11_r4 Ln I A v3 v4)  (fun q32 => ?_) (fun q32 => ?_)
            · try simp only [if_pos q32]
              have h33 := r29_.1 q32
              obtain ⟨g34_0, r35_⟩ := h33
              refine B_X7_crossings_r1_c0_104_l3 Ln I A v2 v3 v4 (V_X4_faultOfCells_r3 Ln I A v2 v3 v4)  (M_X0_whoPays_r11_r42 Ln I A  g34_0) rfl ?_
              refine B_X7_crossings_r1_c0_128_s6_l3 Ln I A v2 v3 v4 (V_X4_faultOfCells_r3 Ln I A v2 v3 v4) v3 v4 (V_X0_whoPays_r11_r42 Ln I A )  (M_X1_firstWrong_r26_r4 Ln I A v3 v4 (V_X0_whoPays_r11_r42 Ln I A ) r35_) rfl ?_
              refine B_X7_crossings_r1_c0_131_s2_l3 Ln I A v2 v3 v4 (V_X4_faultOfCells_r3 Ln I A v2 v3 v4) (V_X1_firstWrong_r26_r4 Ln I A v3 v4 (V_X0_whoPays_r11_r42 Ln I A ))  (M_X7_faultless_r1 Ln I A (V_X1_firstWrong_r26_r4 Ln I A v3 v4 (V_X0_whoPays_r11_r42 Ln I A )) ) rfl ?_
              exact B_X7_crossings_r1_c0_134_s1_l3 Ln (SI_X7_faultless_r1 Ln I A (V_X1_firstWrong_r26_r4 Ln I A v3 v4 (V_X0_whoPays_r11_r42 Ln I A ))) A v2 v3 v4 (V_X4_faultOfCells_r3 Ln I A v2 v3 v4) (V_X7_faultless_r1 Ln I A (V_X1_firstWrong_r26_r4 Ln I A v3 v4 (V_X0_whoPays_r11_r42 Ln I A ))) 
            · try simp only [if_neg q32]
              refine B_X7_crossings_r1_c0_97_l3 Ln I A v2 v3 v4 (V_X4_faultOfCells_r3 Ln I A v2 v3 v4)  (M_X7_faultless_r1 Ln I A (-2) ) rfl ?_
              exact B_X7_crossings_r1_c0_103_s1_l3 Ln (SI_X7_faultless_r1 Ln I A (-2)) A v2 v3 v4 (V_X4_faultOfCells_r3 Ln I A v2 v3 v4) (V_X7_faultless_r1 Ln I A (-2)) 
        · try simp only [if_neg q22]
          refine B_X7_crossings_r1_c0_65_l3 Ln I A v2 v3 v4 (V_X4_faultOfCells_r3 Ln I A v2 v3 v4)  (M_X7_faulted_r1 Ln I A (V_X4_faultOfCells_r3 Ln I A v2 v3 v4) ) rfl ?_
          exact B_X7_crossings_r1_c0_71_s1_l3 Ln (SI_X7_faulted_r1 Ln I A (V_X4_faultOfCells_r3 Ln I A v2 v3 v4)) A v2 v3 v4 (V_X4_faultOfCells_r3 Ln I A v2 v3 v4) (V_X7_faulted_r1 Ln I A (V_X4_faultOfCells_r3 Ln I A v2 v3 v4)) 
      · try simp only [if_neg q16]
        refine B_X7_crossings_r1_c0_34 Ln I A v2 v3 v4  (M_X7_faultless_r1 Ln I A (-3) ) rfl ?_
        exact B_X7_crossings_r1_c0_40_s1 Ln (SI_X7_faultless_r1 Ln I A (-3)) A v2 v3 v4 (V_X7_faultless_r1 Ln I A (-3)) 
    · try simp only [if_neg q10]
      refine B_X7_crossings_r1_c0_20 Ln I A v2 v3 v4  (M_X7_faultless_r1 Ln I A (-2) ) rfl ?_
      exact B_X7_crossings_r1_c0_26_s1 Ln (SI_X7_faultless_r1 Ln I A (-2)) A v2 v3 v4 (V_X7_faultless_r1 Ln I A (-2)) 
  · try simp only [if_neg q4]
    refine B_X7_crossings_r1_c0_7 Ln I A v2 v3 v4  (M_X7_faultless_r1 Ln I A (-1) ) rfl ?_
    exact B_X7_crossings_r1_c0_12_s1 Ln (SI_X7_faultless_r1 Ln I A (-1)) A v2 v3 v4 (V_X7_faultless_r1 Ln I A (-1)) 
def V_X7_crossings_r1_c1 (Ln : Nat) (I A : Nat → Nat → Int32) (v2 : Int32) (v3 : Int32) (v4 : Int32) : Int32 := if (V_X7_isSheet Ln I A 1) ≠ 0 then (if (V_X7_isLane Ln I A v2) ≠ 0 then (if (V_X7_noBank_r1 Ln I A ) = 0 then (if (V_X4_faultOfCells_r5 Ln I A v2 v3 v4) = 0 then (if 20 < v4 then (V_X7_faultless_r1 Ln I A (-2)) else (if (V_X0_knowsAll_r11_r6 Ln I A v3 v4) ≠ 0 then (V_X7_faultless_r1 Ln I A (V_X1_firstWrong_r26_r6 Ln I A v3 v4 (V_X0_whoPays_r11_r42 Ln I A ))) else (V_X7_faultless_r1 Ln I A (-2)))) else (V_X7_faulted_r1 Ln I A (V_X4_faultOfCells_r5 Ln I A v2 v3 v4))) else (V_X7_faultless_r1 Ln I A (-3))) else (V_X7_faultless_r1 Ln I A (-2))) else (V_X7_faultless_r1 Ln I A (-1))
def SI_X7_crossings_r1_c1 (Ln : Nat) (I A : Nat → Nat → Int32) (v2 : Int32) (v3 : Int32) (v4 : Int32) : Nat → Nat → Int32 := if (V_X7_isSheet Ln I A 1) ≠ 0 then (if (V_X7_isLane Ln I A v2) ≠ 0 then (if (V_X7_noBank_r1 Ln I A ) = 0 then (if (V_X4_faultOfCells_r5 Ln I A v2 v3 v4) = 0 then (if 20 < v4 then (SI_X7_faultless_r1 Ln I A (-2)) else (if (V_X0_knowsAll_r11_r6 Ln I A v3 v4) ≠ 0 then (SI_X7_faultless_r1 Ln I A (V_X1_firstWrong_r26_r6 Ln I A v3 v4 (V_X0_whoPays_r11_r42 Ln I A ))) else (SI_X7_faultless_r1 Ln I A (-2)))) else (SI_X7_faulted_r1 Ln I A (V_X4_faultOfCells_r5 Ln I A v2 v3 v4))) else (SI_X7_faultless_r1 Ln I A (-3))) else (SI_X7_faultless_r1 Ln I A (-2))) else (SI_X7_faultless_r1 Ln I A (-1))
def P_X7_crossings_r1_c1 (Ln : Nat) (I A : Nat → Nat → Int32) (v2 : Int32) (v3 : Int32) (v4 : Int32) : Prop := ((V_X7_isSheet Ln I A 1) ≠ 0 → (((V_X7_isLane Ln I A v2) ≠ 0 → (((V_X7_noBank_r1 Ln I A ) = 0 → (((V_X4_faultOfCells_r5 Ln I A v2 v3 v4) = 0 → ((20 < v4 → True) ∧ (¬ (20 < v4) → ((P_X0_knowsAll_r11_r6 Ln I A v3 v4) ∧ (((V_X0_knowsAll_r11_r6 Ln I A v3 v4) ≠ 0 → ((P_X0_whoPays_r11_r42 Ln I A ) ∧ (P_X1_firstWrong_r26_r6 Ln I A v3 v4 (V_X0_whoPays_r11_r42 Ln I A )))) ∧ (¬ ((V_X0_knowsAll_r11_r6 Ln I A v3 v4) ≠ 0) → True)))))) ∧ (¬ ((V_X4_faultOfCells_r5 Ln I A v2 v3 v4) = 0) → True))) ∧ (¬ ((V_X7_noBank_r1 Ln I A ) = 0) → True))) ∧ (¬ ((V_X7_isLane Ln I A v2) ≠ 0) → True))) ∧ (¬ ((V_X7_isSheet Ln I A 1) ≠ 0) → True)
set_option maxRecDepth 100000 in
theorem M_X7_crossings_r1_c1 (Ln : Nat) (I A : Nat → Nat → Int32) (v2 : Int32) (v3 : Int32) (v4 : Int32) (h : P_X7_crossings_r1_c1 Ln I A v2 v3 v4) : zEv 57 0 0 0 [some (.ref 1), some (.int 1), some (.int v2), some (.int v3), some (.int v4), none, none] [] (zGs Ln I A) (some (.int (V_X7_crossings_r1_c1 Ln I A v2 v3 v4)), zGs Ln (SI_X7_crossings_r1_c1 Ln I A v2 v3 v4) (A)) := by
  unfold P_X7_crossings_r1_c1 at h
  unfold V_X7_crossings_r1_c1 SI_X7_crossings_r1_c1
  refine B_X7_crossings_r1_c1_0 Ln I A v2 v3 v4  (M_X7_isSheet Ln I A 1 ) rfl ?_
  refine B_X7_crossings_r1_c1_4_s1 Ln I A v2 v3 v4 (V_X7_isSheet Ln I A 1)  (fun q4 => ?_) (fun q4 => ?_)
  · try simp only [if_pos q4]
    have h5 := h.1 q4
    refine B_X7_crossings_r1_c1_13 Ln I A v2 v3 v4  (M_X7_isLane Ln I A v2 ) rfl ?_
    refine B_X7_crossings_r1_c1_17_s1 Ln I A v2 v3 v4 (V_X7_isLane Ln I A v2)  (fun q10 => ?_) (fun q10 => ?_)
    · try simp only [if_pos q10]
      have h11 := h5.1 q10
      refine B_X7_crossings_r1_c1_27 Ln I A v2 v3 v4  (M_X7_noBank_r1 Ln I A  ) rfl ?_
      refine B_X7_crossings_r1_c1_31_s1 Ln I A v2 v3 v4 (V_X7_noBank_r1 Ln I A )  (fun q16 => ?_) (fun q16 => ?_)
      · try simp only [if_pos q16]
        have h17 := h11.1 q16
        refine B_X7_crossings_r1_c1_41 Ln I A v2 v3 v4  (M_X4_faultOfCells_r5 Ln I A v2 v3 v4 ) rfl ?_
        refine B_X7_crossings_r1_c1_58_s1_l5 Ln I A v2 v3 v4 (V_X4_faultOfCells_r5 Ln I A v2 v3 v4)  (fun q22 => ?_) (fun q22 => ?_)
        · try simp only [if_pos q22]
          have h23 := h17.1 q22
          refine B_X7_crossings_r1_c1_72_l5 Ln I A v2 v3 v4 (V_X4_faultOfCells_r5 Ln I A v2 v3 v4)  (fun q26 => ?_) (fun q26 => ?_)
          · try simp only [if_pos q26]
            refine B_X7_crossings_r1_c1_97_l5 Ln I A v2 v3 v4 (V_X4_faultOfCells_r5 Ln I A v2 v3 v4)  (M_X7_faultless_r1 Ln I A (-2) ) rfl ?_
            exact B_X7_crossings_r1_c1_103_s1_l5 Ln (SI_X7_faultless_r1 Ln I A (-2)) A v2 v3 v4 (V_X4_faultOfCells_r5 Ln I A v2 v3 v4) (V_X7_faultless_r1 Ln I A (-2)) 
          · try simp only [if_neg q26]
            have h27 := h23.2 q26
            obtain ⟨g28_0, r29_⟩ := h27
            refine B_X7_crossings_r1_c1_79_l5 Ln I A v2 v3 v4 (V_X4_faultOfCells_r5 Ln I A v2 v3 v4)  (M_X0_knowsAll_r11_r6 Ln I A v3 v4 g28_0) rfl ?_
            refine B_X7_crossings_r1_c1_94_s1_l5 Ln I A v2 v3 v4 (V_X4_faultOfCells_r5 Ln I A v2 v3 v4) (V_X0_knowsAll_r11_r6 Ln I A v3 v4)  (fun q32 => ?_) (fun q32 => ?_)
            · try simp only [if_pos q32]
              have h33 := r29_.1 q32
              obtain ⟨g34_0, r35_⟩ := h33
              refine B_X7_crossings_r1_c1_104_l5 Ln I A v2 v3 v4 (V_X4_faultOfCells_r5 Ln I A v2 v3 v4)  (M_X0_whoPays_r11_r42 Ln I A  g34_0) rfl ?_
              refine B_X7_crossings_r1_c1_128_s6_l5 Ln I A v2 v3 v4 (V_X4_faultOfCells_r5 Ln I A v2 v3 v4) v3 v4 (V_X0_whoPays_r11_r42 Ln I A )  (M_X1_firstWrong_r26_r6 Ln I A v3 v4 (V_X0_whoPays_r11_r42 Ln I A ) r35_) rfl ?_
              refine B_X7_crossings_r1_c1_131_s2_l5 Ln I A v2 v3 v4 (V_X4_faultOfCells_r5 Ln I A v2 v3 v4) (V_X1_firstWrong_r26_r6 Ln I A v3 v4 (V_X0_whoPays_r11_r42 Ln I A ))  (M_X7_faultless_r1 Ln I A (V_X1_firstWrong_r26_r6 Ln I A v3 v4 (V_X0_whoPays_r11_r42 Ln I A )) ) rfl ?_
              exact B_X7_crossings_r1_c1_134_s1_l5 Ln (SI_X7_faultless_r1 Ln I A (V_X1_firstWrong_r26_r6 Ln I A v3 v4 (V_X0_whoPays_r11_r42 Ln I A ))) A v2 v3 v4 (V_X4_faultOfCells_r5 Ln I A v2 v3 v4) (V_X7_faultless_r1 Ln I A (V_X1_firstWrong_r26_r6 Ln I A v3 v4 (V_X0_whoPays_r11_r42 Ln I A ))) 
            · try simp only [if_neg q32]
              refine B_X7_crossings_r1_c1_97_l5 Ln I A v2 v3 v4 (V_X4_faultOfCells_r5 Ln I A v2 v3 v4)  (M_X7_faultless_r1 Ln I A (-2) ) rfl ?_
              exact B_X7_crossings_r1_c1_103_s1_l5 Ln (SI_X7_faultless_r1 Ln I A (-2)) A v2 v3 v4 (V_X4_faultOfCells_r5 Ln I A v2 v3 v4) (V_X7_faultless_r1 Ln I A (-2)) 
        · try simp only [if_neg q22]
          refine B_X7_crossings_r1_c1_65_l5 Ln I A v2 v3 v4 (V_X4_faultOfCells_r5 Ln I A v2 v3 v4)  (M_X7_faulted_r1 Ln I A (V_X4_faultOfCells_r5 Ln I A v2 v3 v4) ) rfl ?_
          exact B_X7_crossings_r1_c1_71_s1_l5 Ln (SI_X7_faulted_r1 Ln I A (V_X4_faultOfCells_r5 Ln I A v2 v3 v4)) A v2 v3 v4 (V_X4_faultOfCells_r5 Ln I A v2 v3 v4) (V_X7_faulted_r1 Ln I A (V_X4_faultOfCells_r5 Ln I A v2 v3 v4)) 
      · try simp only [if_neg q16]
        refine B_X7_crossings_r1_c1_34 Ln I A v2 v3 v4  (M_X7_faultless_r1 Ln I A (-3) ) rfl ?_
        exact B_X7_crossings_r1_c1_40_s1 Ln (SI_X7_faultless_r1 Ln I A (-3)) A v2 v3 v4 (V_X7_faultless_r1 Ln I A (-3)) 
    · try simp only [if_neg q10]
      refine B_X7_crossings_r1_c1_20 Ln I A v2 v3 v4  (M_X7_faultless_r1 Ln I A (-2) ) rfl ?_
      exact B_X7_crossings_r1_c1_26_s1 Ln (SI_X7_faultless_r1 Ln I A (-2)) A v2 v3 v4 (V_X7_faultless_r1 Ln I A (-2)) 
  · try simp only [if_neg q4]
    refine B_X7_crossings_r1_c1_7 Ln I A v2 v3 v4  (M_X7_faultless_r1 Ln I A (-1) ) rfl ?_
    exact B_X7_crossings_r1_c1_12_s1 Ln (SI_X7_faultless_r1 Ln I A (-1)) A v2 v3 v4 (V_X7_faultless_r1 Ln I A (-1)) 
def V_X7_crossings_r1_c2 (Ln : Nat) (I A : Nat → Nat → Int32) (v2 : Int32) (v3 : Int32) (v4 : Int32) : Int32 := if (V_X7_isSheet Ln I A 2) ≠ 0 then (if (V_X7_isLane Ln I A v2) ≠ 0 then (if (V_X7_noBank_r1 Ln I A ) = 0 then (if (V_X4_faultOfCells_r7 Ln I A v2 v3 v4) = 0 then (if 20 < v4 then (V_X7_faultless_r1 Ln I A (-2)) else (if (V_X0_knowsAll_r11_r8 Ln I A v3 v4) ≠ 0 then (V_X7_faultless_r1 Ln I A (V_X1_firstWrong_r26_r8 Ln I A v3 v4 (V_X0_whoPays_r11_r42 Ln I A ))) else (V_X7_faultless_r1 Ln I A (-2)))) else (V_X7_faulted_r1 Ln I A (V_X4_faultOfCells_r7 Ln I A v2 v3 v4))) else (V_X7_faultless_r1 Ln I A (-3))) else (V_X7_faultless_r1 Ln I A (-2))) else (V_X7_faultless_r1 Ln I A (-1))
def SI_X7_crossings_r1_c2 (Ln : Nat) (I A : Nat → Nat → Int32) (v2 : Int32) (v3 : Int32) (v4 : Int32) : Nat → Nat → Int32 := if (V_X7_isSheet Ln I A 2) ≠ 0 then (if (V_X7_isLane Ln I A v2) ≠ 0 then (if (V_X7_noBank_r1 Ln I A ) = 0 then (if (V_X4_faultOfCells_r7 Ln I A v2 v3 v4) = 0 then (if 20 < v4 then (SI_X7_faultless_r1 Ln I A (-2)) else (if (V_X0_knowsAll_r11_r8 Ln I A v3 v4) ≠ 0 then (SI_X7_faultless_r1 Ln I A (V_X1_firstWrong_r26_r8 Ln I A v3 v4 (V_X0_whoPays_r11_r42 Ln I A ))) else (SI_X7_faultless_r1 Ln I A (-2)))) else (SI_X7_faulted_r1 Ln I A (V_X4_faultOfCells_r7 Ln I A v2 v3 v4))) else (SI_X7_faultless_r1 Ln I A (-3))) else (SI_X7_faultless_r1 Ln I A (-2))) else (SI_X7_faultless_r1 Ln I A (-1))
def P_X7_crossings_r1_c2 (Ln : Nat) (I A : Nat → Nat → Int32) (v2 : Int32) (v3 : Int32) (v4 : Int32) : Prop := ((V_X7_isSheet Ln I A 2) ≠ 0 → (((V_X7_isLane Ln I A v2) ≠ 0 → (((V_X7_noBank_r1 Ln I A ) = 0 → (((V_X4_faultOfCells_r7 Ln I A v2 v3 v4) = 0 → ((20 < v4 → True) ∧ (¬ (20 < v4) → ((P_X0_knowsAll_r11_r8 Ln I A v3 v4) ∧ (((V_X0_knowsAll_r11_r8 Ln I A v3 v4) ≠ 0 → ((P_X0_whoPays_r11_r42 Ln I A ) ∧ (P_X1_firstWrong_r26_r8 Ln I A v3 v4 (V_X0_whoPays_r11_r42 Ln I A )))) ∧ (¬ ((V_X0_knowsAll_r11_r8 Ln I A v3 v4) ≠ 0) → True)))))) ∧ (¬ ((V_X4_faultOfCells_r7 Ln I A v2 v3 v4) = 0) → True))) ∧ (¬ ((V_X7_noBank_r1 Ln I A ) = 0) → True))) ∧ (¬ ((V_X7_isLane Ln I A v2) ≠ 0) → True))) ∧ (¬ ((V_X7_isSheet Ln I A 2) ≠ 0) → True)
set_option maxRecDepth 100000 in
theorem M_X7_crossings_r1_c2 (Ln : Nat) (I A : Nat → Nat → Int32) (v2 : Int32) (v3 : Int32) (v4 : Int32) (h : P_X7_crossings_r1_c2 Ln I A v2 v3 v4) : zEv 57 0 0 0 [some (.ref 1), some (.int 2), some (.int v2), some (.int v3), some (.int v4), none, none] [] (zGs Ln I A) (some (.int (V_X7_crossings_r1_c2 Ln I A v2 v3 v4)), zGs Ln (SI_X7_crossings_r1_c2 Ln I A v2 v3 v4) (A)) := by
  unfold P_X7_crossings_r1_c2 at h
  unfold V_X7_crossings_r1_c2 SI_X7_crossings_r1_c2
  refine B_X7_crossings_r1_c2_0 Ln I A v2 v3 v4  (M_X7_isSheet Ln I A 2 ) rfl ?_
  refine B_X7_crossings_r1_c2_4_s1 Ln I A v2 v3 v4 (V_X7_isSheet Ln I A 2)  (fun q4 => ?_) (fun q4 => ?_)
  · try simp only [if_pos q4]
    have h5 := h.1 q4
    refine B_X7_crossings_r1_c2_13 Ln I A v2 v3 v4  (M_X7_isLane Ln I A v2 ) rfl ?_
    refine B_X7_crossings_r1_c2_17_s1 Ln I A v2 v3 v4 (V_X7_isLane Ln I A v2)  (fun q10 => ?_) (fun q10 => ?_)
    · try simp only [if_pos q10]
      have h11 := h5.1 q10
      refine B_X7_crossings_r1_c2_27 Ln I A v2 v3 v4  (M_X7_noBank_r1 Ln I A  ) rfl ?_
      refine B_X7_crossings_r1_c2_31_s1 Ln I A v2 v3 v4 (V_X7_noBank_r1 Ln I A )  (fun q16 => ?_) (fun q16 => ?_)
      · try simp only [if_pos q16]
        have h17 := h11.1 q16
        refine B_X7_crossings_r1_c2_41 Ln I A v2 v3 v4  (M_X4_faultOfCells_r7 Ln I A v2 v3 v4 ) rfl ?_
        refine B_X7_crossings_r1_c2_58_s1_l7 Ln I A v2 v3 v4 (V_X4_faultOfCells_r7 Ln I A v2 v3 v4)  (fun q22 => ?_) (fun q22 => ?_)
        · try simp only [if_pos q22]
          have h23 := h17.1 q22
          refine B_X7_crossings_r1_c2_72_l7 Ln I A v2 v3 v4 (V_X4_faultOfCells_r7 Ln I A v2 v3 v4)  (fun q26 => ?_) (fun q26 => ?_)
          · try simp only [if_pos q26]
            refine B_X7_crossings_r1_c2_97_l7 Ln I A v2 v3 v4 (V_X4_faultOfCells_r7 Ln I A v2 v3 v4)  (M_X7_faultless_r1 Ln I A (-2) ) rfl ?_
            exact B_X7_crossings_r1_c2_103_s1_l7 Ln (SI_X7_faultless_r1 Ln I A (-2)) A v2 v3 v4 (V_X4_faultOfCells_r7 Ln I A v2 v3 v4) (V_X7_faultless_r1 Ln I A (-2)) 
          · try simp only [if_neg q26]
            have h27 := h23.2 q26
            obtain ⟨g28_0, r29_⟩ := h27
            refine B_X7_crossings_r1_c2_79_l7 Ln I A v2 v3 v4 (V_X4_faultOfCells_r7 Ln I A v2 v3 v4)  (M_X0_knowsAll_r11_r8 Ln I A v3 v4 g28_0) rfl ?_
            refine B_X7_crossings_r1_c2_94_s1_l7 Ln I A v2 v3 v4 (V_X4_faultOfCells_r7 Ln I A v2 v3 v4) (V_X0_knowsAll_r11_r8 Ln I A v3 v4)  (fun q32 => ?_) (fun q32 => ?_)
            · try simp only [if_pos q32]
              have h33 := r29_.1 q32
              obtain ⟨g34_0, r35_⟩ := h33
              refine B_X7_crossings_r1_c2_104_l7 Ln I A v2 v3 v4 (V_X4_faultOfCells_r7 Ln I A v2 v3 v4)  (M_X0_whoPays_r11_r42 Ln I A  g34_0) rfl ?_
              refine B_X7_crossings_r1_c2_128_s6_l7 Ln I A v2 v3 v4 (V_X4_faultOfCells_r7 Ln I A v2 v3 v4) v3 v4 (V_X0_whoPays_r11_r42 Ln I A )  (M_X1_firstWrong_r26_r8 Ln I A v3 v4 (V_X0_whoPays_r11_r42 Ln I A ) r35_) rfl ?_
              refine B_X7_crossings_r1_c2_131_s2_l7 Ln I A v2 v3 v4 (V_X4_faultOfCells_r7 Ln I A v2 v3 v4) (V_X1_firstWrong_r26_r8 Ln I A v3 v4 (V_X0_whoPays_r11_r42 Ln I A ))  (M_X7_faultless_r1 Ln I A (V_X1_firstWrong_r26_r8 Ln I A v3 v4 (V_X0_whoPays_r11_r42 Ln I A )) ) rfl ?_
              exact B_X7_crossings_r1_c2_134_s1_l7 Ln (SI_X7_faultless_r1 Ln I A (V_X1_firstWrong_r26_r8 Ln I A v3 v4 (V_X0_whoPays_r11_r42 Ln I A ))) A v2 v3 v4 (V_X4_faultOfCells_r7 Ln I A v2 v3 v4) (V_X7_faultless_r1 Ln I A (V_X1_firstWrong_r26_r8 Ln I A v3 v4 (V_X0_whoPays_r11_r42 Ln I A ))) 
            · try simp only [if_neg q32]
              refine B_X7_crossings_r1_c2_97_l7 Ln I A v2 v3 v4 (V_X4_faultOfCells_r7 Ln I A v2 v3 v4)  (M_X7_faultless_r1 Ln I A (-2) ) rfl ?_
              exact B_X7_crossings_r1_c2_103_s1_l7 Ln (SI_X7_faultless_r1 Ln I A (-2)) A v2 v3 v4 (V_X4_faultOfCells_r7 Ln I A v2 v3 v4) (V_X7_faultless_r1 Ln I A (-2)) 
        · try simp only [if_neg q22]
          refine B_X7_crossings_r1_c2_65_l7 Ln I A v2 v3 v4 (V_X4_faultOfCells_r7 Ln I A v2 v3 v4)  (M_X7_faulted_r1 Ln I A (V_X4_faultOfCells_r7 Ln I A v2 v3 v4) ) rfl ?_
          exact B_X7_crossings_r1_c2_71_s1_l7 Ln (SI_X7_faulted_r1 Ln I A (V_X4_faultOfCells_r7 Ln I A v2 v3 v4)) A v2 v3 v4 (V_X4_faultOfCells_r7 Ln I A v2 v3 v4) (V_X7_faulted_r1 Ln I A (V_X4_faultOfCells_r7 Ln I A v2 v3 v4)) 
      · try simp only [if_neg q16]
        refine B_X7_crossings_r1_c2_34 Ln I A v2 v3 v4  (M_X7_faultless_r1 Ln I A (-3) ) rfl ?_
        exact B_X7_crossings_r1_c2_40_s1 Ln (SI_X7_faultless_r1 Ln I A (-3)) A v2 v3 v4 (V_X7_faultless_r1 Ln I A (-3)) 
    · try simp only [if_neg q10]
      refine B_X7_crossings_r1_c2_20 Ln I A v2 v3 v4  (M_X7_faultless_r1 Ln I A (-2) ) rfl ?_
      exact B_X7_crossings_r1_c2_26_s1 Ln (SI_X7_faultless_r1 Ln I A (-2)) A v2 v3 v4 (V_X7_faultless_r1 Ln I A (-2)) 
  · try simp only [if_neg q4]
    refine B_X7_crossings_r1_c2_7 Ln I A v2 v3 v4  (M_X7_faultless_r1 Ln I A (-1) ) rfl ?_
    exact B_X7_crossings_r1_c2_12_s1 Ln (SI_X7_faultless_r1 Ln I A (-1)) A v2 v3 v4 (V_X7_faultless_r1 Ln I A (-1)) 
def V_X7_crossings_r1_c3 (Ln : Nat) (I A : Nat → Nat → Int32) (v2 : Int32) (v3 : Int32) (v4 : Int32) : Int32 := if (V_X7_isSheet Ln I A 3) ≠ 0 then (if (V_X7_isLane Ln I A v2) ≠ 0 then (if (V_X7_noBank_r1 Ln I A ) = 0 then (if (V_X4_faultOfCells_r9 Ln I A v2 v3 v4) = 0 then (if 20 < v4 then (V_X7_faultless_r1 Ln I A (-2)) else (if (V_X0_knowsAll_r11_r10 Ln I A v3 v4) ≠ 0 then (V_X7_faultless_r1 Ln I A (V_X1_firstWrong_r26_r10 Ln I A v3 v4 (V_X0_whoPays_r11_r42 Ln I A ))) else (V_X7_faultless_r1 Ln I A (-2)))) else (V_X7_faulted_r1 Ln I A (V_X4_faultOfCells_r9 Ln I A v2 v3 v4))) else (V_X7_faultless_r1 Ln I A (-3))) else (V_X7_faultless_r1 Ln I A (-2))) else (V_X7_faultless_r1 Ln I A (-1))
def SI_X7_crossings_r1_c3 (Ln : Nat) (I A : Nat → Nat → Int32) (v2 : Int32) (v3 : Int32) (v4 : Int32) : Nat → Nat → Int32 := if (V_X7_isSheet Ln I A 3) ≠ 0 then (if (V_X7_isLane Ln I A v2) ≠ 0 then (if (V_X7_noBank_r1 Ln I A ) = 0 then (if (V_X4_faultOfCells_r9 Ln I A v2 v3 v4) = 0 then (if 20 < v4 then (SI_X7_faultless_r1 Ln I A (-2)) else (if (V_X0_knowsAll_r11_r10 Ln I A v3 v4) ≠ 0 then (SI_X7_faultless_r1 Ln I A (V_X1_firstWrong_r26_r10 Ln I A v3 v4 (V_X0_whoPays_r11_r42 Ln I A ))) else (SI_X7_faultless_r1 Ln I A (-2)))) else (SI_X7_faulted_r1 Ln I A (V_X4_faultOfCells_r9 Ln I A v2 v3 v4))) else (SI_X7_faultless_r1 Ln I A (-3))) else (SI_X7_faultless_r1 Ln I A (-2))) else (SI_X7_faultless_r1 Ln I A (-1))
def P_X7_crossings_r1_c3 (Ln : Nat) (I A : Nat → Nat → Int32) (v2 : Int32) (v3 : Int32) (v4 : Int32) : Prop := ((V_X7_isSheet Ln I A 3) ≠ 0 → (((V_X7_isLane Ln I A v2) ≠ 0 → (((V_X7_noBank_r1 Ln I A ) = 0 → (((V_X4_faultOfCells_r9 Ln I A v2 v3 v4) = 0 → ((20 < v4 → True) ∧ (¬ (20 < v4) → ((P_X0_knowsAll_r11_r10 Ln I A v3 v4) ∧ (((V_X0_knowsAll_r11_r10 Ln I A v3 v4) ≠ 0 → ((P_X0_whoPays_r11_r42 Ln I A ) ∧ (P_X1_firstWrong_r26_r10 Ln I A v3 v4 (V_X0_whoPays_r11_r42 Ln I A )))) ∧ (¬ ((V_X0_knowsAll_r11_r10 Ln I A v3 v4) ≠ 0) → True)))))) ∧ (¬ ((V_X4_faultOfCells_r9 Ln I A v2 v3 v4) = 0) → True))) ∧ (¬ ((V_X7_noBank_r1 Ln I A ) = 0) → True))) ∧ (¬ ((V_X7_isLane Ln I A v2) ≠ 0) → True))) ∧ (¬ ((V_X7_isSheet Ln I A 3) ≠ 0) → True)
set_option maxRecDepth 100000 in
theorem M_X7_crossings_r1_c3 (Ln : Nat) (I A : Nat → Nat → Int32) (v2 : Int32) (v3 : Int32) (v4 : Int32) (h : P_X7_crossings_r1_c3 Ln I A v2 v3 v4) : zEv 57 0 0 0 [some (.ref 1), some (.int 3), some (.int v2), some (.int v3), some (.int v4), none, none] [] (zGs Ln I A) (some (.int (V_X7_crossings_r1_c3 Ln I A v2 v3 v4)), zGs Ln (SI_X7_crossings_r1_c3 Ln I A v2 v3 v4) (A)) := by
  unfold P_X7_crossings_r1_c3 at h
  unfold V_X7_crossings_r1_c3 SI_X7_crossings_r1_c3
  refine B_X7_crossings_r1_c3_0 Ln I A v2 v3 v4  (M_X7_isSheet Ln I A 3 ) rfl ?_
  refine B_X7_crossings_r1_c3_4_s1 Ln I A v2 v3 v4 (V_X7_isSheet Ln I A 3)  (fun q4 => ?_) (fun q4 => ?_)
  · try simp only [if_pos q4]
    have h5 := h.1 q4
    refine B_X7_crossings_r1_c3_13 Ln I A v2 v3 v4  (M_X7_isLane Ln I A v2 ) rfl ?_
    refine B_X7_crossings_r1_c3_17_s1 Ln I A v2 v3 v4 (V_X7_isLane Ln I A v2)  (fun q10 => ?_) (fun q10 => ?_)
    · try simp only [if_pos q10]
      have h11 := h5.1 q10
      refine B_X7_crossings_r1_c3_27 Ln I A v2 v3 v4  (M_X7_noBank_r1 Ln I A  ) rfl ?_
      refine B_X7_crossings_r1_c3_31_s1 Ln I A v2 v3 v4 (V_X7_noBank_r1 Ln I A )  (fun q16 => ?_) (fun q16 => ?_)
      · try simp only [if_pos q16]
        have h17 := h11.1 q16
        refine B_X7_crossings_r1_c3_41 Ln I A v2 v3 v4  (M_X4_faultOfCells_r9 Ln I A v2 v3 v4 ) rfl ?_
        refine B_X7_crossings_r1_c3_58_s1_l9 Ln I A v2 v3 v4 (V_X4_faultOfCells_r9 Ln I A v2 v3 v4)  (fun q22 => ?_) (fun q22 => ?_)
        · try simp only [if_pos q22]
          have h23 := h17.1 q22
          refine B_X7_crossings_r1_c3_72_l9 Ln I A v2 v3 v4 (V_X4_faultOfCells_r9 Ln I A v2 v3 v4)  (fun q26 => ?_) (fun q26 => ?_)
          · try simp only [if_pos q26]
            refine B_X7_crossings_r1_c3_97_l9 Ln I A v2 v3 v4 (V_X4_faultOfCells_r9 Ln I A v2 v3 v4)  (M_X7_faultless_r1 Ln I A (-2) ) rfl ?_
            exact B_X7_crossings_r1_c3_103_s1_l9 Ln (SI_X7_faultless_r1 Ln I A (-2)) A v2 v3 v4 (V_X4_faultOfCells_r9 Ln I A v2 v3 v4) (V_X7_faultless_r1 Ln I A (-2)) 
          · try simp only [if_neg q26]
            have h27 := h23.2 q26
            obtain ⟨g28_0, r29_⟩ := h27
            refine B_X7_crossings_r1_c3_79_l9 Ln I A v2 v3 v4 (V_X4_faultOfCells_r9 Ln I A v2 v3 v4)  (M_X0_knowsAll_r11_r10 Ln I A v3 v4 g28_0) rfl ?_
            refine B_X7_crossings_r1_c3_94_s1_l9 Ln I A v2 v3 v4 (V_X4_faultOfCells_r9 Ln I A v2 v3 v4) (V_X0_knowsAll_r11_r10 Ln I A v3 v4)  (fun q32 => ?_) (fun q32 => ?_)
            · try simp only [if_pos q32]
              have h33 := r29_.1 q32
              obtain ⟨g34_0, r35_⟩ := h33
              refine B_X7_crossings_r1_c3_104_l9 Ln I A v2 v3 v4 (V_X4_faultOfCells_r9 Ln I A v2 v3 v4)  (M_X0_whoPays_r11_r42 Ln I A  g34_0) rfl ?_
              refine B_X7_crossings_r1_c3_128_s6_l9 Ln I A v2 v3 v4 (V_X4_faultOfCells_r9 Ln I A v2 v3 v4) v3 v4 (V_X0_whoPays_r11_r42 Ln I A )  (M_X1_firstWrong_r26_r10 Ln I A v3 v4 (V_X0_whoPays_r11_r42 Ln I A ) r35_) rfl ?_
              refine B_X7_crossings_r1_c3_131_s2_l9 Ln I A v2 v3 v4 (V_X4_faultOfCells_r9 Ln I A v2 v3 v4) (V_X1_firstWrong_r26_r10 Ln I A v3 v4 (V_X0_whoPays_r11_r42 Ln I A ))  (M_X7_faultless_r1 Ln I A (V_X1_firstWrong_r26_r10 Ln I A v3 v4 (V_X0_whoPays_r11_r42 Ln I A )) ) rfl ?_
              exact B_X7_crossings_r1_c3_134_s1_l9 Ln (SI_X7_faultless_r1 Ln I A (V_X1_firstWrong_r26_r10 Ln I A v3 v4 (V_X0_whoPays_r11_r42 Ln I A ))) A v2 v3 v4 (V_X4_faultOfCells_r9 Ln I A v2 v3 v4) (V_X7_faultless_r1 Ln I A (V_X1_firstWrong_r26_r10 Ln I A v3 v4 (V_X0_whoPays_r11_r42 Ln I A ))) 
            · try simp only [if_neg q32]
              refine B_X7_crossings_r1_c3_97_l9 Ln I A v2 v3 v4 (V_X4_faultOfCells_r9 Ln I A v2 v3 v4)  (M_X7_faultless_r1 Ln I A (-2) ) rfl ?_
              exact B_X7_crossings_r1_c3_103_s1_l9 Ln (SI_X7_faultless_r1 Ln I A (-2)) A v2 v3 v4 (V_X4_faultOfCells_r9 Ln I A v2 v3 v4) (V_X7_faultless_r1 Ln I A (-2)) 
        · try simp only [if_neg q22]
          refine B_X7_crossings_r1_c3_65_l9 Ln I A v2 v3 v4 (V_X4_faultOfCells_r9 Ln I A v2 v3 v4)  (M_X7_faulted_r1 Ln I A (V_X4_faultOfCells_r9 Ln I A v2 v3 v4) ) rfl ?_
          exact B_X7_crossings_r1_c3_71_s1_l9 Ln (SI_X7_faulted_r1 Ln I A (V_X4_faultOfCells_r9 Ln I A v2 v3 v4)) A v2 v3 v4 (V_X4_faultOfCells_r9 Ln I A v2 v3 v4) (V_X7_faulted_r1 Ln I A (V_X4_faultOfCells_r9 Ln I A v2 v3 v4)) 
      · try simp only [if_neg q16]
        refine B_X7_crossings_r1_c3_34 Ln I A v2 v3 v4  (M_X7_faultless_r1 Ln I A (-3) ) rfl ?_
        exact B_X7_crossings_r1_c3_40_s1 Ln (SI_X7_faultless_r1 Ln I A (-3)) A v2 v3 v4 (V_X7_faultless_r1 Ln I A (-3)) 
    · try simp only [if_neg q10]
      refine B_X7_crossings_r1_c3_20 Ln I A v2 v3 v4  (M_X7_faultless_r1 Ln I A (-2) ) rfl ?_
      exact B_X7_crossings_r1_c3_26_s1 Ln (SI_X7_faultless_r1 Ln I A (-2)) A v2 v3 v4 (V_X7_faultless_r1 Ln I A (-2)) 
  · try simp only [if_neg q4]
    refine B_X7_crossings_r1_c3_7 Ln I A v2 v3 v4  (M_X7_faultless_r1 Ln I A (-1) ) rfl ?_
    exact B_X7_crossings_r1_c3_12_s1 Ln (SI_X7_faultless_r1 Ln I A (-1)) A v2 v3 v4 (V_X7_faultless_r1 Ln I A (-1)) 
def LA_X5_firstFault_r4_2 : Nat → (Ln : Nat) → (I A : Nat → Nat → Int32) → Int32 → Int32 → Int32 → (Option Int32) → Int32
  | 0, Ln, I, A, v1, v2, v3, j4 => 0
  | m + 1, Ln, I, A, v1, v2, v3, j4 => if v2 ≤ v3 then (if v2 ≤ 5 then v2 else (if ((v2 - 5) - (v2 - 5) / 6 * 6) ≠ 0 then v2 else (-1))) else (if v3 ≠ 0 then (if (V_X5_mayStand Ln I A v3 (A 4 (v1 + v3).toNatClampNeg) (A 4 ((v1 + v3) - 1).toNatClampNeg)) ≠ 0 then (LA_X5_firstFault_r4_2 m Ln I A v1 v2 (v3 + 1) (some (A 4 ((v1 + v3) - 1).toNatClampNeg))) else v3) else (if (V_X5_mayStand Ln I A v3 (A 4 (v1 + v3).toNatClampNeg) 0) ≠ 0 then (LA_X5_firstFault_r4_2 m Ln I A v1 v2 (v3 + 1) (some 0)) else v3))
def PLA_X5_firstFault_r4_2 : Nat → (Ln : Nat) → (I A : Nat → Nat → Int32) → Int32 → Int32 → Int32 → (Option Int32) → Prop
  | 0, Ln, I, A, v1, v2, v3, j4 => False
  | m + 1, Ln, I, A, v1, v2, v3, j4 => (v2 ≤ v3 → True) ∧ (¬ (v2 ≤ v3) → ((v3 ≠ 0 → ((zin ((v1 + v3) - 1) 60 = true) ∧ ((zin (v1 + v3) 60 = true) ∧ (((V_X5_mayStand Ln I A v3 (A 4 (v1 + v3).toNatClampNeg) (A 4 ((v1 + v3) - 1).toNatClampNeg)) ≠ 0 → (PLA_X5_firstFault_r4_2 m Ln I A v1 v2 (v3 + 1) (some (A 4 ((v1 + v3) - 1).toNatClampNeg)))) ∧ (¬ ((V_X5_mayStand Ln I A v3 (A 4 (v1 + v3).toNatClampNeg) (A 4 ((v1 + v3) - 1).toNatClampNeg)) ≠ 0) → True))))) ∧ (¬ (v3 ≠ 0) → ((zin (v1 + v3) 60 = true) ∧ (((V_X5_mayStand Ln I A v3 (A 4 (v1 + v3).toNatClampNeg) 0) ≠ 0 → (PLA_X5_firstFault_r4_2 m Ln I A v1 v2 (v3 + 1) (some 0))) ∧ (¬ ((V_X5_mayStand Ln I A v3 (A 4 (v1 + v3).toNatClampNeg) 0) ≠ 0) → True))))))
set_option maxRecDepth 100000 in
theorem MLA_X5_firstFault_r4_2 (m Ln : Nat) : ∀ (I A : Nat → Nat → Int32) (v1 : Int32) (v2 : Int32) (v3 : Int32) (j4 : Option Int32), PLA_X5_firstFault_r4_2 m Ln I A v1 v2 v3 j4 → zEv 26 2 0 0 [some (.ref 4), some (.int v1), some (.int v2), some (.int v3), (Option.map Value.int j4)] [] (zGs Ln I A) (some (.int (LA_X5_firstFault_r4_2 m Ln I A v1 v2 v3 j4)), zGs Ln I A) := by
  induction m with
  | zero => intro I A v1 v2 v3 j4 h; exact h.elim
  | succ m ih =>
    intro I A v1 v2 v3 j4 h
    simp only [PLA_X5_firstFault_r4_2] at h
    simp only [LA_X5_firstFault_r4_2]
    refine B_X5_firstFault_r4_2 Ln I A v1 v2 v3 j4  (fun q2 => ?_) (fun q2 => ?_)
    · try simp only [if_pos q2]
      refine B_X5_firstFault_r4_46 Ln I A v1 v2 v3 j4  (fun q3 => ?_) (fun q3 => ?_)
      · try simp only [if_pos q3]
        refine B_X5_firstFault_r4_64 Ln I A v1 v2 v3 j4  ?_
        exact B_X5_firstFault_r4_65_s1 Ln I A v1 v2 v3 j4 v2 
      · try simp only [if_neg q3]
        refine B_X5_firstFault_r4_51 Ln I A v1 v2 v3 j4  (fun q4 => ?_) (fun q4 => ?_)
        · try simp only [if_pos q4]
          refine B_X5_firstFault_r4_64 Ln I A v1 v2 v3 j4  ?_
          exact B_X5_firstFault_r4_65_s1 Ln I A v1 v2 v3 j4 v2 
        · try simp only [if_neg q4]
          refine B_X5_firstFault_r4_60 Ln I A v1 v2 v3 j4  ?_
          exact B_X5_firstFault_r4_65_s1 Ln I A v1 v2 v3 j4 (-1) 
    · try simp only [if_neg q2]
      have h5 := h.2 q2
      refine B_X5_firstFault_r4_7 Ln I A v1 v2 v3 j4  (fun q8 => ?_) (fun q8 => ?_)
      · try simp only [if_pos q8]
        have h9 := h5.1 q8
        obtain ⟨g10_0, r11_⟩ := h9
        refine B_X5_firstFault_r4_15 Ln I A v1 v2 v3 j4 g10_0 ?_
        obtain ⟨g12_0, r13_⟩ := r11_
        refine B_X5_firstFault_r4_22_s1 Ln I A v1 v2 v3 j4 (A 4 ((v1 + v3) - 1).toNatClampNeg) g12_0 (M_X5_mayStand Ln I A v3 (A 4 (v1 + v3).toNatClampNeg) (A 4 ((v1 + v3) - 1).toNatClampNeg) ) rfl ?_
        refine B_X5_firstFault_r4_35_s1 Ln I A v1 v2 v3 (A 4 ((v1 + v3) - 1).toNatClampNeg) (V_X5_mayStand Ln I A v3 (A 4 (v1 + v3).toNatClampNeg) (A 4 ((v1 + v3) - 1).toNatClampNeg))  (fun q16 => ?_) (fun q16 => ?_)
        · try simp only [if_pos q16]
          have h17 := r13_.1 q16
          refine B_X5_firstFault_r4_40 Ln I A v1 v2 v3 (A 4 ((v1 + v3) - 1).toNatClampNeg)  ?_
          exact ih I A v1 v2 (v3 + 1) (some (A 4 ((v1 + v3) - 1).toNatClampNeg)) h17
        · try simp only [if_neg q16]
          exact B_X5_firstFault_r4_38 Ln I A v1 v2 v3 (A 4 ((v1 + v3) - 1).toNatClampNeg) 
      · try simp only [if_neg q8]
        have h20 := h5.2 q8
        refine B_X5_firstFault_r4_11 Ln I A v1 v2 v3 j4  ?_
        obtain ⟨g23_0, r24_⟩ := h20
        refine B_X5_firstFault_r4_22_s1 Ln I A v1 v2 v3 j4 0 g23_0 (M_X5_mayStand Ln I A v3 (A 4 (v1 + v3).toNatClampNeg) 0 ) rfl ?_
        refine B_X5_firstFault_r4_35_s1 Ln I A v1 v2 v3 0 (V_X5_mayStand Ln I A v3 (A 4 (v1 + v3).toNatClampNeg) 0)  (fun q27 => ?_) (fun q27 => ?_)
        · try simp only [if_pos q27]
          have h28 := r24_.1 q27
          refine B_X5_firstFault_r4_40 Ln I A v1 v2 v3 0  ?_
          exact ih I A v1 v2 (v3 + 1) (some 0) h28
        · try simp only [if_neg q27]
          exact B_X5_firstFault_r4_38 Ln I A v1 v2 v3 0 
def V_X5_firstFault_r4 (Ln : Nat) (I A : Nat → Nat → Int32) (v1 : Int32) (v2 : Int32) : Int32 := LA_X5_firstFault_r4_2 1000 Ln I A v1 v2 0 none
def P_X5_firstFault_r4 (Ln : Nat) (I A : Nat → Nat → Int32) (v1 : Int32) (v2 : Int32) : Prop := PLA_X5_firstFault_r4_2 1000 Ln I A v1 v2 0 none
set_option maxRecDepth 100000 in
theorem M_X5_firstFault_r4 (Ln : Nat) (I A : Nat → Nat → Int32) (v1 : Int32) (v2 : Int32) (h : P_X5_firstFault_r4 Ln I A v1 v2) : zEv 26 0 0 0 [some (.ref 4), some (.int v1), some (.int v2), none, none] [] (zGs Ln I A) (some (.int (V_X5_firstFault_r4 Ln I A v1 v2)), zGs Ln (I) (A)) := by
  unfold P_X5_firstFault_r4 at h
  unfold V_X5_firstFault_r4
  refine B_X5_firstFault_r4_0 Ln I A v1 v2  ?_
  exact MLA_X5_firstFault_r4_2 1000 Ln I A v1 v2 0 none h
def LA_X5_firstFault_r6_2 : Nat → (Ln : Nat) → (I A : Nat → Nat → Int32) → Int32 → Int32 → Int32 → (Option Int32) → Int32
  | 0, Ln, I, A, v1, v2, v3, j4 => 0
  | m + 1, Ln, I, A, v1, v2, v3, j4 => if v2 ≤ v3 then (if v2 ≤ 5 then v2 else (if ((v2 - 5) - (v2 - 5) / 6 * 6) ≠ 0 then v2 else (-1))) else (if v3 ≠ 0 then (if (V_X5_mayStand Ln I A v3 (A 6 (v1 + v3).toNatClampNeg) (A 6 ((v1 + v3) - 1).toNatClampNeg)) ≠ 0 then (LA_X5_firstFault_r6_2 m Ln I A v1 v2 (v3 + 1) (some (A 6 ((v1 + v3) - 1).toNatClampNeg))) else v3) else (if (V_X5_mayStand Ln I A v3 (A 6 (v1 + v3).toNatClampNeg) 0) ≠ 0 then (LA_X5_firstFault_r6_2 m Ln I A v1 v2 (v3 + 1) (some 0)) else v3))
def PLA_X5_firstFault_r6_2 : Nat → (Ln : Nat) → (I A : Nat → Nat → Int32) → Int32 → Int32 → Int32 → (Option Int32) → Prop
  | 0, Ln, I, A, v1, v2, v3, j4 => False
  | m + 1, Ln, I, A, v1, v2, v3, j4 => (v2 ≤ v3 → True) ∧ (¬ (v2 ≤ v3) → ((v3 ≠ 0 → ((zin ((v1 + v3) - 1) 60 = true) ∧ ((zin (v1 + v3) 60 = true) ∧ (((V_X5_mayStand Ln I A v3 (A 6 (v1 + v3).toNatClampNeg) (A 6 ((v1 + v3) - 1).toNatClampNeg)) ≠ 0 → (PLA_X5_firstFault_r6_2 m Ln I A v1 v2 (v3 + 1) (some (A 6 ((v1 + v3) - 1).toNatClampNeg)))) ∧ (¬ ((V_X5_mayStand Ln I A v3 (A 6 (v1 + v3).toNatClampNeg) (A 6 ((v1 + v3) - 1).toNatClampNeg)) ≠ 0) → True))))) ∧ (¬ (v3 ≠ 0) → ((zin (v1 + v3) 60 = true) ∧ (((V_X5_mayStand Ln I A v3 (A 6 (v1 + v3).toNatClampNeg) 0) ≠ 0 → (PLA_X5_firstFault_r6_2 m Ln I A v1 v2 (v3 + 1) (some 0))) ∧ (¬ ((V_X5_mayStand Ln I A v3 (A 6 (v1 + v3).toNatClampNeg) 0) ≠ 0) → True))))))
set_option maxRecDepth 100000 in
theorem MLA_X5_firstFault_r6_2 (m Ln : Nat) : ∀ (I A : Nat → Nat → Int32) (v1 : Int32) (v2 : Int32) (v3 : Int32) (j4 : Option Int32), PLA_X5_firstFault_r6_2 m Ln I A v1 v2 v3 j4 → zEv 26 2 0 0 [some (.ref 6), some (.int v1), some (.int v2), some (.int v3), (Option.map Value.int j4)] [] (zGs Ln I A) (some (.int (LA_X5_firstFault_r6_2 m Ln I A v1 v2 v3 j4)), zGs Ln I A) := by
  induction m with
  | zero => intro I A v1 v2 v3 j4 h; exact h.elim
  | succ m ih =>
    intro I A v1 v2 v3 j4 h
    simp only [PLA_X5_firstFault_r6_2] at h
    simp only [LA_X5_firstFault_r6_2]
    refine B_X5_firstFault_r6_2 Ln I A v1 v2 v3 j4  (fun q2 => ?_) (fun q2 => ?_)
    · try simp only [if_pos q2]
      refine B_X5_firstFault_r6_46 Ln I A v1 v2 v3 j4  (fun q3 => ?_) (fun q3 => ?_)
      · try simp only [if_pos q3]
        refine B_X5_firstFault_r6_64 Ln I A v1 v2 v3 j4  ?_
        exact B_X5_firstFault_r6_65_s1 Ln I A v1 v2 v3 j4 v2 
      · try simp only [if_neg q3]
        refine B_X5_firstFault_r6_51 Ln I A v1 v2 v3 j4  (fun q4 => ?_) (fun q4 => ?_)
        · try simp only [if_pos q4]
          refine B_X5_firstFault_r6_64 Ln I A v1 v2 v3 j4  ?_
          exact B_X5_firstFault_r6_65_s1 Ln I A v1 v2 v3 j4 v2 
        · try simp only [if_neg q4]
          refine B_X5_firstFault_r6_60 Ln I A v1 v2 v3 j4  ?_
          exact B_X5_firstFault_r6_65_s1 Ln I A v1 v2 v3 j4 (-1) 
    · try simp only [if_neg q2]
      have h5 := h.2 q2
      refine B_X5_firstFault_r6_7 Ln I A v1 v2 v3 j4  (fun q8 => ?_) (fun q8 => ?_)
      · try simp only [if_pos q8]
        have h9 := h5.1 q8
        obtain ⟨g10_0, r11_⟩ := h9
        refine B_X5_firstFault_r6_15 Ln I A v1 v2 v3 j4 g10_0 ?_
        obtain ⟨g12_0, r13_⟩ := r11_
        refine B_X5_firstFault_r6_22_s1 Ln I A v1 v2 v3 j4 (A 6 ((v1 + v3) - 1).toNatClampNeg) g12_0 (M_X5_mayStand Ln I A v3 (A 6 (v1 + v3).toNatClampNeg) (A 6 ((v1 + v3) - 1).toNatClampNeg) ) rfl ?_
        refine B_X5_firstFault_r6_35_s1 Ln I A v1 v2 v3 (A 6 ((v1 + v3) - 1).toNatClampNeg) (V_X5_mayStand Ln I A v3 (A 6 (v1 + v3).toNatClampNeg) (A 6 ((v1 + v3) - 1).toNatClampNeg))  (fun q16 => ?_) (fun q16 => ?_)
        · try simp only [if_pos q16]
          have h17 := r13_.1 q16
          refine B_X5_firstFault_r6_40 Ln I A v1 v2 v3 (A 6 ((v1 + v3) - 1).toNatClampNeg)  ?_
          exact ih I A v1 v2 (v3 + 1) (some (A 6 ((v1 + v3) - 1).toNatClampNeg)) h17
        · try simp only [if_neg q16]
          exact B_X5_firstFault_r6_38 Ln I A v1 v2 v3 (A 6 ((v1 + v3) - 1).toNatClampNeg) 
      · try simp only [if_neg q8]
        have h20 := h5.2 q8
        refine B_X5_firstFault_r6_11 Ln I A v1 v2 v3 j4  ?_
        obtain ⟨g23_0, r24_⟩ := h20
        refine B_X5_firstFault_r6_22_s1 Ln I A v1 v2 v3 j4 0 g23_0 (M_X5_mayStand Ln I A v3 (A 6 (v1 + v3).toNatClampNeg) 0 ) rfl ?_
        refine B_X5_firstFault_r6_35_s1 Ln I A v1 v2 v3 0 (V_X5_mayStand Ln I A v3 (A 6 (v1 + v3).toNatClampNeg) 0)  (fun q27 => ?_) (fun q27 => ?_)
        · try simp only [if_pos q27]
          have h28 := r24_.1 q27
          refine B_X5_firstFault_r6_40 Ln I A v1 v2 v3 0  ?_
          exact ih I A v1 v2 (v3 + 1) (some 0) h28
        · try simp only [if_neg q27]
          exact B_X5_firstFault_r6_38 Ln I A v1 v2 v3 0 
def V_X5_firstFault_r6 (Ln : Nat) (I A : Nat → Nat → Int32) (v1 : Int32) (v2 : Int32) : Int32 := LA_X5_firstFault_r6_2 1000 Ln I A v1 v2 0 none
def P_X5_firstFault_r6 (Ln : Nat) (I A : Nat → Nat → Int32) (v1 : Int32) (v2 : Int32) : Prop := PLA_X5_firstFault_r6_2 1000 Ln I A v1 v2 0 none
set_option maxRecDepth 100000 in
theorem M_X5_firstFault_r6 (Ln : Nat) (I A : Nat → Nat → Int32) (v1 : Int32) (v2 : Int32) (h : P_X5_firstFault_r6 Ln I A v1 v2) : zEv 26 0 0 0 [some (.ref 6), some (.int v1), some (.int v2), none, none] [] (zGs Ln I A) (some (.int (V_X5_firstFault_r6 Ln I A v1 v2)), zGs Ln (I) (A)) := by
  unfold P_X5_firstFault_r6 at h
  unfold V_X5_firstFault_r6
  refine B_X5_firstFault_r6_0 Ln I A v1 v2  ?_
  exact MLA_X5_firstFault_r6_2 1000 Ln I A v1 v2 0 none h
