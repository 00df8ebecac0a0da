/-! methods, by program (wip/whole/gen_fun.py, gen_loop.py) -/
def LA_X5_firstFault_r8_2 : Nat → (Ln : Nat) → (I A : Nat → Nat → Int32) → Int32 → Int32 → Int32 → (Option Int32) → Int32
  | 0, Ln, I, A, v1, v2, v3, j4 => 0
  | m + 1, Ln, I, A, v1, v2, v3, j4 => if v2 ≤ v3 then (if v2 ≤ 5 then v2 else (if ((v2 - 5) - (v2 - 5) / 6 * 6) ≠ 0 then v2 else (-1))) else (if v3 ≠ 0 then (if (V_X5_mayStand Ln I A v3 (A 8 (v1 + v3).toNatClampNeg) (A 8 ((v1 + v3) - 1).toNatClampNeg)) ≠ 0 then (LA_X5_firstFault_r8_2 m Ln I A v1 v2 (v3 + 1) (some (A 8 ((v1 + v3) - 1).toNatClampNeg))) else v3) else (if (V_X5_mayStand Ln I A v3 (A 8 (v1 + v3).toNatClampNeg) 0) ≠ 0 then (LA_X5_firstFault_r8_2 m Ln I A v1 v2 (v3 + 1) (some 0)) else v3))
def PLA_X5_firstFault_r8_2 : Nat → (Ln : Nat) → (I A : Nat → Nat → Int32) → Int32 → Int32 → Int32 → (Option Int32) → Prop
  | 0, Ln, I, A, v1, v2, v3, j4 => False
  | m + 1, Ln, I, A, v1, v2, v3, j4 => (v2 ≤ v3 → True) ∧ (¬ (v2 ≤ v3) → ((v3 ≠ 0 → ((zin ((v1 + v3) - 1) 60 = true) ∧ ((zin (v1 + v3) 60 = true) ∧ (((V_X5_mayStand Ln I A v3 (A 8 (v1 + v3).toNatClampNeg) (A 8 ((v1 + v3) - 1).toNatClampNeg)) ≠ 0 → (PLA_X5_firstFault_r8_2 m Ln I A v1 v2 (v3 + 1) (some (A 8 ((v1 + v3) - 1).toNatClampNeg)))) ∧ (¬ ((V_X5_mayStand Ln I A v3 (A 8 (v1 + v3).toNatClampNeg) (A 8 ((v1 + v3) - 1).toNatClampNeg)) ≠ 0) → True))))) ∧ (¬ (v3 ≠ 0) → ((zin (v1 + v3) 60 = true) ∧ (((V_X5_mayStand Ln I A v3 (A 8 (v1 + v3).toNatClampNeg) 0) ≠ 0 → (PLA_X5_firstFault_r8_2 m Ln I A v1 v2 (v3 + 1) (some 0))) ∧ (¬ ((V_X5_mayStand Ln I A v3 (A 8 (v1 + v3).toNatClampNeg) 0) ≠ 0) → True))))))
set_option maxRecDepth 100000 in
theorem MLA_X5_firstFault_r8_2 (m Ln : Nat) : ∀ (I A : Nat → Nat → Int32) (v1 : Int32) (v2 : Int32) (v3 : Int32) (j4 : Option Int32), PLA_X5_firstFault_r8_2 m Ln I A v1 v2 v3 j4 → zEv 26 2 0 0 [some (.ref 8), some (.int v1), some (.int v2), some (.int v3), (Option.map Value.int j4)] [] (zGs Ln I A) (some (.int (LA_X5_firstFault_r8_2 m Ln I A v1 v2 v3 j4)), zGs Ln I A) := by
  induction m with
  | zero => intro I A v1 v2 v3 j4 h; exact h.elim
  | succ m ih =>
    intro I A v1 v2 v3 j4 h
    simp only [PLA_X5_firstFault_r8_2] at h
    simp only [LA_X5_firstFault_r8_2]
    refine B_X5_firstFault_r8_2 Ln I A v1 v2 v3 j4  (fun q2 => ?_) (fun q2 => ?_)
    · try simp only [if_pos q2]
      refine B_X5_firstFault_r8_46 Ln I A v1 v2 v3 j4  (fun q3 => ?_) (fun q3 => ?_)
      · try simp only [if_pos q3]
        refine B_X5_firstFault_r8_64 Ln I A v1 v2 v3 j4  ?_
        exact B_X5_firstFault_r8_65_s1 Ln I A v1 v2 v3 j4 v2 
      · try simp only [if_neg q3]
        refine B_X5_firstFault_r8_51 Ln I A v1 v2 v3 j4  (fun q4 => ?_) (fun q4 => ?_)
        · try simp only [if_pos q4]
          refine B_X5_firstFault_r8_64 Ln I A v1 v2 v3 j4  ?_
          exact B_X5_firstFault_r8_65_s1 Ln I A v1 v2 v3 j4 v2 
        · try simp only [if_neg q4]
          refine B_X5_firstFault_r8_60 Ln I A v1 v2 v3 j4  ?_
          exact B_X5_firstFault_r8_65_s1 Ln I A v1 v2 v3 j4 (-1) 
    · try simp only [if_neg q2]
      have h5 := h.2 q2
      refine B_X5_firstFault_r8_7 Ln I A v1 v2 v3 j4  (fun q8 => ?_) (fun q8 => ?_)
      · try simp only [if_pos q8]
        have h9 := h5.1 q8
        obtain ⟨g10_0, r11_⟩ := h9
        refine B_X5_firstFault_r8_15 Ln I A v1 v2 v3 j4 g10_0 ?_
        obtain ⟨g12_0, r13_⟩ := r11_
        refine B_X5_firstFault_r8_22_s1 Ln I A v1 v2 v3 j4 (A 8 ((v1 + v3) - 1).toNatClampNeg) g12_0 (M_X5_mayStand Ln I A v3 (A 8 (v1 + v3).toNatClampNeg) (A 8 ((v1 + v3) - 1).toNatClampNeg) ) rfl ?_
        refine B_X5_firstFault_r8_35_s1 Ln I A v1 v2 v3 (A 8 ((v1 + v3) - 1).toNatClampNeg) (V_X5_mayStand Ln I A v3 (A 8 (v1 + v3).toNatClampNeg) (A 8 ((v1 + v3) - 1).toNatClampNeg))  (fun q16 => ?_) (fun q16 => ?_)
        · try simp only [if_pos q16]
          have h17 := r13_.1 q16
          refine B_X5_firstFault_r8_40 Ln I A v1 v2 v3 (A 8 ((v1 + v3) - 1).toNatClampNeg)  ?_
          exact ih I A v1 v2 (v3 + 1) (some (A 8 ((v1 + v3) - 1).toNatClampNeg)) h17
        · try simp only [if_neg q16]
          exact B_X5_firstFault_r8_38 Ln I A v1 v2 v3 (A 8 ((v1 + v3) - 1).toNatClampNeg) 
      · try simp only [if_neg q8]
        have h20 := h5.2 q8
        refine B_X5_firstFault_r8_11 Ln I A v1 v2 v3 j4  ?_
        obtain ⟨g23_0, r24_⟩ := h20
        refine B_X5_firstFault_r8_22_s1 Ln I A v1 v2 v3 j4 0 g23_0 (M_X5_mayStand Ln I A v3 (A 8 (v1 + v3).toNatClampNeg) 0 ) rfl ?_
        refine B_X5_firstFault_r8_35_s1 Ln I A v1 v2 v3 0 (V_X5_mayStand Ln I A v3 (A 8 (v1 + v3).toNatClampNeg) 0)  (fun q27 => ?_) (fun q27 => ?_)
        · try simp only [if_pos q27]
          have h28 := r24_.1 q27
          refine B_X5_firstFault_r8_40 Ln I A v1 v2 v3 0  ?_
          exact ih I A v1 v2 (v3 + 1) (some 0) h28
        · try simp only [if_neg q27]
          exact B_X5_firstFault_r8_38 Ln I A v1 v2 v3 0 
def V_X5_firstFault_r8 (Ln : Nat) (I A : Nat → Nat → Int32) (v1 : Int32) (v2 : Int32) : Int32 := LA_X5_firstFault_r8_2 1000 Ln I A v1 v2 0 none
def P_X5_firstFault_r8 (Ln : Nat) (I A : Nat → Nat → Int32) (v1 : Int32) (v2 : Int32) : Prop := PLA_X5_firstFault_r8_2 1000 Ln I A v1 v2 0 none
set_option maxRecDepth 100000 in
theorem M_X5_firstFault_r8 (Ln : Nat) (I A : Nat → Nat → Int32) (v1 : Int32) (v2 : Int32) (h : P_X5_firstFault_r8 Ln I A v1 v2) : zEv 26 0 0 0 [some (.ref 8), some (.int v1), some (.int v2), none, none] [] (zGs Ln I A) (some (.int (V_X5_firstFault_r8 Ln I A v1 v2)), zGs Ln (I) (A)) := by
  unfold P_X5_firstFault_r8 at h
  unfold V_X5_firstFault_r8
  refine B_X5_firstFault_r8_0 Ln I A v1 v2  ?_
  exact MLA_X5_firstFault_r8_2 1000 Ln I A v1 v2 0 none h
def LA_X5_firstFault_r10_2 : Nat → (Ln : Nat) → (I A : Nat → Nat → Int32) → Int32 → Int32 → Int32 → (Option Int32) → Int32
  | 0, Ln, I, A, v1, v2, v3, j4 => 0
  | m + 1, Ln, I, A, v1, v2, v3, j4 => if v2 ≤ v3 then (if v2 ≤ 5 then v2 else (if ((v2 - 5) - (v2 - 5) / 6 * 6) ≠ 0 then v2 else (-1))) else (if v3 ≠ 0 then (if (V_X5_mayStand Ln I A v3 (A 10 (v1 + v3).toNatClampNeg) (A 10 ((v1 + v3) - 1).toNatClampNeg)) ≠ 0 then (LA_X5_firstFault_r10_2 m Ln I A v1 v2 (v3 + 1) (some (A 10 ((v1 + v3) - 1).toNatClampNeg))) else v3) else (if (V_X5_mayStand Ln I A v3 (A 10 (v1 + v3).toNatClampNeg) 0) ≠ 0 then (LA_X5_firstFault_r10_2 m Ln I A v1 v2 (v3 + 1) (some 0)) else v3))
def PLA_X5_firstFault_r10_2 : Nat → (Ln : Nat) → (I A : Nat → Nat → Int32) → Int32 → Int32 → Int32 → (Option Int32) → Prop
  | 0, Ln, I, A, v1, v2, v3, j4 => False
  | m + 1, Ln, I, A, v1, v2, v3, j4 => (v2 ≤ v3 → True) ∧ (¬ (v2 ≤ v3) → ((v3 ≠ 0 → ((zin ((v1 + v3) - 1) 60 = true) ∧ ((zin (v1 + v3) 60 = true) ∧ (((V_X5_mayStand Ln I A v3 (A 10 (v1 + v3).toNatClampNeg) (A 10 ((v1 + v3) - 1).toNatClampNeg)) ≠ 0 → (PLA_X5_firstFault_r10_2 m Ln I A v1 v2 (v3 + 1) (some (A 10 ((v1 + v3) - 1).toNatClampNeg)))) ∧ (¬ ((V_X5_mayStand Ln I A v3 (A 10 (v1 + v3).toNatClampNeg) (A 10 ((v1 + v3) - 1).toNatClampNeg)) ≠ 0) → True))))) ∧ (¬ (v3 ≠ 0) → ((zin (v1 + v3) 60 = true) ∧ (((V_X5_mayStand Ln I A v3 (A 10 (v1 + v3).toNatClampNeg) 0) ≠ 0 → (PLA_X5_firstFault_r10_2 m Ln I A v1 v2 (v3 + 1) (some 0))) ∧ (¬ ((V_X5_mayStand Ln I A v3 (A 10 (v1 + v3).toNatClampNeg) 0) ≠ 0) → True))))))
set_option maxRecDepth 100000 in
theorem MLA_X5_firstFault_r10_2 (m Ln : Nat) : ∀ (I A : Nat → Nat → Int32) (v1 : Int32) (v2 : Int32) (v3 : Int32) (j4 : Option Int32), PLA_X5_firstFault_r10_2 m Ln I A v1 v2 v3 j4 → zEv 26 2 0 0 [some (.ref 10), some (.int v1), some (.int v2), some (.int v3), (Option.map Value.int j4)] [] (zGs Ln I A) (some (.int (LA_X5_firstFault_r10_2 m Ln I A v1 v2 v3 j4)), zGs Ln I A) := by
  induction m with
  | zero => intro I A v1 v2 v3 j4 h; exact h.elim
  | succ m ih =>
    intro I A v1 v2 v3 j4 h
    simp only [PLA_X5_firstFault_r10_2] at h
    simp only [LA_X5_firstFault_r10_2]
    refine B_X5_firstFault_r10_2 Ln I A v1 v2 v3 j4  (fun q2 => ?_) (fun q2 => ?_)
    · try simp only [if_pos q2]
      refine B_X5_firstFault_r10_46 Ln I A v1 v2 v3 j4  (fun q3 => ?_) (fun q3 => ?_)
      · try simp only [if_pos q3]
        refine B_X5_firstFault_r10_64 Ln I A v1 v2 v3 j4  ?_
        exact B_X5_firstFault_r10_65_s1 Ln I A v1 v2 v3 j4 v2 
      · try simp only [if_neg q3]
        refine B_X5_firstFault_r10_51 Ln I A v1 v2 v3 j4  (fun q4 => ?_) (fun q4 => ?_)
        · try simp only [if_pos q4]
          refine B_X5_firstFault_r10_64 Ln I A v1 v2 v3 j4  ?_
          exact B_X5_firstFault_r10_65_s1 Ln I A v1 v2 v3 j4 v2 
        · try simp only [if_neg q4]
          refine B_X5_firstFault_r10_60 Ln I A v1 v2 v3 j4  ?_
          exact B_X5_firstFault_r10_65_s1 Ln I A v1 v2 v3 j4 (-1) 
    · try simp only [if_neg q2]
      have h5 := h.2 q2
      refine B_X5_firstFault_r10_7 Ln I A v1 v2 v3 j4  (fun q8 => ?_) (fun q8 => ?_)
      · try simp only [if_pos q8]
        have h9 := h5.1 q8
        obtain ⟨g10_0, r11_⟩ := h9
        refine B_X5_firstFault_r10_15 Ln I A v1 v2 v3 j4 g10_0 ?_
        obtain ⟨g12_0, r13_⟩ := r11_
        refine B_X5_firstFault_r10_22_s1 Ln I A v1 v2 v3 j4 (A 10 ((v1 + v3) - 1).toNatClampNeg) g12_0 (M_X5_mayStand Ln I A v3 (A 10 (v1 + v3).toNatClampNeg) (A 10 ((v1 + v3) - 1).toNatClampNeg) ) rfl ?_
        refine B_X5_firstFault_r10_35_s1 Ln I A v1 v2 v3 (A 10 ((v1 + v3) - 1).toNatClampNeg) (V_X5_mayStand Ln I A v3 (A 10 (v1 + v3).toNatClampNeg) (A 10 ((v1 + v3) - 1).toNatClampNeg))  (fun q16 => ?_) (fun q16 => ?_)
        · try simp only [if_pos q16]
          have h17 := r13_.1 q16
          refine B_X5_firstFault_r10_40 Ln I A v1 v2 v3 (A 10 ((v1 + v3) - 1).toNatClampNeg)  ?_
          exact ih I A v1 v2 (v3 + 1) (some (A 10 ((v1 + v3) - 1).toNatClampNeg)) h17
        · try simp only [if_neg q16]
          exact B_X5_firstFault_r10_38 Ln I A v1 v2 v3 (A 10 ((v1 + v3) - 1).toNatClampNeg) 
      · try simp only [if_neg q8]
        have h20 := h5.2 q8
        refine B_X5_firstFault_r10_11 Ln I A v1 v2 v3 j4  ?_
        obtain ⟨g23_0, r24_⟩ := h20
        refine B_X5_firstFault_r10_22_s1 Ln I A v1 v2 v3 j4 0 g23_0 (M_X5_mayStand Ln I A v3 (A 10 (v1 + v3).toNatClampNeg) 0 ) rfl ?_
        refine B_X5_firstFault_r10_35_s1 Ln I A v1 v2 v3 0 (V_X5_mayStand Ln I A v3 (A 10 (v1 + v3).toNatClampNeg) 0)  (fun q27 => ?_) (fun q27 => ?_)
        · try simp only [if_pos q27]
          have h28 := r24_.1 q27
          refine B_X5_firstFault_r10_40 Ln I A v1 v2 v3 0  ?_
          exact ih I A v1 v2 (v3 + 1) (some 0) h28
        · try simp only [if_neg q27]
          exact B_X5_firstFault_r10_38 Ln I A v1 v2 v3 0 
def V_X5_firstFault_r10 (Ln : Nat) (I A : Nat → Nat → Int32) (v1 : Int32) (v2 : Int32) : Int32 := LA_X5_firstFault_r10_2 1000 Ln I A v1 v2 0 none
def P_X5_firstFault_r10 (Ln : Nat) (I A : Nat → Nat → Int32) (v1 : Int32) (v2 : Int32) : Prop := PLA_X5_firstFault_r10_2 1000 Ln I A v1 v2 0 none
set_option maxRecDepth 100000 in
theorem M_X5_firstFault_r10 (Ln : Nat) (I A : Nat → Nat → Int32) (v1 : Int32) (v2 : Int32) (h : P_X5_firstFault_r10 Ln I A v1 v2) : zEv 26 0 0 0 [some (.ref 10), some (.int v1), some (.int v2), none, none] [] (zGs Ln I A) (some (.int (V_X5_firstFault_r10 Ln I A v1 v2)), zGs Ln (I) (A)) := by
  unfold P_X5_firstFault_r10 at h
  unfold V_X5_firstFault_r10
  refine B_X5_firstFault_r10_0 Ln I A v1 v2  ?_
  exact MLA_X5_firstFault_r10_2 1000 Ln I A v1 v2 0 none h
def V_X7_law_r1 (Ln : Nat) (I A : Nat → Nat → Int32) (v1 : Int32) : Int32 := if v1 < 0 then (-2) else (if v1 < 3 then (if (V_X7_noBank_r1 Ln I A ) = 0 then (I 1 9) else (-3)) else (-2))
def SI_X7_law_r1 (Ln : Nat) (I A : Nat → Nat → Int32) (v1 : Int32) : Nat → Nat → Int32 := if v1 < 0 then I else (if v1 < 3 then (if (V_X7_noBank_r1 Ln I A ) = 0 then (zp I 1 9 v1) else I) else I)
def SA_X7_law_r1 (Ln : Nat) (I A : Nat → Nat → Int32) (v1 : Int32) : Nat → Nat → Int32 := if v1 < 0 then A else (if v1 < 3 then (if (V_X7_noBank_r1 Ln I A ) = 0 then (SA_X7_goThroughNights_r1 Ln (zp I 1 9 v1) A ) else A) else A)
def P_X7_law_r1 (Ln : Nat) (I A : Nat → Nat → Int32) (v1 : Int32) : Prop := (v1 < 0 → True) ∧ (¬ (v1 < 0) → ((v1 < 3 → (((V_X7_noBank_r1 Ln I A ) = 0 → (P_X7_goThroughNights_r1 Ln (zp I 1 9 v1) A )) ∧ (¬ ((V_X7_noBank_r1 Ln I A ) = 0) → True))) ∧ (¬ (v1 < 3) → True)))
set_option maxRecDepth 100000 in
theorem M_X7_law_r1 (Ln : Nat) (I A : Nat → Nat → Int32) (v1 : Int32) (h : P_X7_law_r1 Ln I A v1) : zEv 48 0 0 0 [some (.ref 1), some (.int v1), none] [] (zGs Ln I A) (some (.int (V_X7_law_r1 Ln I A v1)), zGs Ln (SI_X7_law_r1 Ln I A v1) (SA_X7_law_r1 Ln I A v1)) := by
  unfold P_X7_law_r1 at h
  unfold V_X7_law_r1 SI_X7_law_r1 SA_X7_law_r1
  refine B_X7_law_r1_0 Ln I A v1  (fun q2 => ?_) (fun q2 => ?_)
  · try simp only [if_pos q2]
    exact B_X7_law_r1_9 Ln I A v1 
  · try simp only [if_neg q2]
    have h3 := h.2 q2
    refine B_X7_law_r1_4 Ln I A v1  (fun q6 => ?_) (fun q6 => ?_)
    · try simp only [if_pos q6]
      have h7 := h3.1 q6
      refine B_X7_law_r1_12 Ln I A v1  (M_X7_noBank_r1 Ln I A  ) rfl ?_
      refine B_X7_law_r1_16_s1 Ln I A v1 (V_X7_noBank_r1 Ln I A )  (fun q12 => ?_) (fun q12 => ?_)
      · try simp only [if_pos q12]
        have h13 := h7.1 q12
        refine B_X7_law_r1_22 Ln I A v1  (M_X7_goThroughNights_r1 Ln (zp I 1 9 v1) A  h13) rfl ?_
        exact B_X7_law_r1_36 Ln (zp I 1 9 v1) (SA_X7_goThroughNights_r1 Ln (zp I 1 9 v1) A ) v1 (I 1 9) 
      · try simp only [if_neg q12]
        exact B_X7_law_r1_19 Ln I A v1 
    · try simp only [if_neg q6]
      exact B_X7_law_r1_9 Ln I A v1 
def V_X7_loan_r1 (Ln : Nat) (I A : Nat → Nat → Int32) (v1 : Int32) (v2 : Int32) (v3 : Int32) : Int32 := if (V_X7_isShade_r1 Ln I A v1) = 0 then (-1) else (if (V_X7_isShade_r1 Ln I A v2) = 0 then (-1) else (if v1 ≠ v2 then (if v3 < 1 then (-2) else (if v3 ≤ 3 then (if v3 ≤ (A 42 (v1).toNatClampNeg) then (if (I 18 3) ≠ 6 then (V_X2_add_r18 Ln I A v1 v2 v3) else (-4)) else (-3)) else (-2))) else (-1)))
def SI_X7_loan_r1 (Ln : Nat) (I A : Nat → Nat → Int32) (v1 : Int32) (v2 : Int32) (v3 : Int32) : Nat → Nat → Int32 := if (V_X7_isShade_r1 Ln I A v1) = 0 then I else (if (V_X7_isShade_r1 Ln I A v2) = 0 then I else (if v1 ≠ v2 then (if v3 < 1 then I else (if v3 ≤ 3 then (if v3 ≤ (A 42 (v1).toNatClampNeg) then (if (I 18 3) ≠ 6 then (SI_X2_add_r18 Ln I A v1 v2 v3) else I) else I) else I)) else I))
def SA_X7_loan_r1 (Ln : Nat) (I A : Nat → Nat → Int32) (v1 : Int32) (v2 : Int32) (v3 : Int32) : Nat → Nat → Int32 := if (V_X7_isShade_r1 Ln I A v1) = 0 then A else (if (V_X7_isShade_r1 Ln I A v2) = 0 then A else (if v1 ≠ v2 then (if v3 < 1 then A else (if v3 ≤ 3 then (if v3 ≤ (A 42 (v1).toNatClampNeg) then (if (I 18 3) ≠ 6 then (SA_X7_goThroughNights_r1 Ln (SI_X2_add_r18 Ln I A v1 v2 v3) (SA_X2_add_r18 Ln I A v1 v2 v3) ) else A) else A) else A)) else A))
def P_X7_loan_r1 (Ln : Nat) (I A : Nat → Nat → Int32) (v1 : Int32) (v2 : Int32) (v3 : Int32) : Prop := ((V_X7_isShade_r1 Ln I A v1) = 0 → True) ∧ (¬ ((V_X7_isShade_r1 Ln I A v1) = 0) → (((V_X7_isShade_r1 Ln I A v2) = 0 → True) ∧ (¬ ((V_X7_isShade_r1 Ln I A v2) = 0) → ((v1 ≠ v2 → ((v3 < 1 → True) ∧ (¬ (v3 < 1) → ((v3 ≤ 3 → ((zin v1 6 = true) ∧ ((v3 ≤ (A 42 (v1).toNatClampNeg) → (((I 18 3) ≠ 6 → ((P_X2_add_r18 Ln I A v1 v2 v3) ∧ (P_X7_goThroughNights_r1 Ln (SI_X2_add_r18 Ln I A v1 v2 v3) (SA_X2_add_r18 Ln I A v1 v2 v3) ))) ∧ (¬ ((I 18 3) ≠ 6) → True))) ∧ (¬ (v3 ≤ (A 42 (v1).toNatClampNeg)) → True)))) ∧ (¬ (v3 ≤ 3) → True))))) ∧ (¬ (v1 ≠ v2) → True)))))
set_option maxRecDepth 100000 in
theorem M_X7_loan_r1 (Ln : Nat) (I A : Nat → Nat → Int32) (v1 : Int32) (v2 : Int32) (v3 : Int32) (h : P_X7_loan_r1 Ln I A v1 v2 v3) : zEv 49 0 0 0 [some (.ref 1), some (.int v1), some (.int v2), some (.int v3), none] [] (zGs Ln I A) (some (.int (V_X7_loan_r1 Ln I A v1 v2 v3)), zGs Ln (SI_X7_loan_r1 Ln I A v1 v2 v3) (SA_X7_loan_r1 Ln I A v1 v2 v3)) := by
  unfold P_X7_loan_r1 at h
  unfold V_X7_loan_r1 SI_X7_loan_r1 SA_X7_loan_r1
  refine B_X7_loan_r1_0 Ln I A v1 v2 v3  (M_X7_isShade_r1 Ln I A v1 ) rfl ?_
  refine B_X7_loan_r1_5_s1 Ln I A v1 v2 v3 (V_X7_isShade_r1 Ln I A v1)  (fun q4 => ?_) (fun q4 => ?_)
  · try simp only [if_pos q4]
    exact B_X7_loan_r1_21 Ln I A v1 v2 v3 
  · try simp only [if_neg q4]
    have h5 := h.2 q4
    refine B_X7_loan_r1_8 Ln I A v1 v2 v3  (M_X7_isShade_r1 Ln I A v2 ) rfl ?_
    refine B_X7_loan_r1_13_s1 Ln I A v1 v2 v3 (V_X7_isShade_r1 Ln I A v2)  (fun q10 => ?_) (fun q10 => ?_)
    · try simp only [if_pos q10]
      exact B_X7_loan_r1_21 Ln I A v1 v2 v3 
    · try simp only [if_neg q10]
      have h11 := h5.2 q10
      refine B_X7_loan_r1_16 Ln I A v1 v2 v3  (fun q14 => ?_) (fun q14 => ?_)
      · try simp only [if_pos q14]
        have h15 := h11.1 q14
        refine B_X7_loan_r1_23 Ln I A v1 v2 v3  (fun q18 => ?_) (fun q18 => ?_)
        · try simp only [if_pos q18]
          exact B_X7_loan_r1_33 Ln I A v1 v2 v3 
        · try simp only [if_neg q18]
          have h19 := h15.2 q18
          refine B_X7_loan_r1_28 Ln I A v1 v2 v3  (fun q22 => ?_) (fun q22 => ?_)
          · try simp only [if_pos q22]
            have h23 := h19.1 q22
            obtain ⟨g24_0, r25_⟩ := h23
            refine B_X7_loan_r1_36 Ln I A v1 v2 v3 g24_0 (fun q26 => ?_) (fun q26 => ?_)
            · try simp only [if_pos q26]
              have h27 := r25_.1 q26
              refine B_X7_loan_r1_49 Ln I A v1 v2 v3  (fun q30 => ?_) (fun q30 => ?_)
              · try simp only [if_pos q30]
                have h31 := h27.1 q30
                obtain ⟨g32_0, r33_⟩ := h31
                refine B_X7_loan_r1_64 Ln I A v1 v2 v3  (M_X2_add_r18 Ln I A v1 v2 v3 g32_0) rfl ?_
                refine B_X7_loan_r1_74_s1 Ln (SI_X2_add_r18 Ln I A v1 v2 v3) (SA_X2_add_r18 Ln I A v1 v2 v3) v1 v2 v3 (V_X2_add_r18 Ln I A v1 v2 v3)  (M_X7_goThroughNights_r1 Ln (SI_X2_add_r18 Ln I A v1 v2 v3) (SA_X2_add_r18 Ln I A v1 v2 v3)  r33_) rfl ?_
                exact B_X7_loan_r1_80 Ln (SI_X2_add_r18 Ln I A v1 v2 v3) (SA_X7_goThroughNights_r1 Ln (SI_X2_add_r18 Ln I A v1 v2 v3) (SA_X2_add_r18 Ln I A v1 v2 v3) ) v1 v2 v3 (V_X2_add_r18 Ln I A v1 v2 v3) 
              · try simp only [if_neg q30]
                exact B_X7_loan_r1_61 Ln I A v1 v2 v3 
            · try simp only [if_neg q26]
              exact B_X7_loan_r1_46 Ln I A v1 v2 v3 
          · try simp only [if_neg q22]
            exact B_X7_loan_r1_33 Ln I A v1 v2 v3 
      · try simp only [if_neg q14]
        exact B_X7_loan_r1_21 Ln I A v1 v2 v3 
def V_X7_undo_r1 (Ln : Nat) (I A : Nat → Nat → Int32) (v1 : Int32) : Int32 := if v1 < 0 then (-2) else (if v1 ≤ (I 18 3) then ((zp I 18 3 ((I 18 3) - v1)) 18 3) else (-2))
def SI_X7_undo_r1 (Ln : Nat) (I A : Nat → Nat → Int32) (v1 : Int32) : Nat → Nat → Int32 := if v1 < 0 then I else (if v1 ≤ (I 18 3) then (zp I 18 3 ((I 18 3) - v1)) else I)
def SA_X7_undo_r1 (Ln : Nat) (I A : Nat → Nat → Int32) (v1 : Int32) : Nat → Nat → Int32 := if v1 < 0 then A else (if v1 ≤ (I 18 3) then (SA_X7_goThroughNights_r1 Ln (zp I 18 3 ((I 18 3) - v1)) A ) else A)
def P_X7_undo_r1 (Ln : Nat) (I A : Nat → Nat → Int32) (v1 : Int32) : Prop := (v1 < 0 → True) ∧ (¬ (v1 < 0) → ((v1 ≤ (I 18 3) → (P_X7_goThroughNights_r1 Ln (zp I 18 3 ((I 18 3) - v1)) A )) ∧ (¬ (v1 ≤ (I 18 3)) → True)))
set_option maxRecDepth 100000 in
theorem M_X7_undo_r1 (Ln : Nat) (I A : Nat → Nat → Int32) (v1 : Int32) (h : P_X7_undo_r1 Ln I A v1) : zEv 50 0 0 0 [some (.ref 1), some (.int v1)] [] (zGs Ln I A) (some (.int (V_X7_undo_r1 Ln I A v1)), zGs Ln (SI_X7_undo_r1 Ln I A v1) (SA_X7_undo_r1 Ln I A v1)) := by
  unfold P_X7_undo_r1 at h
  unfold V_X7_undo_r1 SI_X7_undo_r1 SA_X7_undo_r1
  refine B_X7_undo_r1_0 Ln I A v1  (fun q2 => ?_) (fun q2 => ?_)
  · try simp only [if_pos q2]
    exact B_X7_undo_r1_15 Ln I A v1 
  · try simp only [if_neg q2]
    have h3 := h.2 q2
    refine B_X7_undo_r1_4 Ln I A v1  (fun q6 => ?_) (fun q6 => ?_)
    · try simp only [if_pos q6]
      have h7 := h3.1 q6
      refine B_X7_undo_r1_18 Ln I A v1  (M_X7_goThroughNights_r1 Ln (zp I 18 3 ((I 18 3) - v1)) A  h7) rfl ?_
      exact B_X7_undo_r1_35 Ln (zp I 18 3 ((I 18 3) - v1)) (SA_X7_goThroughNights_r1 Ln (zp I 18 3 ((I 18 3) - v1)) A ) v1 
    · try simp only [if_neg q6]
      exact B_X7_undo_r1_15 Ln I A v1 
def LB_X7_gain_r1_51 : Nat → (Ln : Nat) → (I A : Nat → Nat → Int32) → Int32 → Int32 → Int32 → Int32 → Int32 → Int32 × Int32 × Int32 × (Nat → Nat → Int32)
  | 0, Ln, I, A, v1, v2, v3, v4, v5 => (0, 0, 0, A)
  | m + 1, Ln, I, A, v1, v2, v3, v4, v5 => if (I 11 0) ≤ v5 then (v2, v3, v5, A) else (if v4 = v5 then (LB_X7_gain_r1_51 m Ln I A v1 v2 v3 v4 (v5 + 1)) else (if 1 ≤ (A 42 (v4).toNatClampNeg) then (if v3 ≤ (V_X6_waitOfAll_r35 Ln I (SA_X7_tryLoan_r1 Ln I A v4 v5) ) then (LB_X7_gain_r1_51 m Ln I (SA_X7_tryLoan_r1 Ln I A v4 v5) v1 v2 v3 v4 (v5 + 1)) else (LB_X7_gain_r1_51 m Ln I (SA_X7_tryLoan_r1 Ln I A v4 v5) v1 ((10 * v4) + v5) (V_X6_waitOfAll_r35 Ln I (SA_X7_tryLoan_r1 Ln I A v4 v5) ) v4 (v5 + 1))) else (LB_X7_gain_r1_51 m Ln I A v1 v2 v3 v4 (v5 + 1))))
def PLB_X7_gain_r1_51 : Nat → (Ln : Nat) → (I A : Nat → Nat → Int32) → Int32 → Int32 → Int32 → Int32 → Int32 → Prop
  | 0, Ln, I, A, v1, v2, v3, v4, v5 => False
  | m + 1, Ln, I, A, v1, v2, v3, v4, v5 => ((I 11 0) ≤ v5 → True) ∧ (¬ ((I 11 0) ≤ v5) → ((v4 = v5 → (PLB_X7_gain_r1_51 m Ln I A v1 v2 v3 v4 (v5 + 1))) ∧ (¬ (v4 = v5) → ((zin v4 6 = true) ∧ ((1 ≤ (A 42 (v4).toNatClampNeg) → ((P_X7_tryLoan_r1 Ln I A v4 v5) ∧ ((P_X6_waitOfAll_r35 Ln I (SA_X7_tryLoan_r1 Ln I A v4 v5) ) ∧ ((v3 ≤ (V_X6_waitOfAll_r35 Ln I (SA_X7_tryLoan_r1 Ln I A v4 v5) ) → (PLB_X7_gain_r1_51 m Ln I (SA_X7_tryLoan_r1 Ln I A v4 v5) v1 v2 v3 v4 (v5 + 1))) ∧ (¬ (v3 ≤ (V_X6_waitOfAll_r35 Ln I (SA_X7_tryLoan_r1 Ln I A v4 v5) )) → ((P_X6_waitOfAll_r35 Ln I (SA_X7_tryLoan_r1 Ln I A v4 v5) ) ∧ (PLB_X7_gain_r1_51 m Ln I (SA_X7_tryLoan_r1 Ln I A v4 v5) v1 ((10 * v4) + v5) (V_X6_waitOfAll_r35 Ln I (SA_X7_tryLoan_r1 Ln I A v4 v5) ) v4 (v5 + 1)))))))) ∧ (¬ (1 ≤ (A 42 (v4).toNatClampNeg)) → (PLB_X7_gain_r1_51 m Ln I A v1 v2 v3 v4 (v5 + 1))))))))
set_option maxRecDepth 100000 in
theorem MLB_X7_gain_r1_51 (m Ln : Nat) : ∀ (I A : Nat → Nat → Int32) (v1 : Int32) (v2 : Int32) (v3 : Int32) (v4 : Int32) (v5 : Int32) {r : zRs}, PLB_X7_gain_r1_51 m Ln I A v1 v2 v3 v4 v5 → zEv 60 126 0 0 [some (.ref 1), some (.int v1), some (.int ((LB_X7_gain_r1_51 m Ln I A v1 v2 v3 v4 v5).1)), some (.int ((LB_X7_gain_r1_51 m Ln I A v1 v2 v3 v4 v5).2.1)), some (.int v4), some (.int ((LB_X7_gain_r1_51 m Ln I A v1 v2 v3 v4 v5).2.2.1))] [] (zGs Ln I (LB_X7_gain_r1_51 m Ln I A v1 v2 v3 v4 v5).2.2.2) r → zEv 60 51 0 0 [some (.ref 1), some (.int v1), some (.int v2), some (.int v3), some (.int v4), some (.int v5)] [] (zGs Ln I A) r := by
  induction m with
  | zero => intro I A v1 v2 v3 v4 v5 r h hk; exact h.elim
  | succ m ih =>
    intro I A v1 v2 v3 v4 v5 r h hk
    simp only [PLB_X7_gain_r1_51] at h
    simp only [LB_X7_gain_r1_51] at hk
    refine B_X7_gain_r1_51 Ln I A v1 v2 v3 v4 v5  (fun q2 => ?_) (fun q2 => ?_)
    · try simp only [if_pos q2] at hk ⊢
      exact hk
    · try simp only [if_neg q2] at hk ⊢
      have h3 := h.2 q2
      refine B_X7_gain_r1_63 Ln I A v1 v2 v3 v4 v5  (fun q6 => ?_) (fun q6 => ?_)
      · try simp only [if_pos q6] at hk ⊢
        have h7 := h3.1 q6
        refine B_X7_gain_r1_120 Ln I A v1 v2 v3 v4 v5  ?_
        exact ih I A v1 v2 v3 v4 (v5 + 1) h7 hk
      · try simp only [if_neg q6] at hk ⊢
        have h10 := h3.2 q6
        obtain ⟨g11_0, r12_⟩ := h10
        refine B_X7_gain_r1_70 Ln I A v1 v2 v3 v4 v5 g11_0 (fun q13 => ?_) (fun q13 => ?_)
        · try simp only [if_pos q13] at hk ⊢
          have h14 := r12_.1 q13
          obtain ⟨g15_0, r16_⟩ := h14
          refine B_X7_gain_r1_84 Ln I A v1 v2 v3 v4 v5  (M_X7_tryLoan_r1 Ln I A v4 v5 g15_0) rfl ?_
          obtain ⟨g17_0, r18_⟩ := r16_
          refine B_X7_gain_r1_92 Ln I (SA_X7_tryLoan_r1 Ln I A v4 v5) v1 v2 v3 v4 v5  (M_X6_waitOfAll_r35 Ln I (SA_X7_tryLoan_r1 Ln I A v4 v5)  g17_0) rfl ?_
          refine B_X7_gain_r1_99_s1 Ln I (SA_X7_tryLoan_r1 Ln I A v4 v5) v1 v2 v3 v4 v5 (V_X6_waitOfAll_r35 Ln I (SA_X7_tryLoan_r1 Ln I A v4 v5) )  (fun q21 => ?_) (fun q21 => ?_)
          · try simp only [if_pos q21] at hk ⊢
            have h22 := r18_.1 q21
            refine B_X7_gain_r1_120 Ln I (SA_X7_tryLoan_r1 Ln I A v4 v5) v1 v2 v3 v4 v5  ?_
            exact ih I (SA_X7_tryLoan_r1 Ln I A v4 v5) v1 v2 v3 v4 (v5 + 1) h22 hk
          · try simp only [if_neg q21] at hk ⊢
            have h25 := r18_.2 q21
            obtain ⟨g26_0, r27_⟩ := h25
            refine B_X7_gain_r1_103 Ln I (SA_X7_tryLoan_r1 Ln I A v4 v5) v1 v2 v3 v4 v5  (M_X6_waitOfAll_r35 Ln I (SA_X7_tryLoan_r1 Ln I A v4 v5)  g26_0) rfl ?_
            refine B_X7_gain_r1_119_s1 Ln I (SA_X7_tryLoan_r1 Ln I A v4 v5) v1 ((10 * v4) + v5) v3 v4 v5 (V_X6_waitOfAll_r35 Ln I (SA_X7_tryLoan_r1 Ln I A v4 v5) )  ?_
            refine B_X7_gain_r1_120 Ln I (SA_X7_tryLoan_r1 Ln I A v4 v5) v1 ((10 * v4) + v5) (V_X6_waitOfAll_r35 Ln I (SA_X7_tryLoan_r1 Ln I A v4 v5) ) v4 v5  ?_
            exact ih I (SA_X7_tryLoan_r1 Ln I A v4 v5) v1 ((10 * v4) + v5) (V_X6_waitOfAll_r35 Ln I (SA_X7_tryLoan_r1 Ln I A v4 v5) ) v4 (v5 + 1) r27_ hk
        · try simp only [if_neg q13] at hk ⊢
          have h32 := r12_.2 q13
          refine B_X7_gain_r1_81 Ln I A v1 v2 v3 v4 v5  ?_
          refine B_X7_gain_r1_120 Ln I A v1 v2 v3 v4 v5  ?_
          exact ih I A v1 v2 v3 v4 (v5 + 1) h32 hk
def LA_X7_gain_r1_36 : Nat → (Ln : Nat) → (I A : Nat → Nat → Int32) → Int32 → Int32 → Int32 → Int32 → (Option Int32) → Int32 × (Nat → Nat → Int32)
  | 0, Ln, I, A, v1, v2, v3, v4, j5 => (0, A)
  | m + 1, Ln, I, A, v1, v2, v3, v4, j5 => if (I 11 0) ≤ v4 then (if v1 ≠ 0 then (v3, A) else (v2, A)) else (LA_X7_gain_r1_36 m Ln I ((LB_X7_gain_r1_51 1000 Ln I A v1 v2 v3 v4 0).2.2.2) v1 ((LB_X7_gain_r1_51 1000 Ln I A v1 v2 v3 v4 0).1) ((LB_X7_gain_r1_51 1000 Ln I A v1 v2 v3 v4 0).2.1) (v4 + 1) (some ((LB_X7_gain_r1_51 1000 Ln I A v1 v2 v3 v4 0).2.2.1)))
def PLA_X7_gain_r1_36 : Nat → (Ln : Nat) → (I A : Nat → Nat → Int32) → Int32 → Int32 → Int32 → Int32 → (Option Int32) → Prop
  | 0, Ln, I, A, v1, v2, v3, v4, j5 => False
  | m + 1, Ln, I, A, v1, v2, v3, v4, j5 => ((I 11 0) ≤ v4 → True) ∧ (¬ ((I 11 0) ≤ v4) → ((PLB_X7_gain_r1_51 1000 Ln I A v1 v2 v3 v4 0) ∧ (PLA_X7_gain_r1_36 m Ln I ((LB_X7_gain_r1_51 1000 Ln I A v1 v2 v3 v4 0).2.2.2) v1 ((LB_X7_gain_r1_51 1000 Ln I A v1 v2 v3 v4 0).1) ((LB_X7_gain_r1_51 1000 Ln I A v1 v2 v3 v4 0).2.1) (v4 + 1) (some ((LB_X7_gain_r1_51 1000 Ln I A v1 v2 v3 v4 0).2.2.1)))))
set_option maxRecDepth 100000 in
theorem MLA_X7_gain_r1_36 (m Ln : Nat) : ∀ (I A : Nat → Nat → Int32) (v1 : Int32) (v2 : Int32) (v3 : Int32) (v4 : Int32) (j5 : Option Int32), PLA_X7_gain_r1_36 m Ln I A v1 v2 v3 v4 j5 → zEv 60 36 0 0 [some (.ref 1), some (.int v1), some (.int v2), some (.int v3), some (.int v4), (Option.map Value.int j5)] [] (zGs Ln I A) (some (.int (LA_X7_gain_r1_36 m Ln I A v1 v2 v3 v4 j5).1), zGs Ln I (LA_X7_gain_r1_36 m Ln I A v1 v2 v3 v4 j5).2) := by
  induction m with
  | zero => intro I A v1 v2 v3 v4 j5 h; exact h.elim
  | succ m ih =>
    intro I A v1 v2 v3 v4 j5 h
    simp only [PLA_X7_gain_r1_36] at h
    simp only [LA_X7_gain_r1_36]
    refine B_X7_gain_r1_36 Ln I A v1 v2 v3 v4 j5  (fun q2 => ?_) (fun q2 => ?_)
    · try simp only [if_pos q2]
      refine B_X7_gain_r1_132 Ln I A v1 v2 v3 v4 j5  (fun q3 => ?_) (fun q3 => ?_)
      · try simp only [if_pos q3]
        refine B_X7_gain_r1_140 Ln I A v1 v2 v3 v4 j5  ?_
        exact B_X7_gain_r1_141_s1 Ln I A v1 v2 v3 v4 j5 v3 
      · try simp only [if_neg q3]
        refine B_X7_gain_r1_136 Ln I A v1 v2 v3 v4 j5  ?_
        exact B_X7_gain_r1_141_s1 Ln I A v1 v2 v3 v4 j5 v2 
    · try simp only [if_neg q2]
      have h4 := h.2 q2
      refine B_X7_gain_r1_48 Ln I A v1 v2 v3 v4 j5  ?_
      obtain ⟨b7, c7_⟩ := h4
      refine MLB_X7_gain_r1_51 1000 Ln I A v1 v2 v3 v4 0 b7 ?_
      refine B_X7_gain_r1_126 Ln I ((LB_X7_gain_r1_51 1000 Ln I A v1 v2 v3 v4 0).2.2.2) v1 ((LB_X7_gain_r1_51 1000 Ln I A v1 v2 v3 v4 0).1) ((LB_X7_gain_r1_51 1000 Ln I A v1 v2 v3 v4 0).2.1) v4 ((LB_X7_gain_r1_51 1000 Ln I A v1 v2 v3 v4 0).2.2.1)  ?_
      exact ih I ((LB_X7_gain_r1_51 1000 Ln I A v1 v2 v3 v4 0).2.2.2) v1 ((LB_X7_gain_r1_51 1000 Ln I A v1 v2 v3 v4 0).1) ((LB_X7_gain_r1_51 1000 Ln I A v1 v2 v3 v4 0).2.1) (v4 + 1) (some ((LB_X7_gain_r1_51 1000 Ln I A v1 v2 v3 v4 0).2.2.1)) c7_
def V_X7_gain_r1 (Ln : Nat) (I A : Nat → Nat → Int32) (v1 : Int32) : Int32 := if v1 < 0 then (-2) else (if v1 ≤ 1 then (if (V_X7_noBank_r1 Ln I A ) = 0 then ((LA_X7_gain_r1_36 1000 Ln I A v1 (-9) (V_X6_waitOfAll_r28 Ln I A ) 0 none).1) else (-3)) else (-2))
def SA_X7_gain_r1 (Ln : Nat) (I A : Nat → Nat → Int32) (v1 : Int32) : Nat → Nat → Int32 := if v1 < 0 then A else (if v1 ≤ 1 then (if (V_X7_noBank_r1 Ln I A ) = 0 then ((LA_X7_gain_r1_36 1000 Ln I A v1 (-9) (V_X6_waitOfAll_r28 Ln I A ) 0 none).2) else A) else A)
def P_X7_gain_r1 (Ln : Nat) (I A : Nat → Nat → Int32) (v1 : Int32) : Prop := (v1 < 0 → True) ∧ (¬ (v1 < 0) → ((v1 ≤ 1 → (((V_X7_noBank_r1 Ln I A ) = 0 → ((P_X6_waitOfAll_r28 Ln I A ) ∧ (PLA_X7_gain_r1_36 1000 Ln I A v1 (-9) (V_X6_waitOfAll_r28 Ln I A ) 0 none))) ∧ (¬ ((V_X7_noBank_r1 Ln I A ) = 0) → True))) ∧ (¬ (v1 ≤ 1) → True)))
set_option maxRecDepth 100000 in
theorem M_X7_gain_r1 (Ln : Nat) (I A : Nat → Nat → Int32) (v1 : Int32) (h : P_X7_gain_r1 Ln I A v1) : zEv 60 0 0 0 [some (.ref 1), some (.int v1), none, none, none, none] [] (zGs Ln I A) (some (.int (V_X7_gain_r1 Ln I A v1)), zGs Ln (I) (SA_X7_gain_r1 Ln I A v1)) := by
  unfold P_X7_gain_r1 at h
  unfold V_X7_gain_r1 SA_X7_gain_r1
  refine B_X7_gain_r1_0 Ln I A v1  (fun q2 => ?_) (fun q2 => ?_)
  · try simp only [if_pos q2]
    exact B_X7_gain_r1_9 Ln I A v1 
  · try simp only [if_neg q2]
    have h3 := h.2 q2
    refine B_X7_gain_r1_4 Ln I A v1  (fun q6 => ?_) (fun q6 => ?_)
    · try simp only [if_pos q6]
      have h7 := h3.1 q6
      refine B_X7_gain_r1_12 Ln I A v1  (M_X7_noBank_r1 Ln I A  ) rfl ?_
      refine B_X7_gain_r1_16_s1 Ln I A v1 (V_X7_noBank_r1 Ln I A )  (fun q12 => ?_) (fun q12 => ?_)
      · try simp only [if_pos q12]
        have h13 := h7.1 q12
        obtain ⟨g14_0, r15_⟩ := h13
        refine B_X7_gain_r1_22 Ln I A v1  (M_X6_waitOfAll_r28 Ln I A  g14_0) rfl ?_
        refine B_X7_gain_r1_32_s1 Ln I A v1 (-9) (V_X6_waitOfAll_r28 Ln I A )  ?_
        exact MLA_X7_gain_r1_36 1000 Ln I A v1 (-9) (V_X6_waitOfAll_r28 Ln I A ) 0 none r15_
      · try simp only [if_neg q12]
        exact B_X7_gain_r1_19 Ln I A v1 
    · try simp only [if_neg q6]
      exact B_X7_gain_r1_9 Ln I A v1 
def LA_X7_payers_r1_14 : Nat → (Ln : Nat) → (I A : Nat → Nat → Int32) → Int32 → Int32 → Int32 → Int32 × (Nat → Nat → Int32)
  | 0, Ln, I, A, v1, v2, v3 => (0, A)
  | m + 1, Ln, I, A, v1, v2, v3 => if (I 11 0) ≤ v3 then (v2, A) else (if v3 = v1 then (LA_X7_payers_r1_14 m Ln I A v1 v2 (v3 + 1)) else (if 1 ≤ (A 42 (v3).toNatClampNeg) then (if (V_X3_allSo_r22_r35 Ln I (SA_X7_tryLoan_r1 Ln I A v3 v1) ) = 0 then (LA_X7_payers_r1_14 m Ln I (SA_X7_tryLoan_r1 Ln I A v3 v1) v1 v2 (v3 + 1)) else (LA_X7_payers_r1_14 m Ln I (SA_X7_tryLoan_r1 Ln I A v3 v1) v1 (v2 ||| (1 <<< (v3 &&& 31))) (v3 + 1))) else (LA_X7_payers_r1_14 m Ln I A v1 v2 (v3 + 1))))
def PLA_X7_payers_r1_14 : Nat → (Ln : Nat) → (I A : Nat → Nat → Int32) → Int32 → Int32 → Int32 → Prop
  | 0, Ln, I, A, v1, v2, v3 => False
  | m + 1, Ln, I, A, v1, v2, v3 => ((I 11 0) ≤ v3 → True) ∧ (¬ ((I 11 0) ≤ v3) → ((v3 = v1 → (PLA_X7_payers_r1_14 m Ln I A v1 v2 (v3 + 1))) ∧ (¬ (v3 = v1) → ((zin v3 6 = true) ∧ ((1 ≤ (A 42 (v3).toNatClampNeg) → ((P_X7_tryLoan_r1 Ln I A v3 v1) ∧ ((P_X3_allSo_r22_r35 Ln I (SA_X7_tryLoan_r1 Ln I A v3 v1) ) ∧ (((V_X3_allSo_r22_r35 Ln I (SA_X7_tryLoan_r1 Ln I A v3 v1) ) = 0 → (PLA_X7_payers_r1_14 m Ln I (SA_X7_tryLoan_r1 Ln I A v3 v1) v1 v2 (v3 + 1))) ∧ (¬ ((V_X3_allSo_r22_r35 Ln I (SA_X7_tryLoan_r1 Ln I A v3 v1) ) = 0) → (PLA_X7_payers_r1_14 m Ln I (SA_X7_tryLoan_r1 Ln I A v3 v1) v1 (v2 ||| (1 <<< (v3 &&& 31))) (v3 + 1))))))) ∧ (¬ (1 ≤ (A 42 (v3).toNatClampNeg)) → (PLA_X7_payers_r1_14 m Ln I A v1 v2 (v3 + 1))))))))
set_option maxRecDepth 100000 in
theorem MLA_X7_payers_r1_14 (m Ln : Nat) : ∀ (I A : Nat → Nat → Int32) (v1 : Int32) (v2 : Int32) (v3 : Int32), PLA_X7_payers_r1_14 m Ln I A v1 v2 v3 → zEv 64 14 0 0 [some (.ref 1), some (.int v1), some (.int v2), some (.int v3)] [] (zGs Ln I A) (some (.int (LA_X7_payers_r1_14 m Ln I A v1 v2 v3).1), zGs Ln I (LA_X7_payers_r1_14 m Ln I A v1 v2 v3).2) := by
  induction m with
  | zero => intro I A v1 v2 v3 h; exact h.elim
  | succ m ih =>
    intro I A v1 v2 v3 h
    simp only [PLA_X7_payers_r1_14] at h
    simp only [LA_X7_payers_r1_14]
    refine B_X7_payers_r1_14 Ln I A v1 v2 v3  (fun q2 => ?_) (fun q2 => ?_)
    · try simp only [if_pos q2]
      exact B_X7_payers_r1_75 Ln I A v1 v2 v3 
    · try simp only [if_neg q2]
      have h3 := h.2 q2
      refine B_X7_payers_r1_25 Ln I A v1 v2 v3  (fun q6 => ?_) (fun q6 => ?_)
      · try simp only [if_pos q6]
        have h7 := h3.1 q6
        refine B_X7_payers_r1_69 Ln I A v1 v2 v3  ?_
        exact ih I A v1 v2 (v3 + 1) h7
      · try simp only [if_neg q6]
        have h10 := h3.2 q6
        obtain ⟨g11_0, r12_⟩ := h10
        refine B_X7_payers_r1_30 Ln I A v1 v2 v3 g11_0 (fun q13 => ?_) (fun q13 => ?_)
        · try simp only [if_pos q13]
          have h14 := r12_.1 q13
          obtain ⟨g15_0, r16_⟩ := h14
          refine B_X7_payers_r1_43 Ln I A v1 v2 v3  (M_X7_tryLoan_r1 Ln I A v3 v1 g15_0) rfl ?_
          obtain ⟨g17_0, r18_⟩ := r16_
          refine B_X7_payers_r1_49 Ln I (SA_X7_tryLoan_r1 Ln I A v3 v1) v1 v2 v3  (M_X3_allSo_r22_r35 Ln I (SA_X7_tryLoan_r1 Ln I A v3 v1)  g17_0) rfl ?_
          refine B_X7_payers_r1_60_s1 Ln I (SA_X7_tryLoan_r1 Ln I A v3 v1) v1 v2 v3 (V_X3_allSo_r22_r35 Ln I (SA_X7_tryLoan_r1 Ln I A v3 v1) )  (fun q21 => ?_) (fun q21 => ?_)
          · try simp only [if_pos q21]
            have h22 := r18_.1 q21
            refine B_X7_payers_r1_69 Ln I (SA_X7_tryLoan_r1 Ln I A v3 v1) v1 v2 v3  ?_
            exact ih I (SA_X7_tryLoan_r1 Ln I A v3 v1) v1 v2 (v3 + 1) h22
          · try simp only [if_neg q21]
            have h25 := r18_.2 q21
            refine B_X7_payers_r1_63 Ln I (SA_X7_tryLoan_r1 Ln I A v3 v1) v1 v2 v3  ?_
            refine B_X7_payers_r1_69 Ln I (SA_X7_tryLoan_r1 Ln I A v3 v1) v1 (v2 ||| (1 <<< (v3 &&& 31))) v3  ?_
            exact ih I (SA_X7_tryLoan_r1 Ln I A v3 v1) v1 (v2 ||| (1 <<< (v3 &&& 31))) (v3 + 1) h25
        · try simp only [if_neg q13]
          have h30 := r12_.2 q13
          refine B_X7_payers_r1_40 Ln I A v1 v2 v3  ?_
          refine B_X7_payers_r1_69 Ln I A v1 v2 v3  ?_
          exact ih I A v1 v2 (v3 + 1) h30
def V_X7_payers_r1 (Ln : Nat) (I A : Nat → Nat → Int32) (v1 : Int32) : Int32 := if (V_X7_isShade_r1 Ln I A v1) ≠ 0 then ((LA_X7_payers_r1_14 1000 Ln I A v1 0 0).1) else (-1)
def SA_X7_payers_r1 (Ln : Nat) (I A : Nat → Nat → Int32) (v1 : Int32) : Nat → Nat → Int32 := if (V_X7_isShade_r1 Ln I A v1) ≠ 0 then ((LA_X7_payers_r1_14 1000 Ln I A v1 0 0).2) else A
def P_X7_payers_r1 (Ln : Nat) (I A : Nat → Nat → Int32) (v1 : Int32) : Prop := ((V_X7_isShade_r1 Ln I A v1) ≠ 0 → (PLA_X7_payers_r1_14 1000 Ln I A v1 0 0)) ∧ (¬ ((V_X7_isShade_r1 Ln I A v1) ≠ 0) → True)
set_option maxRecDepth 100000 in
theorem M_X7_payers_r1 (Ln : Nat) (I A : Nat → Nat → Int32) (v1 : Int32) (h : P_X7_payers_r1 Ln I A v1) : zEv 64 0 0 0 [some (.ref 1), some (.int v1), none, none] [] (zGs Ln I A) (some (.int (V_X7_payers_r1 Ln I A v1)), zGs Ln (I) (SA_X7_payers_r1 Ln I A v1)) := by
  unfold P_X7_payers_r1 at h
  unfold V_X7_payers_r1 SA_X7_payers_r1
  refine B_X7_payers_r1_0 Ln I A v1  (M_X7_isShade_r1 Ln I A v1 ) rfl ?_
  refine B_X7_payers_r1_5_s1 Ln I A v1 (V_X7_isShade_r1 Ln I A v1)  (fun q4 => ?_) (fun q4 => ?_)
  · try simp only [if_pos q4]
    have h5 := h.1 q4
    refine B_X7_payers_r1_10 Ln I A v1  ?_
    exact MLA_X7_payers_r1_14 1000 Ln I A v1 0 0 h5
  · try simp only [if_neg q4]
    exact B_X7_payers_r1_8 Ln I A v1 
def V_X7_bank_r1_c0 (Ln : Nat) (I A : Nat → Nat → Int32) (v2 : Int32) (v3 : Int32) (v4 : Int32) : Int32 := if (V_X7_isSheet Ln I A 0) ≠ 0 then (if (V_X7_isLane Ln I A v2) ≠ 0 then (if (V_X4_faultOfCells_r3 Ln I A v2 v3 v4) = 0 then (if (V_X5_firstFault_r4 Ln I A v3 v4) = ((-1)) then (V_X7_faultless_r1 Ln (zp (zp (zp (SI_X0_become_r11_r4 Ln I A v3 v4) 18 3 0) 22 3 0) 1 9 0) (SA_X7_goThroughNights_r1 Ln (zp (zp (zp (SI_X0_become_r11_r4 Ln I A v3 v4) 18 3 0) 22 3 0) 1 9 0) (SA_X0_become_r11_r4 Ln I A v3 v4) ) ((zp (zp (zp (SI_X0_become_r11_r4 Ln I A v3 v4) 18 3 0) 22 3 0) 1 9 0) 11 0)) else (V_X7_faultless_r1 Ln I A (((-100)) - (V_X5_firstFault_r4 Ln I A v3 v4)))) else (V_X7_faulted_r1 Ln I A (V_X4_faultOfCells_r3 Ln I A v2 v3 v4))) else (V_X7_faultless_r1 Ln I A (-2))) else (V_X7_faultless_r1 Ln I A (-1))
def SI_X7_bank_r1_c0 (Ln : Nat) (I A : Nat → Nat → Int32) (v2 : Int32) (v3 : Int32) (v4 : Int32) : Nat → Nat → Int32 := if (V_X7_isSheet Ln I A 0) ≠ 0 then (if (V_X7_isLane Ln I A v2) ≠ 0 then (if (V_X4_faultOfCells_r3 Ln I A v2 v3 v4) = 0 then (if (V_X5_firstFault_r4 Ln I A v3 v4) = ((-1)) then (SI_X7_faultless_r1 Ln (zp (zp (zp (SI_X0_become_r11_r4 Ln I A v3 v4) 18 3 0) 22 3 0) 1 9 0) (SA_X7_goThroughNights_r1 Ln (zp (zp (zp (SI_X0_become_r11_r4 Ln I A v3 v4) 18 3 0) 22 3 0) 1 9 0) (SA_X0_become_r11_r4 Ln I A v3 v4) ) ((zp (zp (zp (SI_X0_become_r11_r4 Ln I A v3 v4) 18 3 0) 22 3 0) 1 9 0) 11 0)) else (SI_X7_faultless_r1 Ln I A (((-100)) - (V_X5_firstFault_r4 Ln I A v3 v4)))) else (SI_X7_faulted_r1 Ln I A (V_X4_faultOfCells_r3 Ln I A v2 v3 v4))) else (SI_X7_faultless_r1 Ln I A (-2))) else (SI_X7_faultless_r1 Ln I A (-1))
def SA_X7_bank_r1_c0 (Ln : Nat) (I A : Nat → Nat → Int32) (v2 : Int32) (v3 : Int32) (v4 : Int32) : Nat → Nat → Int32 := if (V_X7_isSheet Ln I A 0) ≠ 0 then (if (V_X7_isLane Ln I A v2) ≠ 0 then (if (V_X4_faultOfCells_r3 Ln I A v2 v3 v4) = 0 then (if (V_X5_firstFault_r4 Ln I A v3 v4) = ((-1)) then (SA_X7_goThroughNights_r1 Ln (zp (zp (zp (SI_X0_become_r11_r4 Ln I A v3 v4) 18 3 0) 22 3 0) 1 9 0) (SA_X0_become_r11_r4 Ln I A v3 v4) ) else A) else A) else A) else A
def P_X7_bank_r1_c0 (Ln : Nat) (I A : Nat → Nat → Int32) (v2 : Int32) (v3 : Int32) (v4 : Int32) : Prop := ((V_X7_isSheet Ln I A 0) ≠ 0 → (((V_X7_isLane Ln I A v2) ≠ 0 → (((V_X4_faultOfCells_r3 Ln I A v2 v3 v4) = 0 → ((P_X5_firstFault_r4 Ln I A v3 v4) ∧ (((V_X5_firstFault_r4 Ln I A v3 v4) = ((-1)) → ((P_X0_become_r11_r4 Ln I A v3 v4) ∧ (P_X7_goThroughNights_r1 Ln (zp (zp (zp (SI_X0_become_r11_r4 Ln I A v3 v4) 18 3 0) 22 3 0) 1 9 0) (SA_X0_become_r11_r4 Ln I A v3 v4) ))) ∧ (¬ ((V_X5_firstFault_r4 Ln I A v3 v4) = ((-1))) → True)))) ∧ (¬ ((V_X4_faultOfCells_r3 Ln I A v2 v3 v4) = 0) → True))) ∧ (¬ ((V_X7_isLane Ln I A v2) ≠ 0) → True))) ∧ (¬ ((V_X7_isSheet Ln I A 0) ≠ 0) → True)
set_option maxRecDepth 100000 in
theorem M_X7_bank_r1_c0 (Ln : Nat) (I A : Nat → Nat → Int32) (v2 : Int32) (v3 : Int32) (v4 : Int32) (h : P_X7_bank_r1_c0 Ln I A v2 v3 v4) : zEv 46 0 0 0 [some (.ref 1), some (.int 0), some (.int v2), some (.int v3), some (.int v4), none, none, none] [] (zGs Ln I A) (some (.int (V_X7_bank_r1_c0 Ln I A v2 v3 v4)), zGs Ln (SI_X7_bank_r1_c0 Ln I A v2 v3 v4) (SA_X7_bank_r1_c0 Ln I A v2 v3 v4)) := by
  unfold P_X7_bank_r1_c0 at h
  unfold V_X7_bank_r1_c0 SI_X7_bank_r1_c0 SA_X7_bank_r1_c0
  refine B_X7_bank_r1_c0_0 Ln I A v2 v3 v4  (M_X7_isSheet Ln I A 0 ) rfl ?_
  refine B_X7_bank_r1_c0_4_s1 Ln I A v2 v3 v4 (V_X7_isSheet Ln I A 0)  (fun q4 => ?_) (fun q4 => ?_)
  · try simp only [if_pos q4]
    have h5 := h.1 q4
    refine B_X7_bank_r1_c0_13 Ln I A v2 v3 v4  (M_X7_isLane Ln I A v2 ) rfl ?_
    refine B_X7_bank_r1_c0_17_s1 Ln I A v2 v3 v4 (V_X7_isLane Ln I A v2)  (fun q10 => ?_) (fun q10 => ?_)
    · try simp only [if_pos q10]
      have h11 := h5.1 q10
      refine B_X7_bank_r1_c0_27 Ln I A v2 v3 v4  (M_X4_faultOfCells_r3 Ln I A v2 v3 v4 ) rfl ?_
      refine B_X7_bank_r1_c0_44_s1_l3 Ln I A v2 v3 v4 (V_X4_faultOfCells_r3 Ln I A v2 v3 v4)  (fun q16 => ?_) (fun q16 => ?_)
      · try simp only [if_pos q16]
        have h17 := h11.1 q16
        obtain ⟨g18_0, r19_⟩ := h17
        refine B_X7_bank_r1_c0_58_l3 Ln I A v2 v3 v4 (V_X4_faultOfCells_r3 Ln I A v2 v3 v4)  (M_X5_firstFault_r4 Ln I A v3 v4 g18_0) rfl ?_
        refine B_X7_bank_r1_c0_69_s1_l3 Ln I A v2 v3 v4 (V_X4_faultOfCells_r3 Ln I A v2 v3 v4) (V_X5_firstFault_r4 Ln I A v3 v4)  (fun q22 => ?_) (fun q22 => ?_)
        · try simp only [if_pos q22]
          have h23 := r19_.1 q22
          obtain ⟨g24_0, r25_⟩ := h23
          refine B_X7_bank_r1_c0_87_l3 Ln I A v2 v3 v4 (V_X4_faultOfCells_r3 Ln I A v2 v3 v4) (V_X5_firstFault_r4 Ln I A v3 v4)  (M_X0_become_r11_r4 Ln I A v3 v4 g24_0) rfl ?_
          refine B_X7_bank_r1_c0_102_l3 Ln (SI_X0_become_r11_r4 Ln I A v3 v4) (SA_X0_become_r11_r4 Ln I A v3 v4) v2 v3 v4 (V_X4_faultOfCells_r3 Ln I A v2 v3 v4) (V_X5_firstFault_r4 Ln I A v3 v4)  (M_X7_goThroughNights_r1 Ln (zp (zp (zp (SI_X0_become_r11_r4 Ln I A v3 v4) 18 3 0) 22 3 0) 1 9 0) (SA_X0_become_r11_r4 Ln I A v3 v4)  r25_) rfl ?_
          refine B_X7_bank_r1_c0_127_l3 Ln (zp (zp (zp (SI_X0_become_r11_r4 Ln I A v3 v4) 18 3 0) 22 3 0) 1 9 0) (SA_X7_goThroughNights_r1 Ln (zp (zp (zp (SI_X0_become_r11_r4 Ln I A v3 v4) 18 3 0) 22 3 0) 1 9 0) (SA_X0_become_r11_r4 Ln I A v3 v4) ) v2 v3 v4 (V_X4_faultOfCells_r3 Ln I A v2 v3 v4) (V_X5_firstFault_r4 Ln I A v3 v4)  (M_X7_faultless_r1 Ln (zp (zp (zp (SI_X0_become_r11_r4 Ln I A v3 v4) 18 3 0) 22 3 0) 1 9 0) (SA_X7_goThroughNights_r1 Ln (zp (zp (zp (SI_X0_become_r11_r4 Ln I A v3 v4) 18 3 0) 22 3 0) 1 9 0) (SA_X0_become_r11_r4 Ln I A v3 v4) ) ((zp (zp (zp (SI_X0_become_r11_r4 Ln I A v3 v4) 18 3 0) 22 3 0) 1 9 0) 11 0) ) rfl ?_
          exact B_X7_bank_r1_c0_138_s1_l3 Ln (SI_X7_faultless_r1 Ln (zp (zp (zp (SI_X0_become_r11_r4 Ln I A v3 v4) 18 3 0) 22 3 0) 1 9 0) (SA_X7_goThroughNights_r1 Ln (zp (zp (zp (SI_X0_become_r11_r4 Ln I A v3 v4) 18 3 0) 22 3 0) 1 9 0) (SA_X0_become_r11_r4 Ln I A v3 v4) ) ((zp (zp (zp (SI_X0_become_r11_r4 Ln I A v3 v4) 18 3 0) 22 3 0) 1 9 0) 11 0)) (SA_X7_goThroughNights_r1 Ln (zp (zp (zp (SI_X0_become_r11_r4 Ln I A v3 v4) 18 3 0) 22 3 0) 1 9 0) (SA_X0_become_r11_r4 Ln I A v3 v4) ) v2 v3 v4 (V_X4_faultOfCells_r3 Ln I A v2 v3 v4) (V_X5_firstFault_r4 Ln I A v3 v4) (V_X7_faultless_r1 Ln (zp (zp (zp (SI_X0_become_r11_r4 Ln I A v3 v4) 18 3 0) 22 3 0) 1 9 0) (SA_X7_goThroughNights_r1 Ln (zp (zp (zp (SI_X0_become_r11_r4 Ln I A v3 v4) 18 3 0) 22 3 0) 1 9 0) (SA_X0_become_r11_r4 Ln I A v3 v4) ) ((zp (zp (zp (SI_X0_become_r11_r4 Ln I A v3 v4) 18 3 0) 22 3 0) 1 9 0) 11 0)) 
        · try simp only [if_neg q22]
          refine B_X7_bank_r1_c0_77_l3 Ln I A v2 v3 v4 (V_X4_faultOfCells_r3 Ln I A v2 v3 v4) (V_X5_firstFault_r4 Ln I A v3 v4)  (M_X7_faultless_r1 Ln I A (((-100)) - (V_X5_firstFault_r4 Ln I A v3 v4)) ) rfl ?_
          exact B_X7_bank_r1_c0_86_s1_l3 Ln (SI_X7_faultless_r1 Ln I A (((-100)) - (V_X5_firstFault_r4 Ln I A v3 v4))) A v2 v3 v4 (V_X4_faultOfCells_r3 Ln I A v2 v3 v4) (V_X5_firstFault_r4 Ln I A v3 v4) (V_X7_faultless_r1 Ln I A (((-100)) - (V_X5_firstFault_r4 Ln I A v3 v4))) 
      · try simp only [if_neg q16]
        refine B_X7_bank_r1_c0_51_l3 Ln I A v2 v3 v4 (V_X4_faultOfCells_r3 Ln I A v2 v3 v4)  (M_X7_faulted_r1 Ln I A (V_X4_faultOfCells_r3 Ln I A v2 v3 v4) ) rfl ?_
        exact B_X7_bank_r1_c0_57_s1_l3 Ln (SI_X7_faulted_r1 Ln I A (V_X4_faultOfCells_r3 Ln I A v2 v3 v4)) A v2 v3 v4 (V_X4_faultOfCells_r3 Ln I A v2 v3 v4) (V_X7_faulted_r1 Ln I A (V_X4_faultOfCells_r3 Ln I A v2 v3 v4)) 
    · try simp only [if_neg q10]
      refine B_X7_bank_r1_c0_20 Ln I A v2 v3 v4  (M_X7_faultless_r1 Ln I A (-2) ) rfl ?_
      exact B_X7_bank_r1_c0_26_s1 Ln (SI_X7_faultless_r1 Ln I A (-2)) A v2 v3 v4 (V_X7_faultless_r1 Ln I A (-2)) 
  · try simp only [if_neg q4]
    refine B_X7_bank_r1_c0_7 Ln I A v2 v3 v4  (M_X7_faultless_r1 Ln I A (-1) ) rfl ?_
    exact B_X7_bank_r1_c0_12_s1 Ln (SI_X7_faultless_r1 Ln I A (-1)) A v2 v3 v4 (V_X7_faultless_r1 Ln I A (-1)) 
