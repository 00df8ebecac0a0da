/-! methods, by program (wip/whole/gen_fun.py, gen_loop.py) -/
def LA_X6_longestWait_r35_4 : Nat → (Ln : Nat) → (I A : Nat → Nat → Int32) → Int32 → Int32 → Int32
  | 0, Ln, I, A, v1, v2 => 0
  | m + 1, Ln, I, A, v1, v2 => if (I 11 0) ≤ v2 then v1 else (LA_X6_longestWait_r35_4 m Ln I A (if v1 < (V_X6_waitOf_r35 Ln I A v2) then (V_X6_waitOf_r35 Ln I A v2) else v1) (v2 + 1))
def PLA_X6_longestWait_r35_4 : Nat → (Ln : Nat) → (I A : Nat → Nat → Int32) → Int32 → Int32 → Prop
  | 0, Ln, I, A, v1, v2 => False
  | m + 1, Ln, I, A, v1, v2 => ((I 11 0) ≤ v2 → True) ∧ (¬ ((I 11 0) ≤ v2) → ((P_X6_waitOf_r35 Ln I A v2) ∧ (PLA_X6_longestWait_r35_4 m Ln I A (if v1 < (V_X6_waitOf_r35 Ln I A v2) then (V_X6_waitOf_r35 Ln I A v2) else v1) (v2 + 1))))
set_option maxRecDepth 100000 in
theorem MLA_X6_longestWait_r35_4 (m Ln : Nat) : ∀ (I A : Nat → Nat → Int32) (v1 : Int32) (v2 : Int32), PLA_X6_longestWait_r35_4 m Ln I A v1 v2 → zEv 44 4 0 0 [some (.ref 35), some (.int v1), some (.int v2)] [] (zGs Ln I A) (some (.int (LA_X6_longestWait_r35_4 m Ln I A v1 v2)), zGs Ln I A) := by
  induction m with
  | zero => intro I A v1 v2 h; exact h.elim
  | succ m ih =>
    intro I A v1 v2 h
    simp only [PLA_X6_longestWait_r35_4] at h
    simp only [LA_X6_longestWait_r35_4]
    refine B_X6_longestWait_r35_4 Ln I A v1 v2  (fun q2 => ?_) (fun q2 => ?_)
    · try simp only [if_pos q2]
      exact B_X6_longestWait_r35_31 Ln I A v1 v2 
    · try simp only [if_neg q2]
      have h3 := h.2 q2
      obtain ⟨g4_0, r5_⟩ := h3
      refine B_X6_longestWait_r35_15 Ln I A v1 v2  (M_X6_waitOf_r35 Ln I A v2 g4_0) rfl ?_
      refine B_X6_longestWait_r35_21_s2 Ln I A v1 v2 v1 (V_X6_waitOf_r35 Ln I A v2)  ?_
      exact ih I A (if v1 < (V_X6_waitOf_r35 Ln I A v2) then (V_X6_waitOf_r35 Ln I A v2) else v1) (v2 + 1) r5_
def V_X6_longestWait_r35 (Ln : Nat) (I A : Nat → Nat → Int32) : Int32 := LA_X6_longestWait_r35_4 1000 Ln I A 0 0
def P_X6_longestWait_r35 (Ln : Nat) (I A : Nat → Nat → Int32) : Prop := PLA_X6_longestWait_r35_4 1000 Ln I A 0 0
set_option maxRecDepth 100000 in
theorem M_X6_longestWait_r35 (Ln : Nat) (I A : Nat → Nat → Int32) (h : P_X6_longestWait_r35 Ln I A) : zEv 44 0 0 0 [some (.ref 35), none, none] [] (zGs Ln I A) (some (.int (V_X6_longestWait_r35 Ln I A)), zGs Ln (I) (A)) := by
  unfold P_X6_longestWait_r35 at h
  unfold V_X6_longestWait_r35
  refine B_X6_longestWait_r35_0 Ln I A   ?_
  exact MLA_X6_longestWait_r35_4 1000 Ln I A 0 0 h
def LA_X6_waitOfAll_r35_4 : Nat → (Ln : Nat) → (I A : Nat → Nat → Int32) → Int32 → Int32 → Int32
  | 0, Ln, I, A, v1, v2 => 0
  | m + 1, Ln, I, A, v1, v2 => if (I 11 0) ≤ v2 then v1 else (LA_X6_waitOfAll_r35_4 m Ln I A (v1 + (V_X6_waitOf_r35 Ln I A v2)) (v2 + 1))
def PLA_X6_waitOfAll_r35_4 : Nat → (Ln : Nat) → (I A : Nat → Nat → Int32) → Int32 → Int32 → Prop
  | 0, Ln, I, A, v1, v2 => False
  | m + 1, Ln, I, A, v1, v2 => ((I 11 0) ≤ v2 → True) ∧ (¬ ((I 11 0) ≤ v2) → ((P_X6_waitOf_r35 Ln I A v2) ∧ (PLA_X6_waitOfAll_r35_4 m Ln I A (v1 + (V_X6_waitOf_r35 Ln I A v2)) (v2 + 1))))
set_option maxRecDepth 100000 in
theorem MLA_X6_waitOfAll_r35_4 (m Ln : Nat) : ∀ (I A : Nat → Nat → Int32) (v1 : Int32) (v2 : Int32), PLA_X6_waitOfAll_r35_4 m Ln I A v1 v2 → zEv 43 4 0 0 [some (.ref 35), some (.int v1), some (.int v2)] [] (zGs Ln I A) (some (.int (LA_X6_waitOfAll_r35_4 m Ln I A v1 v2)), zGs Ln I A) := by
  induction m with
  | zero => intro I A v1 v2 h; exact h.elim
  | succ m ih =>
    intro I A v1 v2 h
    simp only [PLA_X6_waitOfAll_r35_4] at h
    simp only [LA_X6_waitOfAll_r35_4]
    refine B_X6_waitOfAll_r35_4 Ln I A v1 v2  (fun q2 => ?_) (fun q2 => ?_)
    · try simp only [if_pos q2]
      exact B_X6_waitOfAll_r35_29 Ln I A v1 v2 
    · try simp only [if_neg q2]
      have h3 := h.2 q2
      obtain ⟨g4_0, r5_⟩ := h3
      refine B_X6_waitOfAll_r35_15 Ln I A v1 v2  (M_X6_waitOf_r35 Ln I A v2 g4_0) rfl ?_
      refine B_X6_waitOfAll_r35_21_s2 Ln I A v1 v2 v1 (V_X6_waitOf_r35 Ln I A v2)  ?_
      exact ih I A (v1 + (V_X6_waitOf_r35 Ln I A v2)) (v2 + 1) r5_
def V_X6_waitOfAll_r35 (Ln : Nat) (I A : Nat → Nat → Int32) : Int32 := LA_X6_waitOfAll_r35_4 1000 Ln I A 0 0
def P_X6_waitOfAll_r35 (Ln : Nat) (I A : Nat → Nat → Int32) : Prop := PLA_X6_waitOfAll_r35_4 1000 Ln I A 0 0
set_option maxRecDepth 100000 in
theorem M_X6_waitOfAll_r35 (Ln : Nat) (I A : Nat → Nat → Int32) (h : P_X6_waitOfAll_r35 Ln I A) : zEv 43 0 0 0 [some (.ref 35), none, none] [] (zGs Ln I A) (some (.int (V_X6_waitOfAll_r35 Ln I A)), zGs Ln (I) (A)) := by
  unfold P_X6_waitOfAll_r35 at h
  unfold V_X6_waitOfAll_r35
  refine B_X6_waitOfAll_r35_0 Ln I A   ?_
  exact MLA_X6_waitOfAll_r35_4 1000 Ln I A 0 0 h
def V_X2_lentTo_r18 (Ln : Nat) (I A : Nat → Nat → Int32) (v1 : Int32) : Int32 := (V_X2_sum_r18_r20 Ln I A v1)
def P_X2_lentTo_r18 (Ln : Nat) (I A : Nat → Nat → Int32) (v1 : Int32) : Prop := (P_X2_sum_r18_r20 Ln I A v1)
set_option maxRecDepth 100000 in
theorem M_X2_lentTo_r18 (Ln : Nat) (I A : Nat → Nat → Int32) (v1 : Int32) (h : P_X2_lentTo_r18 Ln I A v1) : zEv 16 0 0 0 [some (.ref 18), some (.int v1)] [] (zGs Ln I A) (some (.int (V_X2_lentTo_r18 Ln I A v1)), zGs Ln (I) (A)) := by
  unfold P_X2_lentTo_r18 at h
  unfold V_X2_lentTo_r18
  refine B_X2_lentTo_r18_0 Ln I A v1  (M_X2_sum_r18_r20 Ln I A v1 h) rfl ?_
  exact B_X2_lentTo_r18_9_s1 Ln I A v1 (V_X2_sum_r18_r20 Ln I A v1) 
def V_X2_lentBy_r18 (Ln : Nat) (I A : Nat → Nat → Int32) (v1 : Int32) : Int32 := (V_X2_sum_r18_r19 Ln I A v1)
def P_X2_lentBy_r18 (Ln : Nat) (I A : Nat → Nat → Int32) (v1 : Int32) : Prop := (P_X2_sum_r18_r19 Ln I A v1)
set_option maxRecDepth 100000 in
theorem M_X2_lentBy_r18 (Ln : Nat) (I A : Nat → Nat → Int32) (v1 : Int32) (h : P_X2_lentBy_r18 Ln I A v1) : zEv 15 0 0 0 [some (.ref 18), some (.int v1)] [] (zGs Ln I A) (some (.int (V_X2_lentBy_r18 Ln I A v1)), zGs Ln (I) (A)) := by
  unfold P_X2_lentBy_r18 at h
  unfold V_X2_lentBy_r18
  refine B_X2_lentBy_r18_0 Ln I A v1  (M_X2_sum_r18_r19 Ln I A v1 h) rfl ?_
  exact B_X2_lentBy_r18_9_s1 Ln I A v1 (V_X2_sum_r18_r19 Ln I A v1) 
def V_X8_cellsBarred_r44 (Ln : Nat) (I A : Nat → Nat → Int32) (v1 : Int32) (v2 : Int32) (v3 : Int32) (v4 : Int64) : Int32 := if (A 65 (v1).toNatClampNeg) < 0 then (if 0 ≤ (A 65 (v1).toNatClampNeg) then (if 0 ≤ (lg_cmp v4 0) then (if (V_X8_isBeyond Ln I A v3 v4 (A 65 (v1).toNatClampNeg)) = 0 then 0 else (V_X8_failed_r44 Ln I A 3)) else (V_X8_failed_r44 Ln I A 4)) else (V_X8_failed_r44 Ln I A 1)) else (if (A 66 (v1).toNatClampNeg) = v2 then (if 0 ≤ (A 65 (v1).toNatClampNeg) then (if 0 ≤ (lg_cmp v4 0) then (if (V_X8_isBeyond Ln I A v3 v4 (A 65 (v1).toNatClampNeg)) = 0 then 0 else (V_X8_failed_r44 Ln I A 3)) else (V_X8_failed_r44 Ln I A 4)) else (V_X8_failed_r44 Ln I A 1)) else (V_X8_failed_r44 Ln I A 2))
def SI_X8_cellsBarred_r44 (Ln : Nat) (I A : Nat → Nat → Int32) (v1 : Int32) (v2 : Int32) (v3 : Int32) (v4 : Int64) : Nat → Nat → Int32 := if (A 65 (v1).toNatClampNeg) < 0 then (if 0 ≤ (A 65 (v1).toNatClampNeg) then (if 0 ≤ (lg_cmp v4 0) then (if (V_X8_isBeyond Ln I A v3 v4 (A 65 (v1).toNatClampNeg)) = 0 then I else (SI_X8_failed_r44 Ln I A 3)) else (SI_X8_failed_r44 Ln I A 4)) else (SI_X8_failed_r44 Ln I A 1)) else (if (A 66 (v1).toNatClampNeg) = v2 then (if 0 ≤ (A 65 (v1).toNatClampNeg) then (if 0 ≤ (lg_cmp v4 0) then (if (V_X8_isBeyond Ln I A v3 v4 (A 65 (v1).toNatClampNeg)) = 0 then I else (SI_X8_failed_r44 Ln I A 3)) else (SI_X8_failed_r44 Ln I A 4)) else (SI_X8_failed_r44 Ln I A 1)) else (SI_X8_failed_r44 Ln I A 2))
def P_X8_cellsBarred_r44 (Ln : Nat) (I A : Nat → Nat → Int32) (v1 : Int32) (v2 : Int32) (v3 : Int32) (v4 : Int64) : Prop := (zin v1 4 = true) ∧ (((A 65 (v1).toNatClampNeg) < 0 → ((zin v1 4 = true) ∧ ((0 ≤ (A 65 (v1).toNatClampNeg) → ((0 ≤ (lg_cmp v4 0) → (zin v1 4 = true)) ∧ (¬ (0 ≤ (lg_cmp v4 0)) → True))) ∧ (¬ (0 ≤ (A 65 (v1).toNatClampNeg)) → True)))) ∧ (¬ ((A 65 (v1).toNatClampNeg) < 0) → ((zin v1 4 = true) ∧ (((A 66 (v1).toNatClampNeg) = v2 → ((zin v1 4 = true) ∧ ((0 ≤ (A 65 (v1).toNatClampNeg) → ((0 ≤ (lg_cmp v4 0) → (zin v1 4 = true)) ∧ (¬ (0 ≤ (lg_cmp v4 0)) → True))) ∧ (¬ (0 ≤ (A 65 (v1).toNatClampNeg)) → True)))) ∧ (¬ ((A 66 (v1).toNatClampNeg) = v2) → True)))))
set_option maxRecDepth 100000 in
theorem M_X8_cellsBarred_r44 (Ln : Nat) (I A : Nat → Nat → Int32) (v1 : Int32) (v2 : Int32) (v3 : Int32) (v4 : Int64) (h : P_X8_cellsBarred_r44 Ln I A v1 v2 v3 v4) : zEv 108 0 0 0 [some (.ref 44), some (.int v1), some (.int v2), some (.int v3), some (.long (v4)), none] [] (zGs Ln I A) (some (.int (V_X8_cellsBarred_r44 Ln I A v1 v2 v3 v4)), zGs Ln (SI_X8_cellsBarred_r44 Ln I A v1 v2 v3 v4) (A)) := by
  unfold P_X8_cellsBarred_r44 at h
  unfold V_X8_cellsBarred_r44 SI_X8_cellsBarred_r44
  obtain ⟨g0_0, r1_⟩ := h
  refine B_X8_cellsBarred_r44_0 Ln I A v1 v2 v3 v4 g0_0 (fun q2 => ?_) (fun q2 => ?_)
  · try simp only [if_pos q2]
    have h3 := r1_.1 q2
    obtain ⟨g4_0, r5_⟩ := h3
    refine B_X8_cellsBarred_r44_25 Ln I A v1 v2 v3 v4 g4_0 (fun q6 => ?_) (fun q6 => ?_)
    · try simp only [if_pos q6]
      have h7 := r5_.1 q6
      refine B_X8_cellsBarred_r44_40 Ln I A v1 v2 v3 v4  (fun q10 => ?_) (fun q10 => ?_)
      · try simp only [if_pos q10]
        have h11 := h7.1 q10
        refine B_X8_cellsBarred_r44_53 Ln I A v1 v2 v3 v4 h11 (M_X8_isBeyond Ln I A v3 v4 (A 65 (v1).toNatClampNeg) ) rfl ?_
        refine B_X8_cellsBarred_r44_65_s1 Ln I A v1 v2 v3 v4 (V_X8_isBeyond Ln I A v3 v4 (A 65 (v1).toNatClampNeg))  (fun q13 => ?_) (fun q13 => ?_)
        · try simp only [if_pos q13]
          refine B_X8_cellsBarred_r44_76 Ln I A v1 v2 v3 v4  ?_
          exact B_X8_cellsBarred_r44_77_s1 Ln I A v1 v2 v3 v4 0 
        · try simp only [if_neg q13]
          refine B_X8_cellsBarred_r44_68 Ln I A v1 v2 v3 v4  (M_X8_failed_r44 Ln I A 3 ) rfl ?_
          refine B_X8_cellsBarred_r44_73_s1 Ln (SI_X8_failed_r44 Ln I A 3) A v1 v2 v3 v4 (V_X8_failed_r44 Ln I A 3)  ?_
          exact B_X8_cellsBarred_r44_77_s1 Ln (SI_X8_failed_r44 Ln I A 3) A v1 v2 v3 v4 (V_X8_failed_r44 Ln I A 3) 
      · try simp only [if_neg q10]
        refine B_X8_cellsBarred_r44_47 Ln I A v1 v2 v3 v4  (M_X8_failed_r44 Ln I A 4 ) rfl ?_
        exact B_X8_cellsBarred_r44_52_s1 Ln (SI_X8_failed_r44 Ln I A 4) A v1 v2 v3 v4 (V_X8_failed_r44 Ln I A 4) 
    · try simp only [if_neg q6]
      refine B_X8_cellsBarred_r44_34 Ln I A v1 v2 v3 v4  (M_X8_failed_r44 Ln I A 1 ) rfl ?_
      exact B_X8_cellsBarred_r44_39_s1 Ln (SI_X8_failed_r44 Ln I A 1) A v1 v2 v3 v4 (V_X8_failed_r44 Ln I A 1) 
  · try simp only [if_neg q2]
    have h14 := r1_.2 q2
    obtain ⟨g15_0, r16_⟩ := h14
    refine B_X8_cellsBarred_r44_9 Ln I A v1 v2 v3 v4 g15_0 (fun q17 => ?_) (fun q17 => ?_)
    · try simp only [if_pos q17]
      have h18 := r16_.1 q17
      obtain ⟨g19_0, r20_⟩ := h18
      refine B_X8_cellsBarred_r44_25 Ln I A v1 v2 v3 v4 g19_0 (fun q21 => ?_) (fun q21 => ?_)
      · try simp only [if_pos q21]
        have h22 := r20_.1 q21
        refine B_X8_cellsBarred_r44_40 Ln I A v1 v2 v3 v4  (fun q25 => ?_) (fun q25 => ?_)
        · try simp only [if_pos q25]
          have h26 := h22.1 q25
          refine B_X8_cellsBarred_r44_53 Ln I A v1 v2 v3 v4 h26 (M_X8_isBeyond Ln I A v3 v4 (A 65 (v1).toNatClampNeg) ) rfl ?_
          refine B_X8_cellsBarred_r44_65_s1 Ln I A v1 v2 v3 v4 (V_X8_isBeyond Ln I A v3 v4 (A 65 (v1).toNatClampNeg))  (fun q28 => ?_) (fun q28 => ?_)
          · try simp only [if_pos q28]
            refine B_X8_cellsBarred_r44_76 Ln I A v1 v2 v3 v4  ?_
            exact B_X8_cellsBarred_r44_77_s1 Ln I A v1 v2 v3 v4 0 
          · try simp only [if_neg q28]
            refine B_X8_cellsBarred_r44_68 Ln I A v1 v2 v3 v4  (M_X8_failed_r44 Ln I A 3 ) rfl ?_
            refine B_X8_cellsBarred_r44_73_s1 Ln (SI_X8_failed_r44 Ln I A 3) A v1 v2 v3 v4 (V_X8_failed_r44 Ln I A 3)  ?_
            exact B_X8_cellsBarred_r44_77_s1 Ln (SI_X8_failed_r44 Ln I A 3) A v1 v2 v3 v4 (V_X8_failed_r44 Ln I A 3) 
        · try simp only [if_neg q25]
          refine B_X8_cellsBarred_r44_47 Ln I A v1 v2 v3 v4  (M_X8_failed_r44 Ln I A 4 ) rfl ?_
          exact B_X8_cellsBarred_r44_52_s1 Ln (SI_X8_failed_r44 Ln I A 4) A v1 v2 v3 v4 (V_X8_failed_r44 Ln I A 4) 
      · try simp only [if_neg q21]
        refine B_X8_cellsBarred_r44_34 Ln I A v1 v2 v3 v4  (M_X8_failed_r44 Ln I A 1 ) rfl ?_
        exact B_X8_cellsBarred_r44_39_s1 Ln (SI_X8_failed_r44 Ln I A 1) A v1 v2 v3 v4 (V_X8_failed_r44 Ln I A 1) 
    · try simp only [if_neg q17]
      refine B_X8_cellsBarred_r44_19 Ln I A v1 v2 v3 v4  (M_X8_failed_r44 Ln I A 2 ) rfl ?_
      exact B_X8_cellsBarred_r44_24_s1 Ln (SI_X8_failed_r44 Ln I A 2) A v1 v2 v3 v4 (V_X8_failed_r44 Ln I A 2) 
def V_X4_faultOfCells_r3 (Ln : Nat) (I A : Nat → Nat → Int32) (v1 : Int32) (v2 : Int32) (v3 : Int32) : Int32 := if (I 3 1) ≠ 0 then (if (I 3 2) = v1 then (if 0 ≤ v3 then (if (V_X4_holds_r3 Ln I A v2 v3) = 0 then 3 else 0) else 4) else 2) else 1
set_option maxRecDepth 100000 in
theorem M_X4_faultOfCells_r3 (Ln : Nat) (I A : Nat → Nat → Int32) (v1 : Int32) (v2 : Int32) (v3 : Int32) : zEv 24 0 0 0 [some (.ref 3), some (.int v1), some (.int v2), some (.int v3)] [] (zGs Ln I A) (some (.int (V_X4_faultOfCells_r3 Ln I A v1 v2 v3)), zGs Ln (I) (A)) := by
  unfold V_X4_faultOfCells_r3
  refine B_X4_faultOfCells_r3_0 Ln I A v1 v2 v3  (fun q0 => ?_) (fun q0 => ?_)
  · try simp only [if_pos q0]
    refine B_X4_faultOfCells_r3_9 Ln I A v1 v2 v3  (fun q1 => ?_) (fun q1 => ?_)
    · try simp only [if_pos q1]
      refine B_X4_faultOfCells_r3_19 Ln I A v1 v2 v3  (fun q2 => ?_) (fun q2 => ?_)
      · try simp only [if_pos q2]
        refine B_X4_faultOfCells_r3_25 Ln I A v1 v2 v3  (M_X4_holds_r3 Ln I A v2 v3 ) rfl ?_
        refine B_X4_faultOfCells_r3_31_s1 Ln I A v1 v2 v3 (V_X4_holds_r3 Ln I A v2 v3)  (fun q3 => ?_) (fun q3 => ?_)
        · try simp only [if_pos q3]
          refine B_X4_faultOfCells_r3_38 Ln I A v1 v2 v3  ?_
          exact B_X4_faultOfCells_r3_39_s1 Ln I A v1 v2 v3 3 
        · try simp only [if_neg q3]
          refine B_X4_faultOfCells_r3_34 Ln I A v1 v2 v3  ?_
          exact B_X4_faultOfCells_r3_39_s1 Ln I A v1 v2 v3 0 
      · try simp only [if_neg q2]
        exact B_X4_faultOfCells_r3_23 Ln I A v1 v2 v3 
    · try simp only [if_neg q1]
      exact B_X4_faultOfCells_r3_17 Ln I A v1 v2 v3 
  · try simp only [if_neg q0]
    exact B_X4_faultOfCells_r3_7 Ln I A v1 v2 v3 
def LA_X0_become_r11_r4_46 : Nat → (Ln : Nat) → (I A : Nat → Nat → Int32) → Int32 → Int32 → Int32 → (Option Int32) → (Nat → Nat → Int32)
  | 0, Ln, I, A, v2, v3, v4, j5 => A
  | m + 1, Ln, I, A, v2, v3, v4, j5 => if (I 11 0) ≤ v4 then (SA_X0_findLoads_r11 Ln I (SA_X0_findComing_r11 Ln I A ) ) else (LA_X0_become_r11_r4_46 m Ln I (zw (zw (zw (zw A 12 ((v4).toNatClampNeg) (V_X5_kindOf Ln I A (A 4 (((v2 + 5) + (v4 * 6)) + 1).toNatClampNeg))) 13 ((v4).toNatClampNeg) (V_X5_digit_r4 Ln I (zw A 12 ((v4).toNatClampNeg) (V_X5_kindOf Ln I A (A 4 (((v2 + 5) + (v4 * 6)) + 1).toNatClampNeg))) (((v2 + 5) + (v4 * 6)) + 2))) 14 ((v4).toNatClampNeg) (V_X5_digit_r4 Ln I (zw (zw A 12 ((v4).toNatClampNeg) (V_X5_kindOf Ln I A (A 4 (((v2 + 5) + (v4 * 6)) + 1).toNatClampNeg))) 13 ((v4).toNatClampNeg) (V_X5_digit_r4 Ln I (zw A 12 ((v4).toNatClampNeg) (V_X5_kindOf Ln I A (A 4 (((v2 + 5) + (v4 * 6)) + 1).toNatClampNeg))) (((v2 + 5) + (v4 * 6)) + 2))) (((v2 + 5) + (v4 * 6)) + 3))) 15 ((v4).toNatClampNeg) (V_X5_twoDigits_r4 Ln I (zw (zw (zw A 12 ((v4).toNatClampNeg) (V_X5_kindOf Ln I A (A 4 (((v2 + 5) + (v4 * 6)) + 1).toNatClampNeg))) 13 ((v4).toNatClampNeg) (V_X5_digit_r4 Ln I (zw A 12 ((v4).toNatClampNeg) (V_X5_kindOf Ln I A (A 4 (((v2 + 5) + (v4 * 6)) + 1).toNatClampNeg))) (((v2 + 5) + (v4 * 6)) + 2))) 14 ((v4).toNatClampNeg) (V_X5_digit_r4 Ln I (zw (zw A 12 ((v4).toNatClampNeg) (V_X5_kindOf Ln I A (A 4 (((v2 + 5) + (v4 * 6)) + 1).toNatClampNeg))) 13 ((v4).toNatClampNeg) (V_X5_digit_r4 Ln I (zw A 12 ((v4).toNatClampNeg) (V_X5_kindOf Ln I A (A 4 (((v2 + 5) + (v4 * 6)) + 1).toNatClampNeg))) (((v2 + 5) + (v4 * 6)) + 2))) (((v2 + 5) + (v4 * 6)) + 3))) (((v2 + 5) + (v4 * 6)) + 4))) v2 v3 (v4 + 1) (some ((v2 + 5) + (v4 * 6))))
def PLA_X0_become_r11_r4_46 : Nat → (Ln : Nat) → (I A : Nat → Nat → Int32) → Int32 → Int32 → Int32 → (Option Int32) → Prop
  | 0, Ln, I, A, v2, v3, v4, j5 => False
  | m + 1, Ln, I, A, v2, v3, v4, j5 => ((I 11 0) ≤ v4 → ((P_X0_findComing_r11 Ln I A ) ∧ (P_X0_findLoads_r11 Ln I (SA_X0_findComing_r11 Ln I A ) ))) ∧ (¬ ((I 11 0) ≤ v4) → ((zin (((v2 + 5) + (v4 * 6)) + 1) 60 = true) ∧ ((zin v4 6 = true) ∧ (P_X5_digit_r4 Ln I (zw A 12 ((v4).toNatClampNeg) (V_X5_kindOf Ln I A (A 4 (((v2 + 5) + (v4 * 6)) + 1).toNatClampNeg))) (((v2 + 5) + (v4 * 6)) + 2)) ∧ ((zin v4 6 = true) ∧ (P_X5_digit_r4 Ln I (zw (zw A 12 ((v4).toNatClampNeg) (V_X5_kindOf Ln I A (A 4 (((v2 + 5) + (v4 * 6)) + 1).toNatClampNeg))) 13 ((v4).toNatClampNeg) (V_X5_digit_r4 Ln I (zw A 12 ((v4).toNatClampNeg) (V_X5_kindOf Ln I A (A 4 (((v2 + 5) + (v4 * 6)) + 1).toNatClampNeg))) (((v2 + 5) + (v4 * 6)) + 2))) (((v2 + 5) + (v4 * 6)) + 3)) ∧ ((zin v4 6 = true) ∧ (P_X5_twoDigits_r4 Ln I (zw (zw (zw A 12 ((v4).toNatClampNeg) (V_X5_kindOf Ln I A (A 4 (((v2 + 5) + (v4 * 6)) + 1).toNatClampNeg))) 13 ((v4).toNatClampNeg) (V_X5_digit_r4 Ln I (zw A 12 ((v4).toNatClampNeg) (V_X5_kindOf Ln I A (A 4 (((v2 + 5) + (v4 * 6)) + 1).toNatClampNeg))) (((v2 + 5) + (v4 * 6)) + 2))) 14 ((v4).toNatClampNeg) (V_X5_digit_r4 Ln I (zw (zw A 12 ((v4).toNatClampNeg) (V_X5_kindOf Ln I A (A 4 (((v2 + 5) + (v4 * 6)) + 1).toNatClampNeg))) 13 ((v4).toNatClampNeg) (V_X5_digit_r4 Ln I (zw A 12 ((v4).toNatClampNeg) (V_X5_kindOf Ln I A (A 4 (((v2 + 5) + (v4 * 6)) + 1).toNatClampNeg))) (((v2 + 5) + (v4 * 6)) + 2))) (((v2 + 5) + (v4 * 6)) + 3))) (((v2 + 5) + (v4 * 6)) + 4)) ∧ ((zin v4 6 = true) ∧ (PLA_X0_become_r11_r4_46 m Ln I (zw (zw (zw (zw A 12 ((v4).toNatClampNeg) (V_X5_kindOf Ln I A (A 4 (((v2 + 5) + (v4 * 6)) + 1).toNatClampNeg))) 13 ((v4).toNatClampNeg) (V_X5_digit_r4 Ln I (zw A 12 ((v4).toNatClampNeg) (V_X5_kindOf Ln I A (A 4 (((v2 + 5) + (v4 * 6)) + 1).toNatClampNeg))) (((v2 + 5) + (v4 * 6)) + 2))) 14 ((v4).toNatClampNeg) (V_X5_digit_r4 Ln I (zw (zw A 12 ((v4).toNatClampNeg) (V_X5_kindOf Ln I A (A 4 (((v2 + 5) + (v4 * 6)) + 1).toNatClampNeg))) 13 ((v4).toNatClampNeg) (V_X5_digit_r4 Ln I (zw A 12 ((v4).toNatClampNeg) (V_X5_kindOf Ln I A (A 4 (((v2 + 5) + (v4 * 6)) + 1).toNatClampNeg))) (((v2 + 5) + (v4 * 6)) + 2))) (((v2 + 5) + (v4 * 6)) + 3))) 15 ((v4).toNatClampNeg) (V_X5_twoDigits_r4 Ln I (zw (zw (zw A 12 ((v4).toNatClampNeg) (V_X5_kindOf Ln I A (A 4 (((v2 + 5) + (v4 * 6)) + 1).toNatClampNeg))) 13 ((v4).toNatClampNeg) (V_X5_digit_r4 Ln I (zw A 12 ((v4).toNatClampNeg) (V_X5_kindOf Ln I A (A 4 (((v2 + 5) + (v4 * 6)) + 1).toNatClampNeg))) (((v2 + 5) + (v4 * 6)) + 2))) 14 ((v4).toNatClampNeg) (V_X5_digit_r4 Ln I (zw (zw A 12 ((v4).toNatClampNeg) (V_X5_kindOf Ln I A (A 4 (((v2 + 5) + (v4 * 6)) + 1).toNatClampNeg))) 13 ((v4).toNatClampNeg) (V_X5_digit_r4 Ln I (zw A 12 ((v4).toNatClampNeg) (V_X5_kindOf Ln I A (A 4 (((v2 + 5) + (v4 * 6)) + 1).toNatClampNeg))) (((v2 + 5) + (v4 * 6)) + 2))) (((v2 + 5) + (v4 * 6)) + 3))) (((v2 + 5) + (v4 * 6)) + 4))) v2 v3 (v4 + 1) (some ((v2 + 5) + (v4 * 6))))))))))
set_option maxRecDepth 100000 in
theorem MLA_X0_become_r11_r4_46 (m Ln : Nat) : ∀ (I A : Nat → Nat → Int32) (v2 : Int32) (v3 : Int32) (v4 : Int32) (j5 : Option Int32), PLA_X0_become_r11_r4_46 m Ln I A v2 v3 v4 j5 → zEv 1 46 0 0 [some (.ref 11), some (.ref 4), some (.int v2), some (.int v3), some (.int v4), (Option.map Value.int j5)] [] (zGs Ln I A) (none, zGs Ln I (LA_X0_become_r11_r4_46 m Ln I A v2 v3 v4 j5)) := by
  induction m with
  | zero => intro I A v2 v3 v4 j5 h; exact h.elim
  | succ m ih =>
    intro I A v2 v3 v4 j5 h
    simp only [PLA_X0_become_r11_r4_46] at h
    simp only [LA_X0_become_r11_r4_46]
    refine B_X0_become_r11_r4_46 Ln I A v2 v3 v4 j5  (fun q2 => ?_) (fun q2 => ?_)
    · try simp only [if_pos q2]
      have h3 := h.1 q2
      obtain ⟨g4_0, r5_⟩ := h3
      refine B_X0_become_r11_r4_133 Ln I A v2 v3 v4 j5  (M_X0_findComing_r11 Ln I A  g4_0) rfl ?_
      refine B_X0_become_r11_r4_137 Ln I (SA_X0_findComing_r11 Ln I A ) v2 v3 v4 j5  (M_X0_findLoads_r11 Ln I (SA_X0_findComing_r11 Ln I A )  r5_) rfl ?_
      exact B_X0_become_r11_r4_141 Ln I (SA_X0_findLoads_r11 Ln I (SA_X0_findComing_r11 Ln I A ) ) v2 v3 v4 j5 
    · try simp only [if_neg q2]
      have h7 := h.2 q2
      obtain ⟨g8_0, r9_⟩ := h7
      refine B_X0_become_r11_r4_55 Ln I A v2 v3 v4 j5 g8_0 (M_X5_kindOf Ln I A (A 4 (((v2 + 5) + (v4 * 6)) + 1).toNatClampNeg) ) rfl ?_
      obtain ⟨g10_0, g10_1, r11_⟩ := r9_
      refine B_X0_become_r11_r4_81_s3 Ln I A v2 v3 v4 ((v2 + 5) + (v4 * 6)) v4 (V_X5_kindOf Ln I A (A 4 (((v2 + 5) + (v4 * 6)) + 1).toNatClampNeg)) g10_0 (M_X5_digit_r4 Ln I (zw A 12 ((v4).toNatClampNeg) (V_X5_kindOf Ln I A (A 4 (((v2 + 5) + (v4 * 6)) + 1).toNatClampNeg))) (((v2 + 5) + (v4 * 6)) + 2) g10_1) rfl ?_
      obtain ⟨g12_0, g12_1, r13_⟩ := r11_
      refine B_X0_become_r11_r4_96_s3 Ln I (zw A 12 ((v4).toNatClampNeg) (V_X5_kindOf Ln I A (A 4 (((v2 + 5) + (v4 * 6)) + 1).toNatClampNeg))) v2 v3 v4 ((v2 + 5) + (v4 * 6)) v4 (V_X5_digit_r4 Ln I (zw A 12 ((v4).toNatClampNeg) (V_X5_kindOf Ln I A (A 4 (((v2 + 5) + (v4 * 6)) + 1).toNatClampNeg))) (((v2 + 5) + (v4 * 6)) + 2)) g12_0 (M_X5_digit_r4 Ln I (zw (zw A 12 ((v4).toNatClampNeg) (V_X5_kindOf Ln I A (A 4 (((v2 + 5) + (v4 * 6)) + 1).toNatClampNeg))) 13 ((v4).toNatClampNeg) (V_X5_digit_r4 Ln I (zw A 12 ((v4).toNatClampNeg) (V_X5_kindOf Ln I A (A 4 (((v2 + 5) + (v4 * 6)) + 1).toNatClampNeg))) (((v2 + 5) + (v4 * 6)) + 2))) (((v2 + 5) + (v4 * 6)) + 3) g12_1) rfl ?_
      obtain ⟨g14_0, g14_1, r15_⟩ := r13_
      refine B_X0_become_r11_r4_111_s3 Ln I (zw (zw A 12 ((v4).toNatClampNeg) (V_X5_kindOf Ln I A (A 4 (((v2 + 5) + (v4 * 6)) + 1).toNatClampNeg))) 13 ((v4).toNatClampNeg) (V_X5_digit_r4 Ln I (zw A 12 ((v4).toNatClampNeg) (V_X5_kindOf Ln I A (A 4 (((v2 + 5) + (v4 * 6)) + 1).toNatClampNeg))) (((v2 + 5) + (v4 * 6)) + 2))) v2 v3 v4 ((v2 + 5) + (v4 * 6)) v4 (V_X5_digit_r4 Ln I (zw (zw A 12 ((v4).toNatClampNeg) (V_X5_kindOf Ln I A (A 4 (((v2 + 5) + (v4 * 6)) + 1).toNatClampNeg))) 13 ((v4).toNatClampNeg) (V_X5_digit_r4 Ln I (zw A 12 ((v4).toNatClampNeg) (V_X5_kindOf Ln I A (A 4 (((v2 + 5) + (v4 * 6)) + 1).toNatClampNeg))) (((v2 + 5) + (v4 * 6)) + 2))) (((v2 + 5) + (v4 * 6)) + 3)) g14_0 (M_X5_twoDigits_r4 Ln I (zw (zw (zw A 12 ((v4).toNatClampNeg) (V_X5_kindOf Ln I A (A 4 (((v2 + 5) + (v4 * 6)) + 1).toNatClampNeg))) 13 ((v4).toNatClampNeg) (V_X5_digit_r4 Ln I (zw A 12 ((v4).toNatClampNeg) (V_X5_kindOf Ln I A (A 4 (((v2 + 5) + (v4 * 6)) + 1).toNatClampNeg))) (((v2 + 5) + (v4 * 6)) + 2))) 14 ((v4).toNatClampNeg) (V_X5_digit_r4 Ln I (zw (zw A 12 ((v4).toNatClampNeg) (V_X5_kindOf Ln I A (A 4 (((v2 + 5) + (v4 * 6)) + 1).toNatClampNeg))) 13 ((v4).toNatClampNeg) (V_X5_digit_r4 Ln I (zw A 12 ((v4).toNatClampNeg) (V_X5_kindOf Ln I A (A 4 (((v2 + 5) + (v4 * 6)) + 1).toNatClampNeg))) (((v2 + 5) + (v4 * 6)) + 2))) (((v2 + 5) + (v4 * 6)) + 3))) (((v2 + 5) + (v4 * 6)) + 4) g14_1) rfl ?_
      obtain ⟨g16_0, r17_⟩ := r15_
      refine B_X0_become_r11_r4_126_s3 Ln I (zw (zw (zw A 12 ((v4).toNatClampNeg) (V_X5_kindOf Ln I A (A 4 (((v2 + 5) + (v4 * 6)) + 1).toNatClampNeg))) 13 ((v4).toNatClampNeg) (V_X5_digit_r4 Ln I (zw A 12 ((v4).toNatClampNeg) (V_X5_kindOf Ln I A (A 4 (((v2 + 5) + (v4 * 6)) + 1).toNatClampNeg))) (((v2 + 5) + (v4 * 6)) + 2))) 14 ((v4).toNatClampNeg) (V_X5_digit_r4 Ln I (zw (zw A 12 ((v4).toNatClampNeg) (V_X5_kindOf Ln I A (A 4 (((v2 + 5) + (v4 * 6)) + 1).toNatClampNeg))) 13 ((v4).toNatClampNeg) (V_X5_digit_r4 Ln I (zw A 12 ((v4).toNatClampNeg) (V_X5_kindOf Ln I A (A 4 (((v2 + 5) + (v4 * 6)) + 1).toNatClampNeg))) (((v2 + 5) + (v4 * 6)) + 2))) (((v2 + 5) + (v4 * 6)) + 3))) v2 v3 v4 ((v2 + 5) + (v4 * 6)) v4 (V_X5_twoDigits_r4 Ln I (zw (zw (zw A 12 ((v4).toNatClampNeg) (V_X5_kindOf Ln I A (A 4 (((v2 + 5) + (v4 * 6)) + 1).toNatClampNeg))) 13 ((v4).toNatClampNeg) (V_X5_digit_r4 Ln I (zw A 12 ((v4).toNatClampNeg) (V_X5_kindOf Ln I A (A 4 (((v2 + 5) + (v4 * 6)) + 1).toNatClampNeg))) (((v2 + 5) + (v4 * 6)) + 2))) 14 ((v4).toNatClampNeg) (V_X5_digit_r4 Ln I (zw (zw A 12 ((v4).toNatClampNeg) (V_X5_kindOf Ln I A (A 4 (((v2 + 5) + (v4 * 6)) + 1).toNatClampNeg))) 13 ((v4).toNatClampNeg) (V_X5_digit_r4 Ln I (zw A 12 ((v4).toNatClampNeg) (V_X5_kindOf Ln I A (A 4 (((v2 + 5) + (v4 * 6)) + 1).toNatClampNeg))) (((v2 + 5) + (v4 * 6)) + 2))) (((v2 + 5) + (v4 * 6)) + 3))) (((v2 + 5) + (v4 * 6)) + 4)) g16_0 ?_
      exact ih I (zw (zw (zw (zw A 12 ((v4).toNatClampNeg) (V_X5_kindOf Ln I A (A 4 (((v2 + 5) + (v4 * 6)) + 1).toNatClampNeg))) 13 ((v4).toNatClampNeg) (V_X5_digit_r4 Ln I (zw A 12 ((v4).toNatClampNeg) (V_X5_kindOf Ln I A (A 4 (((v2 + 5) + (v4 * 6)) + 1).toNatClampNeg))) (((v2 + 5) + (v4 * 6)) + 2))) 14 ((v4).toNatClampNeg) (V_X5_digit_r4 Ln I (zw (zw A 12 ((v4).toNatClampNeg) (V_X5_kindOf Ln I A (A 4 (((v2 + 5) + (v4 * 6)) + 1).toNatClampNeg))) 13 ((v4).toNatClampNeg) (V_X5_digit_r4 Ln I (zw A 12 ((v4).toNatClampNeg) (V_X5_kindOf Ln I A (A 4 (((v2 + 5) + (v4 * 6)) + 1).toNatClampNeg))) (((v2 + 5) + (v4 * 6)) + 2))) (((v2 + 5) + (v4 * 6)) + 3))) 15 ((v4).toNatClampNeg) (V_X5_twoDigits_r4 Ln I (zw (zw (zw A 12 ((v4).toNatClampNeg) (V_X5_kindOf Ln I A (A 4 (((v2 + 5) + (v4 * 6)) + 1).toNatClampNeg))) 13 ((v4).toNatClampNeg) (V_X5_digit_r4 Ln I (zw A 12 ((v4).toNatClampNeg) (V_X5_kindOf Ln I A (A 4 (((v2 + 5) + (v4 * 6)) + 1).toNatClampNeg))) (((v2 + 5) + (v4 * 6)) + 2))) 14 ((v4).toNatClampNeg) (V_X5_digit_r4 Ln I (zw (zw A 12 ((v4).toNatClampNeg) (V_X5_kindOf Ln I A (A 4 (((v2 + 5) + (v4 * 6)) + 1).toNatClampNeg))) 13 ((v4).toNatClampNeg) (V_X5_digit_r4 Ln I (zw A 12 ((v4).toNatClampNeg) (V_X5_kindOf Ln I A (A 4 (((v2 + 5) + (v4 * 6)) + 1).toNatClampNeg))) (((v2 + 5) + (v4 * 6)) + 2))) (((v2 + 5) + (v4 * 6)) + 3))) (((v2 + 5) + (v4 * 6)) + 4))) v2 v3 (v4 + 1) (some ((v2 + 5) + (v4 * 6))) r17_
def SI_X0_become_r11_r4 (Ln : Nat) (I A : Nat → Nat → Int32) (v2 : Int32) (v3 : Int32) : Nat → Nat → Int32 := zp (zp (zp (zp I 11 1 (V_X5_digit_r4 Ln I A (v2 + 1))) 11 2 (V_X5_twoDigits_r4 Ln (zp I 11 1 (V_X5_digit_r4 Ln I A (v2 + 1))) A (v2 + 2))) 11 3 (V_X5_digit_r4 Ln (zp (zp I 11 1 (V_X5_digit_r4 Ln I A (v2 + 1))) 11 2 (V_X5_twoDigits_r4 Ln (zp I 11 1 (V_X5_digit_r4 Ln I A (v2 + 1))) A (v2 + 2))) A (v2 + 4))) 11 0 ((v3 - 5) / 6)
def SA_X0_become_r11_r4 (Ln : Nat) (I A : Nat → Nat → Int32) (v2 : Int32) (v3 : Int32) : Nat → Nat → Int32 := LA_X0_become_r11_r4_46 1000 Ln (zp (zp (zp (zp I 11 1 (V_X5_digit_r4 Ln I A (v2 + 1))) 11 2 (V_X5_twoDigits_r4 Ln (zp I 11 1 (V_X5_digit_r4 Ln I A (v2 + 1))) A (v2 + 2))) 11 3 (V_X5_digit_r4 Ln (zp (zp I 11 1 (V_X5_digit_r4 Ln I A (v2 + 1))) 11 2 (V_X5_twoDigits_r4 Ln (zp I 11 1 (V_X5_digit_r4 Ln I A (v2 + 1))) A (v2 + 2))) A (v2 + 4))) 11 0 ((v3 - 5) / 6)) A v2 v3 0 none
def P_X0_become_r11_r4 (Ln : Nat) (I A : Nat → Nat → Int32) (v2 : Int32) (v3 : Int32) : Prop := (P_X5_digit_r4 Ln I A (v2 + 1)) ∧ ((P_X5_twoDigits_r4 Ln (zp I 11 1 (V_X5_digit_r4 Ln I A (v2 + 1))) A (v2 + 2)) ∧ ((P_X5_digit_r4 Ln (zp (zp I 11 1 (V_X5_digit_r4 Ln I A (v2 + 1))) 11 2 (V_X5_twoDigits_r4 Ln (zp I 11 1 (V_X5_digit_r4 Ln I A (v2 + 1))) A (v2 + 2))) A (v2 + 4)) ∧ (PLA_X0_become_r11_r4_46 1000 Ln (zp (zp (zp (zp I 11 1 (V_X5_digit_r4 Ln I A (v2 + 1))) 11 2 (V_X5_twoDigits_r4 Ln (zp I 11 1 (V_X5_digit_r4 Ln I A (v2 + 1))) A (v2 + 2))) 11 3 (V_X5_digit_r4 Ln (zp (zp I 11 1 (V_X5_digit_r4 Ln I A (v2 + 1))) 11 2 (V_X5_twoDigits_r4 Ln (zp I 11 1 (V_X5_digit_r4 Ln I A (v2 + 1))) A (v2 + 2))) A (v2 + 4))) 11 0 ((v3 - 5) / 6)) A v2 v3 0 none)))
set_option maxRecDepth 100000 in
theorem M_X0_become_r11_r4 (Ln : Nat) (I A : Nat → Nat → Int32) (v2 : Int32) (v3 : Int32) (h : P_X0_become_r11_r4 Ln I A v2 v3) : zEv 1 0 0 0 [some (.ref 11), some (.ref 4), some (.int v2), some (.int v3), none, none] [] (zGs Ln I A) (none, zGs Ln (SI_X0_become_r11_r4 Ln I A v2 v3) (SA_X0_become_r11_r4 Ln I A v2 v3)) := by
  unfold P_X0_become_r11_r4 at h
  unfold SI_X0_become_r11_r4 SA_X0_become_r11_r4
  obtain ⟨g0_0, r1_⟩ := h
  refine B_X0_become_r11_r4_0 Ln I A v2 v3  (M_X5_digit_r4 Ln I A (v2 + 1) g0_0) rfl ?_
  obtain ⟨g2_0, r3_⟩ := r1_
  refine B_X0_become_r11_r4_8_s2 Ln I A v2 v3 (V_X5_digit_r4 Ln I A (v2 + 1))  (M_X5_twoDigits_r4 Ln (zp I 11 1 (V_X5_digit_r4 Ln I A (v2 + 1))) A (v2 + 2) g2_0) rfl ?_
  obtain ⟨g4_0, r5_⟩ := r3_
  refine B_X0_become_r11_r4_19_s2 Ln (zp I 11 1 (V_X5_digit_r4 Ln I A (v2 + 1))) A v2 v3 (V_X5_twoDigits_r4 Ln (zp I 11 1 (V_X5_digit_r4 Ln I A (v2 + 1))) A (v2 + 2))  (M_X5_digit_r4 Ln (zp (zp I 11 1 (V_X5_digit_r4 Ln I A (v2 + 1))) 11 2 (V_X5_twoDigits_r4 Ln (zp I 11 1 (V_X5_digit_r4 Ln I A (v2 + 1))) A (v2 + 2))) A (v2 + 4) g4_0) rfl ?_
  refine B_X0_become_r11_r4_30_s2 Ln (zp (zp I 11 1 (V_X5_digit_r4 Ln I A (v2 + 1))) 11 2 (V_X5_twoDigits_r4 Ln (zp I 11 1 (V_X5_digit_r4 Ln I A (v2 + 1))) A (v2 + 2))) A v2 v3 (V_X5_digit_r4 Ln (zp (zp I 11 1 (V_X5_digit_r4 Ln I A (v2 + 1))) 11 2 (V_X5_twoDigits_r4 Ln (zp I 11 1 (V_X5_digit_r4 Ln I A (v2 + 1))) A (v2 + 2))) A (v2 + 4))  ?_
  exact MLA_X0_become_r11_r4_46 1000 Ln (zp (zp (zp (zp I 11 1 (V_X5_digit_r4 Ln I A (v2 + 1))) 11 2 (V_X5_twoDigits_r4 Ln (zp I 11 1 (V_X5_digit_r4 Ln I A (v2 + 1))) A (v2 + 2))) 11 3 (V_X5_digit_r4 Ln (zp (zp I 11 1 (V_X5_digit_r4 Ln I A (v2 + 1))) 11 2 (V_X5_twoDigits_r4 Ln (zp I 11 1 (V_X5_digit_r4 Ln I A (v2 + 1))) A (v2 + 2))) A (v2 + 4))) 11 0 ((v3 - 5) / 6)) A v2 v3 0 none r5_
def V_X4_faultOfCells_r5 (Ln : Nat) (I A : Nat → Nat → Int32) (v1 : Int32) (v2 : Int32) (v3 : Int32) : Int32 := if (I 5 1) ≠ 0 then (if (I 5 2) = v1 then (if 0 ≤ v3 then (if (V_X4_holds_r5 Ln I A v2 v3) = 0 then 3 else 0) else 4) else 2) else 1
set_option maxRecDepth 100000 in
theorem M_X4_faultOfCells_r5 (Ln : Nat) (I A : Nat → Nat → Int32) (v1 : Int32) (v2 : Int32) (v3 : Int32) : zEv 24 0 0 0 [some (.ref 5), some (.int v1), some (.int v2), some (.int v3)] [] (zGs Ln I A) (some (.int (V_X4_faultOfCells_r5 Ln I A v1 v2 v3)), zGs Ln (I) (A)) := by
  unfold V_X4_faultOfCells_r5
  refine B_X4_faultOfCells_r5_0 Ln I A v1 v2 v3  (fun q0 => ?_) (fun q0 => ?_)
  · try simp only [if_pos q0]
    refine B_X4_faultOfCells_r5_9 Ln I A v1 v2 v3  (fun q1 => ?_) (fun q1 => ?_)
    · try simp only [if_pos q1]
      refine B_X4_faultOfCells_r5_19 Ln I A v1 v2 v3  (fun q2 => ?_) (fun q2 => ?_)
      · try simp only [if_pos q2]
        refine B_X4_faultOfCells_r5_25 Ln I A v1 v2 v3  (M_X4_holds_r5 Ln I A v2 v3 ) rfl ?_
        refine B_X4_faultOfCells_r5_31_s1 Ln I A v1 v2 v3 (V_X4_holds_r5 Ln I A v2 v3)  (fun q3 => ?_) (fun q3 => ?_)
        · try simp only [if_pos q3]
          refine B_X4_faultOfCells_r5_38 Ln I A v1 v2 v3  ?_
          exact B_X4_faultOfCells_r5_39_s1 Ln I A v1 v2 v3 3 
        · try simp only [if_neg q3]
          refine B_X4_faultOfCells_r5_34 Ln I A v1 v2 v3  ?_
          exact B_X4_faultOfCells_r5_39_s1 Ln I A v1 v2 v3 0 
      · try simp only [if_neg q2]
        exact B_X4_faultOfCells_r5_23 Ln I A v1 v2 v3 
    · try simp only [if_neg q1]
      exact B_X4_faultOfCells_r5_17 Ln I A v1 v2 v3 
  · try simp only [if_neg q0]
    exact B_X4_faultOfCells_r5_7 Ln I A v1 v2 v3 
