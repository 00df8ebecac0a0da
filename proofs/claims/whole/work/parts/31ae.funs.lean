/-! methods, by program (wip/whole/gen_fun.py, gen_loop.py) -/
def V_X7_tell_r1 (Ln : Nat) (I A : Nat → Nat → Int32) (v1 : Int32) : Int32 := if (V_X7_isShade_r1 Ln I A v1) ≠ 0 then (if (A 12 (v1).toNatClampNeg : Int32).toInt = 1 then (V_X7_drownedTells_r1 Ln I A v1) else (if (A 12 (v1).toNatClampNeg : Int32).toInt = 2 then (V_X7_livingTells_r1 Ln I A v1) else (V_X7_shadeTells_r1 Ln I A v1))) else (-1)
def SI_X7_tell_r1 (Ln : Nat) (I A : Nat → Nat → Int32) (v1 : Int32) : Nat → Nat → Int32 := if (V_X7_isShade_r1 Ln I A v1) ≠ 0 then (if (A 12 (v1).toNatClampNeg : Int32).toInt = 1 then (SI_X7_drownedTells_r1 Ln I A v1) else (if (A 12 (v1).toNatClampNeg : Int32).toInt = 2 then (SI_X7_livingTells_r1 Ln I A v1) else (SI_X7_shadeTells_r1 Ln I A v1))) else I
def P_X7_tell_r1 (Ln : Nat) (I A : Nat → Nat → Int32) (v1 : Int32) : Prop := ((V_X7_isShade_r1 Ln I A v1) ≠ 0 → ((zin v1 6 = true) ∧ (((A 12 (v1).toNatClampNeg : Int32).toInt = 1 → (P_X7_drownedTells_r1 Ln I A v1)) ∧ ((A 12 (v1).toNatClampNeg : Int32).toInt = 2 → (P_X7_livingTells_r1 Ln I A v1)) ∧ (¬ (A 12 (v1).toNatClampNeg : Int32).toInt = 1 → ¬ (A 12 (v1).toNatClampNeg : Int32).toInt = 2 → (P_X7_shadeTells_r1 Ln I A v1))))) ∧ (¬ ((V_X7_isShade_r1 Ln I A v1) ≠ 0) → True)
set_option maxRecDepth 100000 in
theorem M_X7_tell_r1 (Ln : Nat) (I A : Nat → Nat → Int32) (v1 : Int32) (h : P_X7_tell_r1 Ln I A v1) : zEv 71 0 0 0 [some (.ref 1), some (.int v1)] [] (zGs Ln I A) (some (.int (V_X7_tell_r1 Ln I A v1)), zGs Ln (SI_X7_tell_r1 Ln I A v1) (A)) := by
  unfold P_X7_tell_r1 at h
  unfold V_X7_tell_r1 SI_X7_tell_r1
  refine B_X7_tell_r1_0 Ln I A v1  (M_X7_isShade_r1 Ln I A v1 ) rfl ?_
  refine B_X7_tell_r1_5_s1 Ln I A v1 (V_X7_isShade_r1 Ln I A v1)  (fun q4 => ?_) (fun q4 => ?_)
  · try simp only [if_pos q4]
    have h5 := h.1 q4
    obtain ⟨g6_0, r7_⟩ := h5
    refine B_X7_tell_r1_10 Ln I A v1 g6_0 (fun c0 => ?_) (fun c1 => ?_) (fun c0 c1 => ?_)
    ·  try simp only [if_pos c0]
      have h8 := r7_.1 c0
      refine B_X7_tell_r1_50 Ln I A v1  (M_X7_drownedTells_r1 Ln I A v1 h8) rfl ?_
      exact B_X7_tell_r1_55_s1 Ln (SI_X7_drownedTells_r1 Ln I A v1) A v1 (V_X7_drownedTells_r1 Ln I A v1) 
    · have n0 : ¬ (A 12 (v1).toNatClampNeg : Int32).toInt = 1 := (fun q => absurd (q.symm.trans c1) (by decide)); try simp only [if_neg n0, if_pos c1]
      have h10 := r7_.2.1 c1
      refine B_X7_tell_r1_44 Ln I A v1  (M_X7_livingTells_r1 Ln I A v1 h10) rfl ?_
      exact B_X7_tell_r1_49_s1 Ln (SI_X7_livingTells_r1 Ln I A v1) A v1 (V_X7_livingTells_r1 Ln I A v1) 
    · try simp only [if_neg c0, if_neg c1]
      have h12 := r7_.2.2 c0 c1
      refine B_X7_tell_r1_56 Ln I A v1  (M_X7_shadeTells_r1 Ln I A v1 h12) rfl ?_
      exact B_X7_tell_r1_61_s1 Ln (SI_X7_shadeTells_r1 Ln I A v1) A v1 (V_X7_shadeTells_r1 Ln I A v1) 
  · try simp only [if_neg q4]
    exact B_X7_tell_r1_8 Ln I A v1 
def V_X7_hail_r1 (Ln : Nat) (I A : Nat → Nat → Int32) (v1 : Int32) : Int32 := if (V_X7_isShade_r1 Ln I A v1) ≠ 0 then (if (A 12 (v1).toNatClampNeg) ≠ 2 then (V_X7_hailByNumber_r1 Ln I A v1) else (V_X7_hailLiving_r1 Ln I A )) else (-1)
def SI_X7_hail_r1 (Ln : Nat) (I A : Nat → Nat → Int32) (v1 : Int32) : Nat → Nat → Int32 := if (V_X7_isShade_r1 Ln I A v1) ≠ 0 then (if (A 12 (v1).toNatClampNeg) ≠ 2 then (SI_X7_hailByNumber_r1 Ln I A v1) else (SI_X7_hailLiving_r1 Ln I A )) else I
def P_X7_hail_r1 (Ln : Nat) (I A : Nat → Nat → Int32) (v1 : Int32) : Prop := ((V_X7_isShade_r1 Ln I A v1) ≠ 0 → (zin v1 6 = true)) ∧ (¬ ((V_X7_isShade_r1 Ln I A v1) ≠ 0) → True)
set_option maxRecDepth 100000 in
theorem M_X7_hail_r1 (Ln : Nat) (I A : Nat → Nat → Int32) (v1 : Int32) (h : P_X7_hail_r1 Ln I A v1) : zEv 72 0 0 0 [some (.ref 1), some (.int v1)] [] (zGs Ln I A) (some (.int (V_X7_hail_r1 Ln I A v1)), zGs Ln (SI_X7_hail_r1 Ln I A v1) (A)) := by
  unfold P_X7_hail_r1 at h
  unfold V_X7_hail_r1 SI_X7_hail_r1
  refine B_X7_hail_r1_0 Ln I A v1  (M_X7_isShade_r1 Ln I A v1 ) rfl ?_
  refine B_X7_hail_r1_5_s1 Ln I A v1 (V_X7_isShade_r1 Ln I A v1)  (fun q4 => ?_) (fun q4 => ?_)
  · try simp only [if_pos q4]
    have h5 := h.1 q4
    refine B_X7_hail_r1_10 Ln I A v1 h5 (fun q7 => ?_) (fun q7 => ?_)
    · try simp only [if_pos q7]
      refine B_X7_hail_r1_30 Ln I A v1  (M_X7_hailByNumber_r1 Ln I A v1 ) rfl ?_
      exact B_X7_hail_r1_35_s1 Ln (SI_X7_hailByNumber_r1 Ln I A v1) A v1 (V_X7_hailByNumber_r1 Ln I A v1) 
    · try simp only [if_neg q7]
      refine B_X7_hail_r1_23 Ln I A v1  (M_X7_hailLiving_r1 Ln I A  ) rfl ?_
      refine B_X7_hail_r1_27_s1 Ln (SI_X7_hailLiving_r1 Ln I A ) A v1 (V_X7_hailLiving_r1 Ln I A )  ?_
      exact B_X7_hail_r1_35_s1 Ln (SI_X7_hailLiving_r1 Ln I A ) A v1 (V_X7_hailLiving_r1 Ln I A ) 
  · try simp only [if_neg q4]
    exact B_X7_hail_r1_8 Ln I A v1 
def V_X7_as_r1 (Ln : Nat) (I A : Nat → Nat → Int32) (v1 : Int32) (v2 : Int32) : Int32 := if (V_X7_isShade_r1 Ln I A v1) ≠ 0 then (if v2 < 0 then (V_X7_faultless_r1 Ln I A (-2)) else (if v2 < 3 then (if v2 ≤ (A 12 (v1).toNatClampNeg) then (V_X7_faultless_r1 Ln I A 1) else (V_X7_faulted_r1 Ln I A 2)) else (V_X7_faultless_r1 Ln I A (-2)))) else (V_X7_faultless_r1 Ln I A (-1))
def SI_X7_as_r1 (Ln : Nat) (I A : Nat → Nat → Int32) (v1 : Int32) (v2 : Int32) : Nat → Nat → Int32 := if (V_X7_isShade_r1 Ln I A v1) ≠ 0 then (if v2 < 0 then (SI_X7_faultless_r1 Ln I A (-2)) else (if v2 < 3 then (if v2 ≤ (A 12 (v1).toNatClampNeg) then (SI_X7_faultless_r1 Ln I A 1) else (SI_X7_faulted_r1 Ln I A 2)) else (SI_X7_faultless_r1 Ln I A (-2)))) else (SI_X7_faultless_r1 Ln I A (-1))
def P_X7_as_r1 (Ln : Nat) (I A : Nat → Nat → Int32) (v1 : Int32) (v2 : Int32) : Prop := ((V_X7_isShade_r1 Ln I A v1) ≠ 0 → ((v2 < 0 → True) ∧ (¬ (v2 < 0) → ((v2 < 3 → (zin v1 6 = true)) ∧ (¬ (v2 < 3) → True))))) ∧ (¬ ((V_X7_isShade_r1 Ln I A v1) ≠ 0) → True)
set_option maxRecDepth 100000 in
theorem M_X7_as_r1 (Ln : Nat) (I A : Nat → Nat → Int32) (v1 : Int32) (v2 : Int32) (h : P_X7_as_r1 Ln I A v1 v2) : zEv 73 0 0 0 [some (.ref 1), some (.int v1), some (.int v2)] [] (zGs Ln I A) (some (.int (V_X7_as_r1 Ln I A v1 v2)), zGs Ln (SI_X7_as_r1 Ln I A v1 v2) (A)) := by
  unfold P_X7_as_r1 at h
  unfold V_X7_as_r1 SI_X7_as_r1
  refine B_X7_as_r1_0 Ln I A v1 v2  (M_X7_isShade_r1 Ln I A v1 ) rfl ?_
  refine B_X7_as_r1_5_s1 Ln I A v1 v2 (V_X7_isShade_r1 Ln I A v1)  (fun q4 => ?_) (fun q4 => ?_)
  · try simp only [if_pos q4]
    have h5 := h.1 q4
    refine B_X7_as_r1_14 Ln I A v1 v2  (fun q8 => ?_) (fun q8 => ?_)
    · try simp only [if_pos q8]
      refine B_X7_as_r1_23 Ln I A v1 v2  (M_X7_faultless_r1 Ln I A (-2) ) rfl ?_
      exact B_X7_as_r1_29_s1 Ln (SI_X7_faultless_r1 Ln I A (-2)) A v1 v2 (V_X7_faultless_r1 Ln I A (-2)) 
    · try simp only [if_neg q8]
      have h9 := h5.2 q8
      refine B_X7_as_r1_18 Ln I A v1 v2  (fun q12 => ?_) (fun q12 => ?_)
      · try simp only [if_pos q12]
        have h13 := h9.1 q12
        refine B_X7_as_r1_30 Ln I A v1 v2 h13 (fun q15 => ?_) (fun q15 => ?_)
        · try simp only [if_pos q15]
          refine B_X7_as_r1_51 Ln I A v1 v2  (M_X7_faultless_r1 Ln I A 1 ) rfl ?_
          exact B_X7_as_r1_56_s1 Ln (SI_X7_faultless_r1 Ln I A 1) A v1 v2 (V_X7_faultless_r1 Ln I A 1) 
        · try simp only [if_neg q15]
          refine B_X7_as_r1_43 Ln I A v1 v2  (M_X7_faulted_r1 Ln I A 2 ) rfl ?_
          refine B_X7_as_r1_48_s1 Ln (SI_X7_faulted_r1 Ln I A 2) A v1 v2 (V_X7_faulted_r1 Ln I A 2)  ?_
          exact B_X7_as_r1_56_s1 Ln (SI_X7_faulted_r1 Ln I A 2) A v1 v2 (V_X7_faulted_r1 Ln I A 2) 
      · try simp only [if_neg q12]
        refine B_X7_as_r1_23 Ln I A v1 v2  (M_X7_faultless_r1 Ln I A (-2) ) rfl ?_
        exact B_X7_as_r1_29_s1 Ln (SI_X7_faultless_r1 Ln I A (-2)) A v1 v2 (V_X7_faultless_r1 Ln I A (-2)) 
  · try simp only [if_neg q4]
    refine B_X7_as_r1_8 Ln I A v1 v2  (M_X7_faultless_r1 Ln I A (-1) ) rfl ?_
    exact B_X7_as_r1_13_s1 Ln (SI_X7_faultless_r1 Ln I A (-1)) A v1 v2 (V_X7_faultless_r1 Ln I A (-1)) 
def V_X8_failedLong_r44 (Ln : Nat) (I A : Nat → Nat → Int32) (v1 : Int32) : Int64 := (V_X8_lost Ln (zp I 44 0 v1) A )
def SI_X8_failedLong_r44 (Ln : Nat) (I A : Nat → Nat → Int32) (v1 : Int32) : Nat → Nat → Int32 := (zp I 44 0 v1)
set_option maxRecDepth 100000 in
theorem M_X8_failedLong_r44 (Ln : Nat) (I A : Nat → Nat → Int32) (v1 : Int32) : zEv 100 0 0 0 [some (.ref 44), some (.int v1)] [] (zGs Ln I A) (some (.long (V_X8_failedLong_r44 Ln I A v1)), zGs Ln (SI_X8_failedLong_r44 Ln I A v1) (A)) := by
  unfold V_X8_failedLong_r44 SI_X8_failedLong_r44
  refine B_X8_failedLong_r44_0 Ln I A v1  (M_X8_lost Ln (zp I 44 0 v1) A  ) rfl ?_
  exact B_X8_failedLong_r44_8_s1 Ln (zp I 44 0 v1) A v1 (V_X8_lost Ln (zp I 44 0 v1) A ) 
def V_X8_noShade_r44 (Ln : Nat) (I A : Nat → Nat → Int32) (v1 : Int32) : Int32 := if (V_X8_in Ln I A (Int32.toInt64 v1) 0 ((Int32.toInt64 (I 44 4)) - 1)) ≠ 0 then 0 else 1
set_option maxRecDepth 100000 in
theorem M_X8_noShade_r44 (Ln : Nat) (I A : Nat → Nat → Int32) (v1 : Int32) : zEv 101 0 0 0 [some (.ref 44), some (.int v1)] [] (zGs Ln I A) (some (.int (V_X8_noShade_r44 Ln I A v1)), zGs Ln (I) (A)) := by
  unfold V_X8_noShade_r44
  refine B_X8_noShade_r44_0 Ln I A v1  (M_X8_in Ln I A (Int32.toInt64 v1) 0 ((Int32.toInt64 (I 44 4)) - 1) ) rfl ?_
  refine B_X8_noShade_r44_13_s1 Ln I A v1 (V_X8_in Ln I A (Int32.toInt64 v1) 0 ((Int32.toInt64 (I 44 4)) - 1))  (fun q0 => ?_) (fun q0 => ?_)
  · try simp only [if_pos q0]
    refine B_X8_noShade_r44_20 Ln I A v1  ?_
    exact B_X8_noShade_r44_21_s1 Ln I A v1 0 
  · try simp only [if_neg q0]
    refine B_X8_noShade_r44_16 Ln I A v1  ?_
    exact B_X8_noShade_r44_21_s1 Ln I A v1 1 
def V_X8_figure_r44 (Ln : Nat) (I A : Nat → Nat → Int32) (v1 : Int32) (v2 : Int32) (v3 : Int32) (v4 : Int32) : Int32 := if (V_X8_in Ln I A (Int32.toInt64 ((V_X8_codeAt_r44 Ln I A v1 v2) - 48)) (Int32.toInt64 v3) (Int32.toInt64 v4)) = 0 then (if (V_X8_in Ln I A (Int32.toInt64 ((V_X8_codeAt_r44 Ln I A v1 v2) - 48)) (Int32.toInt64 v3) (Int32.toInt64 v4)) = 0 then (-9) else ((V_X8_codeAt_r44 Ln I A v1 v2) - 48)) else (if (V_X8_in Ln I A (Int32.toInt64 ((V_X8_codeAt_r44 Ln I A v1 v2) - 48)) (Int32.toInt64 v3) (Int32.toInt64 v4)) = 0 then (-9) else ((V_X8_codeAt_r44 Ln I A v1 v2) - 48))
def SI_X8_figure_r44 (Ln : Nat) (I A : Nat → Nat → Int32) (v1 : Int32) (v2 : Int32) (v3 : Int32) (v4 : Int32) : Nat → Nat → Int32 := if (V_X8_in Ln I A (Int32.toInt64 ((V_X8_codeAt_r44 Ln I A v1 v2) - 48)) (Int32.toInt64 v3) (Int32.toInt64 v4)) = 0 then (if (V_X8_in Ln I A (Int32.toInt64 ((V_X8_codeAt_r44 Ln I A v1 v2) - 48)) (Int32.toInt64 v3) (Int32.toInt64 v4)) = 0 then (zp I 44 11 ((I 44 11) + 0)) else (zp I 44 11 ((I 44 11) + 0))) else (if (V_X8_in Ln I A (Int32.toInt64 ((V_X8_codeAt_r44 Ln I A v1 v2) - 48)) (Int32.toInt64 v3) (Int32.toInt64 v4)) = 0 then (zp I 44 11 ((I 44 11) + 1)) else (zp I 44 11 ((I 44 11) + 1)))
def P_X8_figure_r44 (Ln : Nat) (I A : Nat → Nat → Int32) (v1 : Int32) (v2 : Int32) (v3 : Int32) (v4 : Int32) : Prop := (P_X8_codeAt_r44 Ln I A v1 v2)
set_option maxRecDepth 100000 in
theorem M_X8_figure_r44 (Ln : Nat) (I A : Nat → Nat → Int32) (v1 : Int32) (v2 : Int32) (v3 : Int32) (v4 : Int32) (h : P_X8_figure_r44 Ln I A v1 v2 v3 v4) : zEv 105 0 0 0 [some (.ref 44), some (.int v1), some (.int v2), some (.int v3), some (.int v4), none, none] [] (zGs Ln I A) (some (.int (V_X8_figure_r44 Ln I A v1 v2 v3 v4)), zGs Ln (SI_X8_figure_r44 Ln I A v1 v2 v3 v4) (A)) := by
  unfold P_X8_figure_r44 at h
  unfold V_X8_figure_r44 SI_X8_figure_r44
  refine B_X8_figure_r44_0 Ln I A v1 v2 v3 v4  (M_X8_codeAt_r44 Ln I A v1 v2 h) rfl ?_
  refine B_X8_figure_r44_6_s1 Ln I A v1 v2 v3 v4 (V_X8_codeAt_r44 Ln I A v1 v2)  (M_X8_in Ln I A (Int32.toInt64 ((V_X8_codeAt_r44 Ln I A v1 v2) - 48)) (Int32.toInt64 v3) (Int32.toInt64 v4) ) rfl ?_
  refine B_X8_figure_r44_22_s1 Ln I A v1 v2 v3 v4 ((V_X8_codeAt_r44 Ln I A v1 v2) - 48) (V_X8_in Ln I A (Int32.toInt64 ((V_X8_codeAt_r44 Ln I A v1 v2) - 48)) (Int32.toInt64 v3) (Int32.toInt64 v4))  (fun q1 => ?_) (fun q1 => ?_)
  · try simp only [if_pos q1]
    refine B_X8_figure_r44_38_s2 Ln I A v1 v2 v3 v4 ((V_X8_codeAt_r44 Ln I A v1 v2) - 48) (V_X8_in Ln I A (Int32.toInt64 ((V_X8_codeAt_r44 Ln I A v1 v2) - 48)) (Int32.toInt64 v3) (Int32.toInt64 v4)) (I 44 11)  ?_
    refine B_X8_figure_r44_39_s3 Ln I A v1 v2 v3 v4 ((V_X8_codeAt_r44 Ln I A v1 v2) - 48) (V_X8_in Ln I A (Int32.toInt64 ((V_X8_codeAt_r44 Ln I A v1 v2) - 48)) (Int32.toInt64 v3) (Int32.toInt64 v4)) (I 44 11) 0  (fun q2 => ?_) (fun q2 => ?_)
    · try simp only [if_pos q2]
      refine B_X8_figure_r44_53 Ln (zp I 44 11 ((I 44 11) + 0)) A v1 v2 v3 v4 ((V_X8_codeAt_r44 Ln I A v1 v2) - 48) (V_X8_in Ln I A (Int32.toInt64 ((V_X8_codeAt_r44 Ln I A v1 v2) - 48)) (Int32.toInt64 v3) (Int32.toInt64 v4))  ?_
      exact B_X8_figure_r44_55_s1 Ln (zp I 44 11 ((I 44 11) + 0)) A v1 v2 v3 v4 ((V_X8_codeAt_r44 Ln I A v1 v2) - 48) (V_X8_in Ln I A (Int32.toInt64 ((V_X8_codeAt_r44 Ln I A v1 v2) - 48)) (Int32.toInt64 v3) (Int32.toInt64 v4)) (-9) 
    · try simp only [if_neg q2]
      refine B_X8_figure_r44_48 Ln (zp I 44 11 ((I 44 11) + 0)) A v1 v2 v3 v4 ((V_X8_codeAt_r44 Ln I A v1 v2) - 48) (V_X8_in Ln I A (Int32.toInt64 ((V_X8_codeAt_r44 Ln I A v1 v2) - 48)) (Int32.toInt64 v3) (Int32.toInt64 v4))  ?_
      exact B_X8_figure_r44_55_s1 Ln (zp I 44 11 ((I 44 11) + 0)) A v1 v2 v3 v4 ((V_X8_codeAt_r44 Ln I A v1 v2) - 48) (V_X8_in Ln I A (Int32.toInt64 ((V_X8_codeAt_r44 Ln I A v1 v2) - 48)) (Int32.toInt64 v3) (Int32.toInt64 v4)) ((V_X8_codeAt_r44 Ln I A v1 v2) - 48) 
  · try simp only [if_neg q1]
    refine B_X8_figure_r44_34_s2 Ln I A v1 v2 v3 v4 ((V_X8_codeAt_r44 Ln I A v1 v2) - 48) (V_X8_in Ln I A (Int32.toInt64 ((V_X8_codeAt_r44 Ln I A v1 v2) - 48)) (Int32.toInt64 v3) (Int32.toInt64 v4)) (I 44 11)  ?_
    refine B_X8_figure_r44_39_s3 Ln I A v1 v2 v3 v4 ((V_X8_codeAt_r44 Ln I A v1 v2) - 48) (V_X8_in Ln I A (Int32.toInt64 ((V_X8_codeAt_r44 Ln I A v1 v2) - 48)) (Int32.toInt64 v3) (Int32.toInt64 v4)) (I 44 11) 1  (fun q3 => ?_) (fun q3 => ?_)
    · try simp only [if_pos q3]
      refine B_X8_figure_r44_53 Ln (zp I 44 11 ((I 44 11) + 1)) A v1 v2 v3 v4 ((V_X8_codeAt_r44 Ln I A v1 v2) - 48) (V_X8_in Ln I A (Int32.toInt64 ((V_X8_codeAt_r44 Ln I A v1 v2) - 48)) (Int32.toInt64 v3) (Int32.toInt64 v4))  ?_
      exact B_X8_figure_r44_55_s1 Ln (zp I 44 11 ((I 44 11) + 1)) A v1 v2 v3 v4 ((V_X8_codeAt_r44 Ln I A v1 v2) - 48) (V_X8_in Ln I A (Int32.toInt64 ((V_X8_codeAt_r44 Ln I A v1 v2) - 48)) (Int32.toInt64 v3) (Int32.toInt64 v4)) (-9) 
    · try simp only [if_neg q3]
      refine B_X8_figure_r44_48 Ln (zp I 44 11 ((I 44 11) + 1)) A v1 v2 v3 v4 ((V_X8_codeAt_r44 Ln I A v1 v2) - 48) (V_X8_in Ln I A (Int32.toInt64 ((V_X8_codeAt_r44 Ln I A v1 v2) - 48)) (Int32.toInt64 v3) (Int32.toInt64 v4))  ?_
      exact B_X8_figure_r44_55_s1 Ln (zp I 44 11 ((I 44 11) + 1)) A v1 v2 v3 v4 ((V_X8_codeAt_r44 Ln I A v1 v2) - 48) (V_X8_in Ln I A (Int32.toInt64 ((V_X8_codeAt_r44 Ln I A v1 v2) - 48)) (Int32.toInt64 v3) (Int32.toInt64 v4)) ((V_X8_codeAt_r44 Ln I A v1 v2) - 48) 
def J_X8_readsShade_r44_177_s3 (Ln : Nat) (I A : Nat → Nat → Int32) (v1 : Int32) (v2 : Int32) (v3 : Int32) (v4 : Int32) (v5 : Int32) (v6 : Int32) (v7 : Int32) (s1 : Int32) (s2 : Int32) : Int32 × (Nat → Nat → Int32) × (Nat → Nat → Int32) := (1, zp I 44 15 ((I 44 15) + 1), zw (zw (zw (zw A 50 ((s1).toNatClampNeg) s2) 51 ((I 44 15).toNatClampNeg) v4) 52 ((I 44 15).toNatClampNeg) v5) 53 ((I 44 15).toNatClampNeg) ((10 * v6) + v7))
def PJ_X8_readsShade_r44_177_s3 (Ln : Nat) (I A : Nat → Nat → Int32) (v1 : Int32) (v2 : Int32) (v3 : Int32) (v4 : Int32) (v5 : Int32) (v6 : Int32) (v7 : Int32) (s1 : Int32) (s2 : Int32) : Prop := (zin s1 6 = true) ∧ (zin (I 44 15) 6 = true) ∧ (zin (I 44 15) 6 = true) ∧ (zin (I 44 15) 6 = true)
set_option maxRecDepth 100000 in
theorem MJ_X8_readsShade_r44_177_s3 (Ln : Nat) (I A : Nat → Nat → Int32) (v1 : Int32) (v2 : Int32) (v3 : Int32) (v4 : Int32) (v5 : Int32) (v6 : Int32) (v7 : Int32) (s1 : Int32) (s2 : Int32) (h : PJ_X8_readsShade_r44_177_s3 Ln I A v1 v2 v3 v4 v5 v6 v7 s1 s2) : zEv 106 177 0 0 [some (.ref 44), some (.int v1), some (.int v2), some (.int v3), some (.int v4), some (.int v5), some (.int v6), some (.int v7)] [.int s2, .int s1, .ref 50] (zGs Ln I A) (some (.int (J_X8_readsShade_r44_177_s3 Ln I A v1 v2 v3 v4 v5 v6 v7 s1 s2).1), zGs Ln (J_X8_readsShade_r44_177_s3 Ln I A v1 v2 v3 v4 v5 v6 v7 s1 s2).2.1 (J_X8_readsShade_r44_177_s3 Ln I A v1 v2 v3 v4 v5 v6 v7 s1 s2).2.2) := by
  unfold PJ_X8_readsShade_r44_177_s3 at h
  unfold J_X8_readsShade_r44_177_s3
  obtain ⟨g0_0, g0_1, g0_2, g0_3⟩ := h
  exact B_X8_readsShade_r44_177_s3 Ln I A v1 v2 v3 v4 v5 v6 v7 s1 s2 g0_0 g0_1 g0_2 g0_3
def J_X8_readsShade_r44_139_s1 (Ln : Nat) (I A : Nat → Nat → Int32) (v1 : Int32) (v2 : Int32) (v3 : Int32) (v4 : Int32) (v5 : Int32) (v6 : Int32) (s0 : Int32) : Int32 × (Nat → Nat → Int32) × (Nat → Nat → Int32) := if 0 ≤ s0 then (if v3 ≠ 115 then (if v3 ≠ 100 then (J_X8_readsShade_r44_177_s3 Ln I A v1 v2 v3 v4 v5 v6 s0 (I 44 15) 2) else (J_X8_readsShade_r44_177_s3 Ln I A v1 v2 v3 v4 v5 v6 s0 (I 44 15) 1)) else (J_X8_readsShade_r44_177_s3 Ln I A v1 v2 v3 v4 v5 v6 s0 (I 44 15) 0)) else (0, I, A)
def PJ_X8_readsShade_r44_139_s1 (Ln : Nat) (I A : Nat → Nat → Int32) (v1 : Int32) (v2 : Int32) (v3 : Int32) (v4 : Int32) (v5 : Int32) (v6 : Int32) (s0 : Int32) : Prop := (0 ≤ s0 → ((v3 ≠ 115 → ((v3 ≠ 100 → (PJ_X8_readsShade_r44_177_s3 Ln I A v1 v2 v3 v4 v5 v6 s0 (I 44 15) 2)) ∧ (¬ (v3 ≠ 100) → (PJ_X8_readsShade_r44_177_s3 Ln I A v1 v2 v3 v4 v5 v6 s0 (I 44 15) 1)))) ∧ (¬ (v3 ≠ 115) → (PJ_X8_readsShade_r44_177_s3 Ln I A v1 v2 v3 v4 v5 v6 s0 (I 44 15) 0)))) ∧ (¬ (0 ≤ s0) → True)
set_option maxRecDepth 100000 in
theorem MJ_X8_readsShade_r44_139_s1 (Ln : Nat) (I A : Nat → Nat → Int32) (v1 : Int32) (v2 : Int32) (v3 : Int32) (v4 : Int32) (v5 : Int32) (v6 : Int32) (s0 : Int32) (h : PJ_X8_readsShade_r44_139_s1 Ln I A v1 v2 v3 v4 v5 v6 s0) : zEv 106 139 0 0 [some (.ref 44), some (.int v1), some (.int v2), some (.int v3), some (.int v4), some (.int v5), some (.int v6), none] [.int s0] (zGs Ln I A) (some (.int (J_X8_readsShade_r44_139_s1 Ln I A v1 v2 v3 v4 v5 v6 s0).1), zGs Ln (J_X8_readsShade_r44_139_s1 Ln I A v1 v2 v3 v4 v5 v6 s0).2.1 (J_X8_readsShade_r44_139_s1 Ln I A v1 v2 v3 v4 v5 v6 s0).2.2) := by
  unfold PJ_X8_readsShade_r44_139_s1 at h
  unfold J_X8_readsShade_r44_139_s1
  refine B_X8_readsShade_r44_139_s1 Ln I A v1 v2 v3 v4 v5 v6 s0  (fun q2 => ?_) (fun q2 => ?_)
  · try simp only [if_pos q2]
    have h3 := h.1 q2
    refine B_X8_readsShade_r44_148 Ln I A v1 v2 v3 v4 v5 v6 s0  (fun q6 => ?_) (fun q6 => ?_)
    · try simp only [if_pos q6]
      have h7 := h3.1 q6
      refine B_X8_readsShade_r44_166_s2 Ln I A v1 v2 v3 v4 v5 v6 s0 (I 44 15)  (fun q10 => ?_) (fun q10 => ?_)
      · try simp only [if_pos q10]
        have h11 := h7.1 q10
        refine B_X8_readsShade_r44_176_s2 Ln I A v1 v2 v3 v4 v5 v6 s0 (I 44 15)  ?_
        exact MJ_X8_readsShade_r44_177_s3 Ln I A v1 v2 v3 v4 v5 v6 s0 (I 44 15) 2 h11
      · try simp only [if_neg q10]
        have h14 := h7.2 q10
        refine B_X8_readsShade_r44_172_s2 Ln I A v1 v2 v3 v4 v5 v6 s0 (I 44 15)  ?_
        exact MJ_X8_readsShade_r44_177_s3 Ln I A v1 v2 v3 v4 v5 v6 s0 (I 44 15) 1 h14
    · try simp only [if_neg q6]
      have h17 := h3.2 q6
      refine B_X8_readsShade_r44_162_s2 Ln I A v1 v2 v3 v4 v5 v6 s0 (I 44 15)  ?_
      exact MJ_X8_readsShade_r44_177_s3 Ln I A v1 v2 v3 v4 v5 v6 s0 (I 44 15) 0 h17
  · try simp only [if_neg q2]
    exact B_X8_readsShade_r44_146 Ln I A v1 v2 v3 v4 v5 v6 s0 
def J_X8_readsShade_r44_118_s1 (Ln : Nat) (I A : Nat → Nat → Int32) (v1 : Int32) (v2 : Int32) (v3 : Int32) (v4 : Int32) (v5 : Int32) (s0 : Int32) : Int32 × (Nat → Nat → Int32) × (Nat → Nat → Int32) := if 0 ≤ s0 then (J_X8_readsShade_r44_139_s1 Ln (SI_X8_figure_r44 Ln I A v1 v2 0 9) A v1 v2 v3 v4 v5 s0 (V_X8_figure_r44 Ln I A v1 v2 0 9)) else (J_X8_readsShade_r44_139_s1 Ln I A v1 v2 v3 v4 v5 s0 (-9))
def PJ_X8_readsShade_r44_118_s1 (Ln : Nat) (I A : Nat → Nat → Int32) (v1 : Int32) (v2 : Int32) (v3 : Int32) (v4 : Int32) (v5 : Int32) (s0 : Int32) : Prop := (0 ≤ s0 → ((P_X8_figure_r44 Ln I A v1 v2 0 9) ∧ (PJ_X8_readsShade_r44_139_s1 Ln (SI_X8_figure_r44 Ln I A v1 v2 0 9) A v1 v2 v3 v4 v5 s0 (V_X8_figure_r44 Ln I A v1 v2 0 9)))) ∧ (¬ (0 ≤ s0) → (PJ_X8_readsShade_r44_139_s1 Ln I A v1 v2 v3 v4 v5 s0 (-9)))
set_option maxRecDepth 100000 in
theorem MJ_X8_readsShade_r44_118_s1 (Ln : Nat) (I A : Nat → Nat → Int32) (v1 : Int32) (v2 : Int32) (v3 : Int32) (v4 : Int32) (v5 : Int32) (s0 : Int32) (h : PJ_X8_readsShade_r44_118_s1 Ln I A v1 v2 v3 v4 v5 s0) : zEv 106 118 0 0 [some (.ref 44), some (.int v1), some (.int v2), some (.int v3), some (.int v4), some (.int v5), none, none] [.int s0] (zGs Ln I A) (some (.int (J_X8_readsShade_r44_118_s1 Ln I A v1 v2 v3 v4 v5 s0).1), zGs Ln (J_X8_readsShade_r44_118_s1 Ln I A v1 v2 v3 v4 v5 s0).2.1 (J_X8_readsShade_r44_118_s1 Ln I A v1 v2 v3 v4 v5 s0).2.2) := by
  unfold PJ_X8_readsShade_r44_118_s1 at h
  unfold J_X8_readsShade_r44_118_s1
  refine B_X8_readsShade_r44_118_s1 Ln I A v1 v2 v3 v4 v5 s0  (fun q2 => ?_) (fun q2 => ?_)
  · try simp only [if_pos q2]
    have h3 := h.1 q2
    obtain ⟨g4_0, r5_⟩ := h3
    refine B_X8_readsShade_r44_130 Ln I A v1 v2 v3 v4 v5 s0  (M_X8_figure_r44 Ln I A v1 v2 0 9 g4_0) rfl ?_
    exact MJ_X8_readsShade_r44_139_s1 Ln (SI_X8_figure_r44 Ln I A v1 v2 0 9) A v1 v2 v3 v4 v5 s0 (V_X8_figure_r44 Ln I A v1 v2 0 9) r5_
  · try simp only [if_neg q2]
    have h6 := h.2 q2
    refine B_X8_readsShade_r44_125 Ln I A v1 v2 v3 v4 v5 s0  ?_
    exact MJ_X8_readsShade_r44_139_s1 Ln I A v1 v2 v3 v4 v5 s0 (-9) h6
def J_X8_readsShade_r44_98_s1 (Ln : Nat) (I A : Nat → Nat → Int32) (v1 : Int32) (v2 : Int32) (v3 : Int32) (v4 : Int32) (s0 : Int32) : Int32 × (Nat → Nat → Int32) × (Nat → Nat → Int32) := if 0 ≤ s0 then (J_X8_readsShade_r44_118_s1 Ln (SI_X8_figure_r44 Ln I A v1 v2 0 2) A v1 v2 v3 v4 s0 (V_X8_figure_r44 Ln I A v1 v2 0 2)) else (J_X8_readsShade_r44_118_s1 Ln I A v1 v2 v3 v4 s0 (-9))
def PJ_X8_readsShade_r44_98_s1 (Ln : Nat) (I A : Nat → Nat → Int32) (v1 : Int32) (v2 : Int32) (v3 : Int32) (v4 : Int32) (s0 : Int32) : Prop := (0 ≤ s0 → ((P_X8_figure_r44 Ln I A v1 v2 0 2) ∧ (PJ_X8_readsShade_r44_118_s1 Ln (SI_X8_figure_r44 Ln I A v1 v2 0 2) A v1 v2 v3 v4 s0 (V_X8_figure_r44 Ln I A v1 v2 0 2)))) ∧ (¬ (0 ≤ s0) → (PJ_X8_readsShade_r44_118_s1 Ln I A v1 v2 v3 v4 s0 (-9)))
set_option maxRecDepth 100000 in
theorem MJ_X8_readsShade_r44_98_s1 (Ln : Nat) (I A : Nat → Nat → Int32) (v1 : Int32) (v2 : Int32) (v3 : Int32) (v4 : Int32) (s0 : Int32) (h : PJ_X8_readsShade_r44_98_s1 Ln I A v1 v2 v3 v4 s0) : zEv 106 98 0 0 [some (.ref 44), some (.int v1), some (.int v2), some (.int v3), some (.int v4), none, none, none] [.int s0] (zGs Ln I A) (some (.int (J_X8_readsShade_r44_98_s1 Ln I A v1 v2 v3 v4 s0).1), zGs Ln (J_X8_readsShade_r44_98_s1 Ln I A v1 v2 v3 v4 s0).2.1 (J_X8_readsShade_r44_98_s1 Ln I A v1 v2 v3 v4 s0).2.2) := by
  unfold PJ_X8_readsShade_r44_98_s1 at h
  unfold J_X8_readsShade_r44_98_s1
  refine B_X8_readsShade_r44_98_s1 Ln I A v1 v2 v3 v4 s0  (fun q2 => ?_) (fun q2 => ?_)
  · try simp only [if_pos q2]
    have h3 := h.1 q2
    obtain ⟨g4_0, r5_⟩ := h3
    refine B_X8_readsShade_r44_110 Ln I A v1 v2 v3 v4 s0  (M_X8_figure_r44 Ln I A v1 v2 0 2 g4_0) rfl ?_
    exact MJ_X8_readsShade_r44_118_s1 Ln (SI_X8_figure_r44 Ln I A v1 v2 0 2) A v1 v2 v3 v4 s0 (V_X8_figure_r44 Ln I A v1 v2 0 2) r5_
  · try simp only [if_neg q2]
    have h6 := h.2 q2
    refine B_X8_readsShade_r44_105 Ln I A v1 v2 v3 v4 s0  ?_
    exact MJ_X8_readsShade_r44_118_s1 Ln I A v1 v2 v3 v4 s0 (-9) h6
def J_X8_readsShade_r44_59 (Ln : Nat) (I A : Nat → Nat → Int32) (v1 : Int32) (v2 : Int32) (v3 : Int32) : Int32 × (Nat → Nat → Int32) × (Nat → Nat → Int32) := if 0 ≤ (V_X8_figure_r44 Ln (zp I 44 11 ((I 44 11) + 1)) A v1 v2 0 3) then (J_X8_readsShade_r44_98_s1 Ln (SI_X8_figure_r44 Ln (SI_X8_figure_r44 Ln (zp I 44 11 ((I 44 11) + 1)) A v1 v2 0 3) A v1 v2 1 9) A v1 v2 v3 (V_X8_figure_r44 Ln (zp I 44 11 ((I 44 11) + 1)) A v1 v2 0 3) (V_X8_figure_r44 Ln (SI_X8_figure_r44 Ln (zp I 44 11 ((I 44 11) + 1)) A v1 v2 0 3) A v1 v2 1 9)) else (J_X8_readsShade_r44_98_s1 Ln (SI_X8_figure_r44 Ln (zp I 44 11 ((I 44 11) + 1)) A v1 v2 0 3) A v1 v2 v3 (V_X8_figure_r44 Ln (zp I 44 11 ((I 44 11) + 1)) A v1 v2 0 3) (-9))
def PJ_X8_readsShade_r44_59 (Ln : Nat) (I A : Nat → Nat → Int32) (v1 : Int32) (v2 : Int32) (v3 : Int32) : Prop := (P_X8_figure_r44 Ln (zp I 44 11 ((I 44 11) + 1)) A v1 v2 0 3) ∧ ((0 ≤ (V_X8_figure_r44 Ln (zp I 44 11 ((I 44 11) + 1)) A v1 v2 0 3) → ((P_X8_figure_r44 Ln (SI_X8_figure_r44 Ln (zp I 44 11 ((I 44 11) + 1)) A v1 v2 0 3) A v1 v2 1 9) ∧ (PJ_X8_readsShade_r44_98_s1 Ln (SI_X8_figure_r44 Ln (SI_X8_figure_r44 Ln (zp I 44 11 ((I 44 11) + 1)) A v1 v2 0 3) A v1 v2 1 9) A v1 v2 v3 (V_X8_figure_r44 Ln (zp I 44 11 ((I 44 11) + 1)) A v1 v2 0 3) (V_X8_figure_r44 Ln (SI_X8_figure_r44 Ln (zp I 44 11 ((I 44 11) + 1)) A v1 v2 0 3) A v1 v2 1 9)))) ∧ (¬ (0 ≤ (V_X8_figure_r44 Ln (zp I 44 11 ((I 44 11) + 1)) A v1 v2 0 3)) → (PJ_X8_readsShade_r44_98_s1 Ln (SI_X8_figure_r44 Ln (zp I 44 11 ((I 44 11) + 1)) A v1 v2 0 3) A v1 v2 v3 (V_X8_figure_r44 Ln (zp I 44 11 ((I 44 11) + 1)) A v1 v2 0 3) (-9))))
set_option maxRecDepth 100000 in
theorem MJ_X8_readsShade_r44_59 (Ln : Nat) (I A : Nat → Nat → Int32) (v1 : Int32) (v2 : Int32) (v3 : Int32) (h : PJ_X8_readsShade_r44_59 Ln I A v1 v2 v3) : zEv 106 59 0 0 [some (.ref 44), some (.int v1), some (.int v2), some (.int v3), none, none, none, none] [] (zGs Ln I A) (some (.int (J_X8_readsShade_r44_59 Ln I A v1 v2 v3).1), zGs Ln (J_X8_readsShade_r44_59 Ln I A v1 v2 v3).2.1 (J_X8_readsShade_r44_59 Ln I A v1 v2 v3).2.2) := by
  unfold PJ_X8_readsShade_r44_59 at h
  unfold J_X8_readsShade_r44_59
  obtain ⟨g0_0, r1_⟩ := h
  refine B_X8_readsShade_r44_59 Ln I A v1 v2 v3  (M_X8_figure_r44 Ln (zp I 44 11 ((I 44 11) + 1)) A v1 v2 0 3 g0_0) rfl ?_
  refine B_X8_readsShade_r44_77_s1 Ln (SI_X8_figure_r44 Ln (zp I 44 11 ((I 44 11) + 1)) A v1 v2 0 3) A v1 v2 v3 (V_X8_figure_r44 Ln (zp I 44 11 ((I 44 11) + 1)) A v1 v2 0 3)  (fun q4 => ?_) (fun q4 => ?_)
  · try simp only [if_pos q4]
    have h5 := r1_.1 q4
    obtain ⟨g6_0, r7_⟩ := h5
    refine B_X8_readsShade_r44_89 Ln (SI_X8_figure_r44 Ln (zp I 44 11 ((I 44 11) + 1)) A v1 v2 0 3) A v1 v2 v3 (V_X8_figure_r44 Ln (zp I 44 11 ((I 44 11) + 1)) A v1 v2 0 3)  (M_X8_figure_r44 Ln (SI_X8_figure_r44 Ln (zp I 44 11 ((I 44 11) + 1)) A v1 v2 0 3) A v1 v2 1 9 g6_0) rfl ?_
    exact MJ_X8_readsShade_r44_98_s1 Ln (SI_X8_figure_r44 Ln (SI_X8_figure_r44 Ln (zp I 44 11 ((I 44 11) + 1)) A v1 v2 0 3) A v1 v2 1 9) A v1 v2 v3 (V_X8_figure_r44 Ln (zp I 44 11 ((I 44 11) + 1)) A v1 v2 0 3) (V_X8_figure_r44 Ln (SI_X8_figure_r44 Ln (zp I 44 11 ((I 44 11) + 1)) A v1 v2 0 3) A v1 v2 1 9) r7_
  · try simp only [if_neg q4]
    have h8 := r1_.2 q4
    refine B_X8_readsShade_r44_84 Ln (SI_X8_figure_r44 Ln (zp I 44 11 ((I 44 11) + 1)) A v1 v2 0 3) A v1 v2 v3 (V_X8_figure_r44 Ln (zp I 44 11 ((I 44 11) + 1)) A v1 v2 0 3)  ?_
    exact MJ_X8_readsShade_r44_98_s1 Ln (SI_X8_figure_r44 Ln (zp I 44 11 ((I 44 11) + 1)) A v1 v2 0 3) A v1 v2 v3 (V_X8_figure_r44 Ln (zp I 44 11 ((I 44 11) + 1)) A v1 v2 0 3) (-9) h8
def V_X8_readsShade_r44 (Ln : Nat) (I A : Nat → Nat → Int32) (v1 : Int32) (v2 : Int32) : Int32 := if (I 44 15) = 6 then (J_X8_readsShade_r44_20 Ln I A v1 v2) else (if (V_X8_codeAt_r44 Ln I A v1 v2) = 59 then (if (V_X8_codeAt_r44 Ln (zp I 44 11 ((I 44 11) + 1)) A v1 v2) = 115 then ((J_X8_readsShade_r44_59 Ln (zp I 44 11 ((I 44 11) + 1)) A v1 v2 (V_X8_codeAt_r44 Ln (zp I 44 11 ((I 44 11) + 1)) A v1 v2)).1) else (if (V_X8_codeAt_r44 Ln (zp I 44 11 ((I 44 11) + 1)) A v1 v2) = 100 then ((J_X8_readsShade_r44_59 Ln (zp I 44 11 ((I 44 11) + 1)) A v1 v2 (V_X8_codeAt_r44 Ln (zp I 44 11 ((I 44 11) + 1)) A v1 v2)).1) else (if (V_X8_codeAt_r44 Ln (zp I 44 11 ((I 44 11) + 1)) A v1 v2) = 108 then ((J_X8_readsShade_r44_59 Ln (zp I 44 11 ((I 44 11) + 1)) A v1 v2 (V_X8_codeAt_r44 Ln (zp I 44 11 ((I 44 11) + 1)) A v1 v2)).1) else 0))) else (J_X8_readsShade_r44_20 Ln I A v1 v2))
def SI_X8_readsShade_r44 (Ln : Nat) (I A : Nat → Nat → Int32) (v1 : Int32) (v2 : Int32) : Nat → Nat → Int32 := if (I 44 15) = 6 then I else (if (V_X8_codeAt_r44 Ln I A v1 v2) = 59 then (if (V_X8_codeAt_r44 Ln (zp I 44 11 ((I 44 11) + 1)) A v1 v2) = 115 then ((J_X8_readsShade_r44_59 Ln (zp I 44 11 ((I 44 11) + 1)) A v1 v2 (V_X8_codeAt_r44 Ln (zp I 44 11 ((I 44 11) + 1)) A v1 v2)).2.1) else (if (V_X8_codeAt_r44 Ln (zp I 44 11 ((I 44 11) + 1)) A v1 v2) = 100 then ((J_X8_readsShade_r44_59 Ln (zp I 44 11 ((I 44 11) + 1)) A v1 v2 (V_X8_codeAt_r44 Ln (zp I 44 11 ((I 44 11) + 1)) A v1 v2)).2.1) else (if (V_X8_codeAt_r44 Ln (zp I 44 11 ((I 44 11) + 1)) A v1 v2) = 108 then ((J_X8_readsShade_r44_59 Ln (zp I 44 11 ((I 44 11) + 1)) A v1 v2 (V_X8_codeAt_r44 Ln (zp I 44 11 ((I 44 11) + 1)) A v1 v2)).2.1) else (zp I 44 11 ((I 44 11) + 1))))) else I)
def SA_X8_readsShade_r44 (Ln : Nat) (I A : Nat → Nat → Int32) (v1 : Int32) (v2 : Int32) : Nat → Nat → Int32 := if (I 44 15) = 6 then A else (if (V_X8_codeAt_r44 Ln I A v1 v2) = 59 then (if (V_X8_codeAt_r44 Ln (zp I 44 11 ((I 44 11) + 1)) A v1 v2) = 115 then ((J_X8_readsShade_r44_59 Ln (zp I 44 11 ((I 44 11) + 1)) A v1 v2 (V_X8_codeAt_r44 Ln (zp I 44 11 ((I 44 11) + 1)) A v1 v2)).2.2) else (if (V_X8_codeAt_r44 Ln (zp I 44 11 ((I 44 11) + 1)) A v1 v2) = 100 then ((J_X8_readsShade_r44_59 Ln (zp I 44 11 ((I 44 11) + 1)) A v1 v2 (V_X8_codeAt_r44 Ln (zp I 44 11 ((I 44 11) + 1)) A v1 v2)).2.2) else (if (V_X8_codeAt_r44 Ln (zp I 44 11 ((I 44 11) + 1)) A v1 v2) = 108 then ((J_X8_readsShade_r44_59 Ln (zp I 44 11 ((I 44 11) + 1)) A v1 v2 (V_X8_codeAt_r44 Ln (zp I 44 11 ((I 44 11) + 1)) A v1 v2)).2.2) else A))) else A)
def P_X8_readsShade_r44 (Ln : Nat) (I A : Nat → Nat → Int32) (v1 : Int32) (v2 : Int32) : Prop := ((I 44 15) = 6 → True) ∧ (¬ ((I 44 15) = 6) → ((P_X8_codeAt_r44 Ln I A v1 v2) ∧ (((V_X8_codeAt_r44 Ln I A v1 v2) = 59 → ((P_X8_codeAt_r44 Ln (zp I 44 11 ((I 44 11) + 1)) A v1 v2) ∧ (((V_X8_codeAt_r44 Ln (zp I 44 11 ((I 44 11) + 1)) A v1 v2) = 115 → (PJ_X8_readsShade_r44_59 Ln (zp I 44 11 ((I 44 11) + 1)) A v1 v2 (V_X8_codeAt_r44 Ln (zp I 44 11 ((I 44 11) + 1)) A v1 v2))) ∧ (¬ ((V_X8_codeAt_r44 Ln (zp I 44 11 ((I 44 11) + 1)) A v1 v2) = 115) → (((V_X8_codeAt_r44 Ln (zp I 44 11 ((I 44 11) + 1)) A v1 v2) = 100 → (PJ_X8_readsShade_r44_59 Ln (zp I 44 11 ((I 44 11) + 1)) A v1 v2 (V_X8_codeAt_r44 Ln (zp I 44 11 ((I 44 11) + 1)) A v1 v2))) ∧ (¬ ((V_X8_codeAt_r44 Ln (zp I 44 11 ((I 44 11) + 1)) A v1 v2) = 100) → (((V_X8_codeAt_r44 Ln (zp I 44 11 ((I 44 11) + 1)) A v1 v2) = 108 → (PJ_X8_readsShade_r44_59 Ln (zp I 44 11 ((I 44 11) + 1)) A v1 v2 (V_X8_codeAt_r44 Ln (zp I 44 11 ((I 44 11) + 1)) A v1 v2))) ∧ (¬ ((V_X8_codeAt_r44 Ln (zp I 44 11 ((I 44 11) + 1)) A v1 v2) = 108) → True)))))))) ∧ (¬ ((V_X8_codeAt_r44 Ln I A v1 v2) = 59) → True))))
set_option maxRecDepth 100000 in
theorem M_X8_readsShade_r44 (Ln : Nat) (I A : Nat → Nat → Int32) (v1 : Int32) (v2 : Int32) (h : P_X8_readsShade_r44 Ln I A v1 v2) : zEv 106 0 0 0 [some (.ref 44), some (.int v1), some (.int v2), none, none, none, none, none] [] (zGs Ln I A) (some (.int (V_X8_readsShade_r44 Ln I A v1 v2)), zGs Ln (SI_X8_readsShade_r44 Ln I A v1 v2) (SA_X8_readsShade_r44 Ln I A v1 v2)) := by
  unfold P_X8_readsShade_r44 at h
  unfold V_X8_readsShade_r44 SI_X8_readsShade_r44 SA_X8_readsShade_r44
  refine B_X8_readsShade_r44_0 Ln I A v1 v2  (fun q2 => ?_) (fun q2 => ?_)
  · try simp only [if_pos q2]
    exact MJ_X8_readsShade_r44_20 Ln I A v1 v2 
  · try simp only [if_neg q2]
    have h3 := h.2 q2
    obtain ⟨g4_0, r5_⟩ := h3
    refine B_X8_readsShade_r44_9 Ln I A v1 v2  (M_X8_codeAt_r44 Ln I A v1 v2 g4_0) rfl ?_
    refine B_X8_readsShade_r44_15_s1 Ln I A v1 v2 (V_X8_codeAt_r44 Ln I A v1 v2)  (fun q8 => ?_) (fun q8 => ?_)
    · try simp only [if_pos q8]
      have h9 := r5_.1 q8
      obtain ⟨g10_0, r11_⟩ := h9
      refine B_X8_readsShade_r44_22 Ln I A v1 v2  (M_X8_codeAt_r44 Ln (zp I 44 11 ((I 44 11) + 1)) A v1 v2 g10_0) rfl ?_
      refine B_X8_readsShade_r44_38_s1 Ln (zp I 44 11 ((I 44 11) + 1)) A v1 v2 (V_X8_codeAt_r44 Ln (zp I 44 11 ((I 44 11) + 1)) A v1 v2)  (fun q14 => ?_) (fun q14 => ?_)
      · try simp only [if_pos q14]
        have h15 := r11_.1 q14
        exact MJ_X8_readsShade_r44_59 Ln (zp I 44 11 ((I 44 11) + 1)) A v1 v2 (V_X8_codeAt_r44 Ln (zp I 44 11 ((I 44 11) + 1)) A v1 v2) h15
      · try simp only [if_neg q14]
        have h16 := r11_.2 q14
        refine B_X8_readsShade_r44_45 Ln (zp I 44 11 ((I 44 11) + 1)) A v1 v2 (V_X8_codeAt_r44 Ln (zp I 44 11 ((I 44 11) + 1)) A v1 v2)  (fun q19 => ?_) (fun q19 => ?_)
        · try simp only [if_pos q19]
          have h20 := h16.1 q19
          exact MJ_X8_readsShade_r44_59 Ln (zp I 44 11 ((I 44 11) + 1)) A v1 v2 (V_X8_codeAt_r44 Ln (zp I 44 11 ((I 44 11) + 1)) A v1 v2) h20
        · try simp only [if_neg q19]
          have h21 := h16.2 q19
          refine B_X8_readsShade_r44_51 Ln (zp I 44 11 ((I 44 11) + 1)) A v1 v2 (V_X8_codeAt_r44 Ln (zp I 44 11 ((I 44 11) + 1)) A v1 v2)  (fun q24 => ?_) (fun q24 => ?_)
          · try simp only [if_pos q24]
            have h25 := h21.1 q24
            exact MJ_X8_readsShade_r44_59 Ln (zp I 44 11 ((I 44 11) + 1)) A v1 v2 (V_X8_codeAt_r44 Ln (zp I 44 11 ((I 44 11) + 1)) A v1 v2) h25
          · try simp only [if_neg q24]
            exact B_X8_readsShade_r44_57 Ln (zp I 44 11 ((I 44 11) + 1)) A v1 v2 (V_X8_codeAt_r44 Ln (zp I 44 11 ((I 44 11) + 1)) A v1 v2) 
    · try simp only [if_neg q8]
      exact MJ_X8_readsShade_r44_20 Ln I A v1 v2 
