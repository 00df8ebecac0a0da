/-! methods, by program (wip/whole/gen_fun.py, gen_loop.py) -/
def V_X7_back_r1 (Ln : Nat) (I A : Nat → Nat → Int32) (v1 : Int32) : Int32 := if v1 < 0 then (-2) else (if v1 ≤ (I 22 3) then ((I 22 3) - v1) else (-2))
def SI_X7_back_r1 (Ln : Nat) (I A : Nat → Nat → Int32) (v1 : Int32) : Nat → Nat → Int32 := if v1 < 0 then I else (if v1 ≤ (I 22 3) then (zp I 22 3 ((I 22 3) - v1)) else I)
set_option maxRecDepth 100000 in
theorem M_X7_back_r1 (Ln : Nat) (I A : Nat → Nat → Int32) (v1 : Int32) : zEv 63 0 0 0 [some (.ref 1), some (.int v1)] [] (zGs Ln I A) (some (.int (V_X7_back_r1 Ln I A v1)), zGs Ln (SI_X7_back_r1 Ln I A v1) (A)) := by
  unfold V_X7_back_r1 SI_X7_back_r1
  refine B_X7_back_r1_0 Ln I A v1  (fun q0 => ?_) (fun q0 => ?_)
  · try simp only [if_pos q0]
    exact B_X7_back_r1_15 Ln I A v1 
  · try simp only [if_neg q0]
    refine B_X7_back_r1_4 Ln I A v1  (fun q1 => ?_) (fun q1 => ?_)
    · try simp only [if_pos q1]
      exact B_X7_back_r1_18 Ln I A v1 
    · try simp only [if_neg q1]
      exact B_X7_back_r1_15 Ln I A v1 
def V_X7_trace_r1 (Ln : Nat) (I A : Nat → Nat → Int32) : Int32 := I 1 10
set_option maxRecDepth 100000 in
theorem M_X7_trace_r1 (Ln : Nat) (I A : Nat → Nat → Int32) : zEv 74 0 0 0 [some (.ref 1)] [] (zGs Ln I A) (some (.int (V_X7_trace_r1 Ln I A)), zGs Ln (I) (A)) := by
  unfold V_X7_trace_r1
  exact B_X7_trace_r1_0 Ln I A  
def V_X7_fault_r1 (Ln : Nat) (I A : Nat → Nat → Int32) : Int32 := I 1 11
set_option maxRecDepth 100000 in
theorem M_X7_fault_r1 (Ln : Nat) (I A : Nat → Nat → Int32) : zEv 75 0 0 0 [some (.ref 1)] [] (zGs Ln I A) (some (.int (V_X7_fault_r1 Ln I A)), zGs Ln (I) (A)) := by
  unfold V_X7_fault_r1
  exact B_X7_fault_r1_0 Ln I A  
def V_X7_many_r1 (Ln : Nat) (I A : Nat → Nat → Int32) (v1 : Int32) : Int32 := if (v1 : Int32).toInt = 0 then (I 11 0) else (if (v1 : Int32).toInt = 1 then (I 11 1) else (if (v1 : Int32).toInt = 2 then (I 11 2) else (if (v1 : Int32).toInt = 3 then (I 11 3) else (if (v1 : Int32).toInt = 4 then (I 18 3) else (if (v1 : Int32).toInt = 5 then (I 22 3) else (if (v1 : Int32).toInt = 6 then (I 1 9) else (-2)))))))
set_option maxRecDepth 100000 in
theorem M_X7_many_r1 (Ln : Nat) (I A : Nat → Nat → Int32) (v1 : Int32) : zEv 76 0 0 0 [some (.ref 1), some (.int v1)] [] (zGs Ln I A) (some (.int (V_X7_many_r1 Ln I A v1)), zGs Ln (I) (A)) := by
  unfold V_X7_many_r1
  refine B_X7_many_r1_0 Ln I A v1  (fun c0 => ?_) (fun c1 => ?_) (fun c2 => ?_) (fun c3 => ?_) (fun c4 => ?_) (fun c5 => ?_) (fun c6 => ?_) (fun c0 c1 c2 c3 c4 c5 c6 => ?_)
  ·  try simp only [if_pos c0]
    exact B_X7_many_r1_44 Ln I A v1 
  · have n0 : ¬ (v1 : Int32).toInt = 0 := (fun q => absurd (q.symm.trans c1) (by decide)); try simp only [if_neg n0, if_pos c1]
    exact B_X7_many_r1_52 Ln I A v1 
  · have n0 : ¬ (v1 : Int32).toInt = 0 := (fun q => absurd (q.symm.trans c2) (by decide)); have n1 : ¬ (v1 : Int32).toInt = 1 := (fun q => absurd (q.symm.trans c2) (by decide)); try simp only [if_neg n0, if_neg n1, if_pos c2]
    exact B_X7_many_r1_60 Ln I A v1 
  · have n0 : ¬ (v1 : Int32).toInt = 0 := (fun q => absurd (q.symm.trans c3) (by decide)); have n1 : ¬ (v1 : Int32).toInt = 1 := (fun q => absurd (q.symm.trans c3) (by decide)); have n2 : ¬ (v1 : Int32).toInt = 2 := (fun q => absurd (q.symm.trans c3) (by decide)); try simp only [if_neg n0, if_neg n1, if_neg n2, if_pos c3]
    exact B_X7_many_r1_68 Ln I A v1 
  · have n0 : ¬ (v1 : Int32).toInt = 0 := (fun q => absurd (q.symm.trans c4) (by decide)); have n1 : ¬ (v1 : Int32).toInt = 1 := (fun q => absurd (q.symm.trans c4) (by decide)); have n2 : ¬ (v1 : Int32).toInt = 2 := (fun q => absurd (q.symm.trans c4) (by decide)); have n3 : ¬ (v1 : Int32).toInt = 3 := (fun q => absurd (q.symm.trans c4) (by decide)); try simp only [if_neg n0, if_neg n1, if_neg n2, if_neg n3, if_pos c4]
    exact B_X7_many_r1_76 Ln I A v1 
  · have n0 : ¬ (v1 : Int32).toInt = 0 := (fun q => absurd (q.symm.trans c5) (by decide)); have n1 : ¬ (v1 : Int32).toInt = 1 := (fun q => absurd (q.symm.trans c5) (by decide)); have n2 : ¬ (v1 : Int32).toInt = 2 := (fun q => absurd (q.symm.trans c5) (by decide)); have n3 : ¬ (v1 : Int32).toInt = 3 := (fun q => absurd (q.symm.trans c5) (by decide)); have n4 : ¬ (v1 : Int32).toInt = 4 := (fun q => absurd (q.symm.trans c5) (by decide)); try simp only [if_neg n0, if_neg n1, if_neg n2, if_neg n3, if_neg n4, if_pos c5]
    exact B_X7_many_r1_84 Ln I A v1 
  · have n0 : ¬ (v1 : Int32).toInt = 0 := (fun q => absurd (q.symm.trans c6) (by decide)); have n1 : ¬ (v1 : Int32).toInt = 1 := (fun q => absurd (q.symm.trans c6) (by decide)); have n2 : ¬ (v1 : Int32).toInt = 2 := (fun q => absurd (q.symm.trans c6) (by decide)); have n3 : ¬ (v1 : Int32).toInt = 3 := (fun q => absurd (q.symm.trans c6) (by decide)); have n4 : ¬ (v1 : Int32).toInt = 4 := (fun q => absurd (q.symm.trans c6) (by decide)); have n5 : ¬ (v1 : Int32).toInt = 5 := (fun q => absurd (q.symm.trans c6) (by decide)); try simp only [if_neg n0, if_neg n1, if_neg n2, if_neg n3, if_neg n4, if_neg n5, if_pos c6]
    exact B_X7_many_r1_92 Ln I A v1 
  · try simp only [if_neg c0, if_neg c1, if_neg c2, if_neg c3, if_neg c4, if_neg c5, if_neg c6]
    exact B_X7_many_r1_97 Ln I A v1 
def V_X7_noBank_r1 (Ln : Nat) (I A : Nat → Nat → Int32) : Int32 := if (I 11 0) ≠ 0 then 0 else 1
set_option maxRecDepth 100000 in
theorem M_X7_noBank_r1 (Ln : Nat) (I A : Nat → Nat → Int32) : zEv 77 0 0 0 [some (.ref 1)] [] (zGs Ln I A) (some (.int (V_X7_noBank_r1 Ln I A)), zGs Ln (I) (A)) := by
  unfold V_X7_noBank_r1
  refine B_X7_noBank_r1_0 Ln I A   (fun q0 => ?_) (fun q0 => ?_)
  · try simp only [if_pos q0]
    refine B_X7_noBank_r1_14 Ln I A   ?_
    exact B_X7_noBank_r1_15_s1 Ln I A 0 
  · try simp only [if_neg q0]
    refine B_X7_noBank_r1_10 Ln I A   ?_
    exact B_X7_noBank_r1_15_s1 Ln I A 1 
def V_X7_isShade_r1 (Ln : Nat) (I A : Nat → Nat → Int32) (v1 : Int32) : Int32 := if v1 < 0 then 0 else (if (I 11 0) ≤ v1 then 0 else 1)
set_option maxRecDepth 100000 in
theorem M_X7_isShade_r1 (Ln : Nat) (I A : Nat → Nat → Int32) (v1 : Int32) : zEv 78 0 0 0 [some (.ref 1), some (.int v1)] [] (zGs Ln I A) (some (.int (V_X7_isShade_r1 Ln I A v1)), zGs Ln (I) (A)) := by
  unfold V_X7_isShade_r1
  refine B_X7_isShade_r1_0 Ln I A v1  (fun q0 => ?_) (fun q0 => ?_)
  · try simp only [if_pos q0]
    refine B_X7_isShade_r1_19 Ln I A v1  ?_
    exact B_X7_isShade_r1_20_s1 Ln I A v1 0 
  · try simp only [if_neg q0]
    refine B_X7_isShade_r1_4 Ln I A v1  (fun q1 => ?_) (fun q1 => ?_)
    · try simp only [if_pos q1]
      refine B_X7_isShade_r1_19 Ln I A v1  ?_
      exact B_X7_isShade_r1_20_s1 Ln I A v1 0 
    · try simp only [if_neg q1]
      refine B_X7_isShade_r1_15 Ln I A v1  ?_
      exact B_X7_isShade_r1_20_s1 Ln I A v1 1 
def V_X7_faultless_r1 (Ln : Nat) (I A : Nat → Nat → Int32) (v1 : Int32) : Int32 := v1
def SI_X7_faultless_r1 (Ln : Nat) (I A : Nat → Nat → Int32) (v1 : Int32) : Nat → Nat → Int32 := zp I 1 11 0
set_option maxRecDepth 100000 in
theorem M_X7_faultless_r1 (Ln : Nat) (I A : Nat → Nat → Int32) (v1 : Int32) : zEv 82 0 0 0 [some (.ref 1), some (.int v1)] [] (zGs Ln I A) (some (.int (V_X7_faultless_r1 Ln I A v1)), zGs Ln (SI_X7_faultless_r1 Ln I A v1) (A)) := by
  unfold V_X7_faultless_r1 SI_X7_faultless_r1
  exact B_X7_faultless_r1_0 Ln I A v1 
def V_X7_faulted_r1 (Ln : Nat) (I A : Nat → Nat → Int32) (v1 : Int32) : Int32 := ((-10)) - v1
def SI_X7_faulted_r1 (Ln : Nat) (I A : Nat → Nat → Int32) (v1 : Int32) : Nat → Nat → Int32 := zp I 1 11 v1
set_option maxRecDepth 100000 in
theorem M_X7_faulted_r1 (Ln : Nat) (I A : Nat → Nat → Int32) (v1 : Int32) : zEv 83 0 0 0 [some (.ref 1), some (.int v1)] [] (zGs Ln I A) (some (.int (V_X7_faulted_r1 Ln I A v1)), zGs Ln (SI_X7_faulted_r1 Ln I A v1) (A)) := by
  unfold V_X7_faulted_r1 SI_X7_faulted_r1
  exact B_X7_faulted_r1_0 Ln I A v1 
def SI_X7_leave_r1 (Ln : Nat) (I A : Nat → Nat → Int32) (v1 : Int32) : Nat → Nat → Int32 := zp I 1 10 ((31 * (I 1 10)) + v1)
set_option maxRecDepth 100000 in
theorem M_X7_leave_r1 (Ln : Nat) (I A : Nat → Nat → Int32) (v1 : Int32) : zEv 87 0 0 0 [some (.ref 1), some (.int v1)] [] (zGs Ln I A) (none, zGs Ln (SI_X7_leave_r1 Ln I A v1) (A)) := by
  unfold SI_X7_leave_r1
  exact B_X7_leave_r1_0 Ln I A v1 
def V_X7_shadeTells_r1 (Ln : Nat) (I A : Nat → Nat → Int32) (v1 : Int32) : Int32 := A 14 (v1).toNatClampNeg
def SI_X7_shadeTells_r1 (Ln : Nat) (I A : Nat → Nat → Int32) (v1 : Int32) : Nat → Nat → Int32 := (SI_X7_leave_r1 Ln I A 1)
def P_X7_shadeTells_r1 (Ln : Nat) (I A : Nat → Nat → Int32) (v1 : Int32) : Prop := (zin v1 6 = true)
set_option maxRecDepth 100000 in
theorem M_X7_shadeTells_r1 (Ln : Nat) (I A : Nat → Nat → Int32) (v1 : Int32) (h : P_X7_shadeTells_r1 Ln I A v1) : zEv 88 0 0 0 [some (.ref 1), some (.int v1)] [] (zGs Ln I A) (some (.int (V_X7_shadeTells_r1 Ln I A v1)), zGs Ln (SI_X7_shadeTells_r1 Ln I A v1) (A)) := by
  unfold P_X7_shadeTells_r1 at h
  unfold V_X7_shadeTells_r1 SI_X7_shadeTells_r1
  refine B_X7_shadeTells_r1_0 Ln I A v1  (M_X7_leave_r1 Ln I A 1 ) rfl ?_
  exact B_X7_shadeTells_r1_5 Ln (SI_X7_leave_r1 Ln I A 1) A v1 h
def V_X7_drownedTells_r1 (Ln : Nat) (I A : Nat → Nat → Int32) (v1 : Int32) : Int32 := (V_X7_shadeTells_r1 Ln (SI_X7_leave_r1 Ln I A 2) A v1) + 100
def SI_X7_drownedTells_r1 (Ln : Nat) (I A : Nat → Nat → Int32) (v1 : Int32) : Nat → Nat → Int32 := (SI_X7_shadeTells_r1 Ln (SI_X7_leave_r1 Ln I A 2) A v1)
def P_X7_drownedTells_r1 (Ln : Nat) (I A : Nat → Nat → Int32) (v1 : Int32) : Prop := (P_X7_shadeTells_r1 Ln (SI_X7_leave_r1 Ln I A 2) A v1)
set_option maxRecDepth 100000 in
theorem M_X7_drownedTells_r1 (Ln : Nat) (I A : Nat → Nat → Int32) (v1 : Int32) (h : P_X7_drownedTells_r1 Ln I A v1) : zEv 89 0 0 0 [some (.ref 1), some (.int v1)] [] (zGs Ln I A) (some (.int (V_X7_drownedTells_r1 Ln I A v1)), zGs Ln (SI_X7_drownedTells_r1 Ln I A v1) (A)) := by
  unfold P_X7_drownedTells_r1 at h
  unfold V_X7_drownedTells_r1 SI_X7_drownedTells_r1
  refine B_X7_drownedTells_r1_0 Ln I A v1  (M_X7_leave_r1 Ln I A 2 ) rfl ?_
  refine B_X7_drownedTells_r1_5 Ln (SI_X7_leave_r1 Ln I A 2) A v1  (M_X7_shadeTells_r1 Ln (SI_X7_leave_r1 Ln I A 2) A v1 h) rfl ?_
  exact B_X7_drownedTells_r1_10_s1 Ln (SI_X7_shadeTells_r1 Ln (SI_X7_leave_r1 Ln I A 2) A v1) A v1 (V_X7_shadeTells_r1 Ln (SI_X7_leave_r1 Ln I A 2) A v1) 
def V_X7_livingTells_r1 (Ln : Nat) (I A : Nat → Nat → Int32) (v1 : Int32) : Int32 := (V_X7_drownedTells_r1 Ln (SI_X7_leave_r1 Ln I A 3) A v1) + (V_X7_shadeTells_r1 Ln (SI_X7_drownedTells_r1 Ln (SI_X7_leave_r1 Ln I A 3) A v1) A v1)
def SI_X7_livingTells_r1 (Ln : Nat) (I A : Nat → Nat → Int32) (v1 : Int32) : Nat → Nat → Int32 := (SI_X7_shadeTells_r1 Ln (SI_X7_drownedTells_r1 Ln (SI_X7_leave_r1 Ln I A 3) A v1) A v1)
def P_X7_livingTells_r1 (Ln : Nat) (I A : Nat → Nat → Int32) (v1 : Int32) : Prop := (P_X7_drownedTells_r1 Ln (SI_X7_leave_r1 Ln I A 3) A v1) ∧ (P_X7_shadeTells_r1 Ln (SI_X7_drownedTells_r1 Ln (SI_X7_leave_r1 Ln I A 3) A v1) A v1)
set_option maxRecDepth 100000 in
theorem M_X7_livingTells_r1 (Ln : Nat) (I A : Nat → Nat → Int32) (v1 : Int32) (h : P_X7_livingTells_r1 Ln I A v1) : zEv 90 0 0 0 [some (.ref 1), some (.int v1), none] [] (zGs Ln I A) (some (.int (V_X7_livingTells_r1 Ln I A v1)), zGs Ln (SI_X7_livingTells_r1 Ln I A v1) (A)) := by
  unfold P_X7_livingTells_r1 at h
  unfold V_X7_livingTells_r1 SI_X7_livingTells_r1
  refine B_X7_livingTells_r1_0 Ln I A v1  (M_X7_leave_r1 Ln I A 3 ) rfl ?_
  obtain ⟨g2_0, r3_⟩ := h
  refine B_X7_livingTells_r1_5 Ln (SI_X7_leave_r1 Ln I A 3) A v1  (M_X7_drownedTells_r1 Ln (SI_X7_leave_r1 Ln I A 3) A v1 g2_0) rfl ?_
  refine B_X7_livingTells_r1_10_s1 Ln (SI_X7_drownedTells_r1 Ln (SI_X7_leave_r1 Ln I A 3) A v1) A v1 (V_X7_drownedTells_r1 Ln (SI_X7_leave_r1 Ln I A 3) A v1)  (M_X7_shadeTells_r1 Ln (SI_X7_drownedTells_r1 Ln (SI_X7_leave_r1 Ln I A 3) A v1) A v1 r3_) rfl ?_
  exact B_X7_livingTells_r1_17_s2 Ln (SI_X7_shadeTells_r1 Ln (SI_X7_drownedTells_r1 Ln (SI_X7_leave_r1 Ln I A 3) A v1) A v1) A v1 (V_X7_drownedTells_r1 Ln (SI_X7_leave_r1 Ln I A 3) A v1) (V_X7_drownedTells_r1 Ln (SI_X7_leave_r1 Ln I A 3) A v1) (V_X7_shadeTells_r1 Ln (SI_X7_drownedTells_r1 Ln (SI_X7_leave_r1 Ln I A 3) A v1) A v1) 
def V_X7_hailByNumber_r1 (Ln : Nat) (I A : Nat → Nat → Int32) (v1 : Int32) : Int32 := v1
def SI_X7_hailByNumber_r1 (Ln : Nat) (I A : Nat → Nat → Int32) (v1 : Int32) : Nat → Nat → Int32 := (SI_X7_leave_r1 Ln I A 4)
set_option maxRecDepth 100000 in
theorem M_X7_hailByNumber_r1 (Ln : Nat) (I A : Nat → Nat → Int32) (v1 : Int32) : zEv 91 0 0 0 [some (.ref 1), some (.int v1)] [] (zGs Ln I A) (some (.int (V_X7_hailByNumber_r1 Ln I A v1)), zGs Ln (SI_X7_hailByNumber_r1 Ln I A v1) (A)) := by
  unfold V_X7_hailByNumber_r1 SI_X7_hailByNumber_r1
  refine B_X7_hailByNumber_r1_0 Ln I A v1  (M_X7_leave_r1 Ln I A 4 ) rfl ?_
  exact B_X7_hailByNumber_r1_5 Ln (SI_X7_leave_r1 Ln I A 4) A v1 
def V_X7_hailLiving_r1 (Ln : Nat) (I A : Nat → Nat → Int32) : Int32 := 60
def SI_X7_hailLiving_r1 (Ln : Nat) (I A : Nat → Nat → Int32) : Nat → Nat → Int32 := (SI_X7_leave_r1 Ln I A 5)
set_option maxRecDepth 100000 in
theorem M_X7_hailLiving_r1 (Ln : Nat) (I A : Nat → Nat → Int32) : zEv 92 0 0 0 [some (.ref 1)] [] (zGs Ln I A) (some (.int (V_X7_hailLiving_r1 Ln I A)), zGs Ln (SI_X7_hailLiving_r1 Ln I A) (A)) := by
  unfold V_X7_hailLiving_r1 SI_X7_hailLiving_r1
  refine B_X7_hailLiving_r1_0 Ln I A   (M_X7_leave_r1 Ln I A 5 ) rfl ?_
  exact B_X7_hailLiving_r1_5 Ln (SI_X7_leave_r1 Ln I A 5) A  
def V_X8_refused_r44 (Ln : Nat) (I A : Nat → Nat → Int32) (v1 : Int32) : Int32 := v1
def SI_X8_refused_r44 (Ln : Nat) (I A : Nat → Nat → Int32) (v1 : Int32) : Nat → Nat → Int32 := zp I 44 0 0
set_option maxRecDepth 100000 in
theorem M_X8_refused_r44 (Ln : Nat) (I A : Nat → Nat → Int32) (v1 : Int32) : zEv 98 0 0 0 [some (.ref 44), some (.int v1)] [] (zGs Ln I A) (some (.int (V_X8_refused_r44 Ln I A v1)), zGs Ln (SI_X8_refused_r44 Ln I A v1) (A)) := by
  unfold V_X8_refused_r44 SI_X8_refused_r44
  exact B_X8_refused_r44_0 Ln I A v1 
def V_X8_failed_r44 (Ln : Nat) (I A : Nat → Nat → Int32) (v1 : Int32) : Int32 := ((-10)) - v1
def SI_X8_failed_r44 (Ln : Nat) (I A : Nat → Nat → Int32) (v1 : Int32) : Nat → Nat → Int32 := zp I 44 0 v1
set_option maxRecDepth 100000 in
theorem M_X8_failed_r44 (Ln : Nat) (I A : Nat → Nat → Int32) (v1 : Int32) : zEv 99 0 0 0 [some (.ref 44), some (.int v1)] [] (zGs Ln I A) (some (.int (V_X8_failed_r44 Ln I A v1)), zGs Ln (SI_X8_failed_r44 Ln I A v1) (A)) := by
  unfold V_X8_failed_r44 SI_X8_failed_r44
  exact B_X8_failed_r44_0 Ln I A v1 
def V_X8_all_r44 (Ln : Nat) (I A : Nat → Nat → Int32) : Int32 := (1 <<< ((I 44 4) &&& 31)) - 1
set_option maxRecDepth 100000 in
theorem M_X8_all_r44 (Ln : Nat) (I A : Nat → Nat → Int32) : zEv 103 0 0 0 [some (.ref 44)] [] (zGs Ln I A) (some (.int (V_X8_all_r44 Ln I A)), zGs Ln (I) (A)) := by
  unfold V_X8_all_r44
  exact B_X8_all_r44_0 Ln I A  
def V_X8_codeAt_r44 (Ln : Nat) (I A : Nat → Nat → Int32) (v1 : Int32) (v2 : Int32) : Int32 := if v2 ≤ (I 44 11) then (-9) else (A 67 (v1 + (I 44 11)).toNatClampNeg)
def P_X8_codeAt_r44 (Ln : Nat) (I A : Nat → Nat → Int32) (v1 : Int32) (v2 : Int32) : Prop := (v2 ≤ (I 44 11) → True) ∧ (¬ (v2 ≤ (I 44 11)) → (zin (v1 + (I 44 11)) 240 = true))
set_option maxRecDepth 100000 in
theorem M_X8_codeAt_r44 (Ln : Nat) (I A : Nat → Nat → Int32) (v1 : Int32) (v2 : Int32) (h : P_X8_codeAt_r44 Ln I A v1 v2) : zEv 104 0 0 0 [some (.ref 44), some (.int v1), some (.int v2)] [] (zGs Ln I A) (some (.int (V_X8_codeAt_r44 Ln I A v1 v2)), zGs Ln (I) (A)) := by
  unfold P_X8_codeAt_r44 at h
  unfold V_X8_codeAt_r44
  refine B_X8_codeAt_r44_0 Ln I A v1 v2  (fun q2 => ?_) (fun q2 => ?_)
  · try simp only [if_pos q2]
    refine B_X8_codeAt_r44_22 Ln I A v1 v2  ?_
    exact B_X8_codeAt_r44_24_s1 Ln I A v1 v2 (-9) 
  · try simp only [if_neg q2]
    have h3 := h.2 q2
    refine B_X8_codeAt_r44_8 Ln I A v1 v2 h3 ?_
    exact B_X8_codeAt_r44_24_s1 Ln I A v1 v2 (A 67 (v1 + (I 44 11)).toNatClampNeg) 
def V_X8_paysOf_r44 (Ln : Nat) (I A : Nat → Nat → Int32) (v1 : Int32) : Int32 := (A 45 (v1).toNatClampNeg) + 1
def P_X8_paysOf_r44 (Ln : Nat) (I A : Nat → Nat → Int32) (v1 : Int32) : Prop := (zin v1 6 = true)
set_option maxRecDepth 100000 in
theorem M_X8_paysOf_r44 (Ln : Nat) (I A : Nat → Nat → Int32) (v1 : Int32) (h : P_X8_paysOf_r44 Ln I A v1) : zEv 110 0 0 0 [some (.ref 44), some (.int v1)] [] (zGs Ln I A) (some (.int (V_X8_paysOf_r44 Ln I A v1)), zGs Ln (I) (A)) := by
  unfold P_X8_paysOf_r44 at h
  unfold V_X8_paysOf_r44
  exact B_X8_paysOf_r44_0 Ln I A v1 h
def V_X8_heavyOf_r44 (Ln : Nat) (I A : Nat → Nat → Int32) (v1 : Int32) : Int32 := if (A 45 (v1).toNatClampNeg) ≤ 0 then (if (A 45 (v1).toNatClampNeg) ≠ 2 then ((A 47 (v1).toNatClampNeg) + 0) else (2 * ((A 47 (v1).toNatClampNeg) + 0))) else (if (A 45 (v1).toNatClampNeg) ≠ 2 then ((A 47 (v1).toNatClampNeg) + 2) else (2 * ((A 47 (v1).toNatClampNeg) + 2)))
def P_X8_heavyOf_r44 (Ln : Nat) (I A : Nat → Nat → Int32) (v1 : Int32) : Prop := (zin v1 6 = true) ∧ (zin v1 6 = true) ∧ (((A 45 (v1).toNatClampNeg) ≤ 0 → (zin v1 6 = true)) ∧ (¬ ((A 45 (v1).toNatClampNeg) ≤ 0) → (zin v1 6 = true)))
set_option maxRecDepth 100000 in
theorem M_X8_heavyOf_r44 (Ln : Nat) (I A : Nat → Nat → Int32) (v1 : Int32) (h : P_X8_heavyOf_r44 Ln I A v1) : zEv 111 0 0 0 [some (.ref 44), some (.int v1), none] [] (zGs Ln I A) (some (.int (V_X8_heavyOf_r44 Ln I A v1)), zGs Ln (I) (A)) := by
  unfold P_X8_heavyOf_r44 at h
  unfold V_X8_heavyOf_r44
  obtain ⟨g0_0, g0_1, r1_⟩ := h
  refine B_X8_heavyOf_r44_0 Ln I A v1 g0_0 g0_1 (fun q2 => ?_) (fun q2 => ?_)
  · try simp only [if_pos q2]
    have h3 := r1_.1 q2
    refine B_X8_heavyOf_r44_19_s1 Ln I A v1 (A 47 (v1).toNatClampNeg)  ?_
    refine B_X8_heavyOf_r44_20_s2 Ln I A v1 (A 47 (v1).toNatClampNeg) 0 h3 (fun q7 => ?_) (fun q7 => ?_)
    · try simp only [if_pos q7]
      refine B_X8_heavyOf_r44_38 Ln I A v1 ((A 47 (v1).toNatClampNeg) + 0)  ?_
      exact B_X8_heavyOf_r44_39_s1 Ln I A v1 ((A 47 (v1).toNatClampNeg) + 0) ((A 47 (v1).toNatClampNeg) + 0) 
    · try simp only [if_neg q7]
      refine B_X8_heavyOf_r44_32 Ln I A v1 ((A 47 (v1).toNatClampNeg) + 0)  ?_
      exact B_X8_heavyOf_r44_39_s1 Ln I A v1 ((A 47 (v1).toNatClampNeg) + 0) (2 * ((A 47 (v1).toNatClampNeg) + 0)) 
  · try simp only [if_neg q2]
    have h8 := r1_.2 q2
    refine B_X8_heavyOf_r44_15_s1 Ln I A v1 (A 47 (v1).toNatClampNeg)  ?_
    refine B_X8_heavyOf_r44_20_s2 Ln I A v1 (A 47 (v1).toNatClampNeg) 2 h8 (fun q12 => ?_) (fun q12 => ?_)
    · try simp only [if_pos q12]
      refine B_X8_heavyOf_r44_38 Ln I A v1 ((A 47 (v1).toNatClampNeg) + 2)  ?_
      exact B_X8_heavyOf_r44_39_s1 Ln I A v1 ((A 47 (v1).toNatClampNeg) + 2) ((A 47 (v1).toNatClampNeg) + 2) 
    · try simp only [if_neg q12]
      refine B_X8_heavyOf_r44_32 Ln I A v1 ((A 47 (v1).toNatClampNeg) + 2)  ?_
      exact B_X8_heavyOf_r44_39_s1 Ln I A v1 ((A 47 (v1).toNatClampNeg) + 2) (2 * ((A 47 (v1).toNatClampNeg) + 2)) 
def SA_X8_lend_r44 (Ln : Nat) (I A : Nat → Nat → Int32) (v1 : Int32) (v2 : Int32) (v3 : Int32) : Nat → Nat → Int32 := zw (zw A 49 ((v1).toNatClampNeg) ((A 49 (v1).toNatClampNeg) - v3)) 49 ((v2).toNatClampNeg) ((((zw A 49 ((v1).toNatClampNeg) ((A 49 (v1).toNatClampNeg) - v3)) 49) (v2).toNatClampNeg) + v3)
def P_X8_lend_r44 (Ln : Nat) (I A : Nat → Nat → Int32) (v1 : Int32) (v2 : Int32) (v3 : Int32) : Prop := (zin v1 6 = true) ∧ (zin v1 6 = true) ∧ (zin v2 6 = true) ∧ (zin v2 6 = true)
set_option maxRecDepth 100000 in
theorem M_X8_lend_r44 (Ln : Nat) (I A : Nat → Nat → Int32) (v1 : Int32) (v2 : Int32) (v3 : Int32) (h : P_X8_lend_r44 Ln I A v1 v2 v3) : zEv 114 0 0 0 [some (.ref 44), some (.int v1), some (.int v2), some (.int v3)] [] (zGs Ln I A) (none, zGs Ln (I) (SA_X8_lend_r44 Ln I A v1 v2 v3)) := by
  unfold P_X8_lend_r44 at h
  unfold SA_X8_lend_r44
  obtain ⟨g0_0, g0_1, g0_2, g0_3⟩ := h
  exact B_X8_lend_r44_0 Ln I A v1 v2 v3 g0_0 g0_1 g0_2 g0_3
def LA_X8_begin_r44_2 : Nat → (Ln : Nat) → (I A : Nat → Nat → Int32) → Int32 → (Nat → Nat → Int32)
  | 0, Ln, I, A, v1 => A
  | m + 1, Ln, I, A, v1 => if 6 ≤ v1 then A else (LA_X8_begin_r44_2 m Ln I (zw (zw A 57 ((v1).toNatClampNeg) 99) 58 ((v1).toNatClampNeg) 0) (v1 + 1))
def PLA_X8_begin_r44_2 : Nat → (Ln : Nat) → (I A : Nat → Nat → Int32) → Int32 → Prop
  | 0, Ln, I, A, v1 => False
  | m + 1, Ln, I, A, v1 => (6 ≤ v1 → True) ∧ (¬ (6 ≤ v1) → ((zin v1 6 = true) ∧ (zin v1 6 = true) ∧ (PLA_X8_begin_r44_2 m Ln I (zw (zw A 57 ((v1).toNatClampNeg) 99) 58 ((v1).toNatClampNeg) 0) (v1 + 1))))
set_option maxRecDepth 100000 in
theorem MLA_X8_begin_r44_2 (m Ln : Nat) : ∀ (I A : Nat → Nat → Int32) (v1 : Int32), PLA_X8_begin_r44_2 m Ln I A v1 → zEv 117 2 0 0 [some (.ref 44), some (.int v1)] [] (zGs Ln I A) (none, zGs Ln I (LA_X8_begin_r44_2 m Ln I A v1)) := by
  induction m with
  | zero => intro I A v1 h; exact h.elim
  | succ m ih =>
    intro I A v1 h
    simp only [PLA_X8_begin_r44_2] at h
    simp only [LA_X8_begin_r44_2]
    refine B_X8_begin_r44_2 Ln I A v1  (fun q2 => ?_) (fun q2 => ?_)
    · try simp only [if_pos q2]
      exact B_X8_begin_r44_29 Ln I A v1 
    · try simp only [if_neg q2]
      have h3 := h.2 q2
      obtain ⟨g4_0, g4_1, r5_⟩ := h3
      refine B_X8_begin_r44_8 Ln I A v1 g4_0 g4_1 ?_
      exact ih I (zw (zw A 57 ((v1).toNatClampNeg) 99) 58 ((v1).toNatClampNeg) 0) (v1 + 1) r5_
def SA_X8_begin_r44 (Ln : Nat) (I A : Nat → Nat → Int32) : Nat → Nat → Int32 := LA_X8_begin_r44_2 1000 Ln I A 0
def P_X8_begin_r44 (Ln : Nat) (I A : Nat → Nat → Int32) : Prop := PLA_X8_begin_r44_2 1000 Ln I A 0
set_option maxRecDepth 100000 in
theorem M_X8_begin_r44 (Ln : Nat) (I A : Nat → Nat → Int32) (h : P_X8_begin_r44 Ln I A) : zEv 117 0 0 0 [some (.ref 44), none] [] (zGs Ln I A) (none, zGs Ln (I) (SA_X8_begin_r44 Ln I A)) := by
  unfold P_X8_begin_r44 at h
  unfold SA_X8_begin_r44
  refine B_X8_begin_r44_0 Ln I A   ?_
  exact MLA_X8_begin_r44_2 1000 Ln I A 0 h
def J_X8_isAhead_r44_77_s1 (Ln : Nat) (I A : Nat → Nat → Int32) (v1 : Int32) (v2 : Int32) (v3 : Int32) (s0 : Int32) : Int32 := s0
set_option maxRecDepth 100000 in
theorem MJ_X8_isAhead_r44_77_s1 (Ln : Nat) (I A : Nat → Nat → Int32) (v1 : Int32) (v2 : Int32) (v3 : Int32) (s0 : Int32) : zEv 118 77 0 0 [some (.ref 44), some (.int v1), some (.int v2), some (.int v3)] [.int s0] (zGs Ln I A) (some (.int (J_X8_isAhead_r44_77_s1 Ln I A v1 v2 v3 s0)), zGs Ln I A) := by
  unfold J_X8_isAhead_r44_77_s1
  exact B_X8_isAhead_r44_77_s1 Ln I A v1 v2 v3 s0 
def J_X8_isAhead_r44_72 (Ln : Nat) (I A : Nat → Nat → Int32) (v1 : Int32) (v2 : Int32) (v3 : Int32) : Int32 := J_X8_isAhead_r44_77_s1 Ln I A v1 v2 v3 1
set_option maxRecDepth 100000 in
theorem MJ_X8_isAhead_r44_72 (Ln : Nat) (I A : Nat → Nat → Int32) (v1 : Int32) (v2 : Int32) (v3 : Int32) : zEv 118 72 0 0 [some (.ref 44), some (.int v1), some (.int v2), some (.int v3)] [] (zGs Ln I A) (some (.int (J_X8_isAhead_r44_72 Ln I A v1 v2 v3)), zGs Ln I A) := by
  unfold J_X8_isAhead_r44_72
  refine B_X8_isAhead_r44_72 Ln I A v1 v2 v3  ?_
  exact MJ_X8_isAhead_r44_77_s1 Ln I A v1 v2 v3 1 
def J_X8_isAhead_r44_76 (Ln : Nat) (I A : Nat → Nat → Int32) (v1 : Int32) (v2 : Int32) (v3 : Int32) : Int32 := J_X8_isAhead_r44_77_s1 Ln I A v1 v2 v3 0
set_option maxRecDepth 100000 in
theorem MJ_X8_isAhead_r44_76 (Ln : Nat) (I A : Nat → Nat → Int32) (v1 : Int32) (v2 : Int32) (v3 : Int32) : zEv 118 76 0 0 [some (.ref 44), some (.int v1), some (.int v2), some (.int v3)] [] (zGs Ln I A) (some (.int (J_X8_isAhead_r44_76 Ln I A v1 v2 v3)), zGs Ln I A) := by
  unfold J_X8_isAhead_r44_76
  refine B_X8_isAhead_r44_76 Ln I A v1 v2 v3  ?_
  exact MJ_X8_isAhead_r44_77_s1 Ln I A v1 v2 v3 0 
def J_X8_isAhead_r44_58_s1 (Ln : Nat) (I A : Nat → Nat → Int32) (v1 : Int32) (v2 : Int32) (s0 : Int32) : Int32 := if 0 < s0 then (J_X8_isAhead_r44_72 Ln I A v1 v2 s0) else (if s0 ≠ 0 then (J_X8_isAhead_r44_76 Ln I A v1 v2 s0) else (if v2 ≤ v1 then (J_X8_isAhead_r44_76 Ln I A v1 v2 s0) else (J_X8_isAhead_r44_72 Ln I A v1 v2 s0)))
set_option maxRecDepth 100000 in
theorem MJ_X8_isAhead_r44_58_s1 (Ln : Nat) (I A : Nat → Nat → Int32) (v1 : Int32) (v2 : Int32) (s0 : Int32) : zEv 118 58 0 0 [some (.ref 44), some (.int v1), some (.int v2), none] [.int s0] (zGs Ln I A) (some (.int (J_X8_isAhead_r44_58_s1 Ln I A v1 v2 s0)), zGs Ln I A) := by
  unfold J_X8_isAhead_r44_58_s1
  refine B_X8_isAhead_r44_58_s1 Ln I A v1 v2 s0  (fun q0 => ?_) (fun q0 => ?_)
  · try simp only [if_pos q0]
    exact MJ_X8_isAhead_r44_72 Ln I A v1 v2 s0 
  · try simp only [if_neg q0]
    refine B_X8_isAhead_r44_63 Ln I A v1 v2 s0  (fun q1 => ?_) (fun q1 => ?_)
    · try simp only [if_pos q1]
      exact MJ_X8_isAhead_r44_76 Ln I A v1 v2 s0 
    · try simp only [if_neg q1]
      refine B_X8_isAhead_r44_67 Ln I A v1 v2 s0  (fun q2 => ?_) (fun q2 => ?_)
      · try simp only [if_pos q2]
        exact MJ_X8_isAhead_r44_76 Ln I A v1 v2 s0 
      · try simp only [if_neg q2]
        exact MJ_X8_isAhead_r44_72 Ln I A v1 v2 s0 
def V_X8_isAhead_r44 (Ln : Nat) (I A : Nat → Nat → Int32) (v1 : Int32) (v2 : Int32) : Int32 := if (I 44 10) ≠ 0 then (if (I 44 10) ≠ 1 then (J_X8_isAhead_r44_58_s1 Ln I A v1 v2 ((A 49 (v1).toNatClampNeg) - (A 49 (v2).toNatClampNeg))) else (J_X8_isAhead_r44_58_s1 Ln I A v1 v2 ((V_X8_heavyOf_r44 Ln I A v2) - (V_X8_heavyOf_r44 Ln I A v1)))) else (J_X8_isAhead_r44_58_s1 Ln I A v1 v2 ((A 48 (v2).toNatClampNeg) - (A 48 (v1).toNatClampNeg)))
def P_X8_isAhead_r44 (Ln : Nat) (I A : Nat → Nat → Int32) (v1 : Int32) (v2 : Int32) : Prop := ((I 44 10) ≠ 0 → (((I 44 10) ≠ 1 → ((zin v1 6 = true) ∧ (zin v2 6 = true))) ∧ (¬ ((I 44 10) ≠ 1) → ((P_X8_heavyOf_r44 Ln I A v2) ∧ (P_X8_heavyOf_r44 Ln I A v1))))) ∧ (¬ ((I 44 10) ≠ 0) → ((zin v2 6 = true) ∧ (zin v1 6 = true)))
set_option maxRecDepth 100000 in
theorem M_X8_isAhead_r44 (Ln : Nat) (I A : Nat → Nat → Int32) (v1 : Int32) (v2 : Int32) (h : P_X8_isAhead_r44 Ln I A v1 v2) : zEv 118 0 0 0 [some (.ref 44), some (.int v1), some (.int v2), none] [] (zGs Ln I A) (some (.int (V_X8_isAhead_r44 Ln I A v1 v2)), zGs Ln (I) (A)) := by
  unfold P_X8_isAhead_r44 at h
  unfold V_X8_isAhead_r44
  refine B_X8_isAhead_r44_0 Ln I A v1 v2  (fun q2 => ?_) (fun q2 => ?_)
  · try simp only [if_pos q2]
    have h3 := h.1 q2
    refine B_X8_isAhead_r44_23 Ln I A v1 v2  (fun q6 => ?_) (fun q6 => ?_)
    · try simp only [if_pos q6]
      have h7 := h3.1 q6
      obtain ⟨g8_0, g8_1⟩ := h7
      refine B_X8_isAhead_r44_45 Ln I A v1 v2 g8_0 g8_1 ?_
      exact MJ_X8_isAhead_r44_58_s1 Ln I A v1 v2 ((A 49 (v1).toNatClampNeg) - (A 49 (v2).toNatClampNeg)) 
    · try simp only [if_neg q6]
      have h9 := h3.2 q6
      obtain ⟨g10_0, r11_⟩ := h9
      refine B_X8_isAhead_r44_31 Ln I A v1 v2  (M_X8_heavyOf_r44 Ln I A v2 g10_0) rfl ?_
      refine B_X8_isAhead_r44_36_s1 Ln I A v1 v2 (V_X8_heavyOf_r44 Ln I A v2)  (M_X8_heavyOf_r44 Ln I A v1 r11_) rfl ?_
      refine B_X8_isAhead_r44_41_s2 Ln I A v1 v2 (V_X8_heavyOf_r44 Ln I A v2) (V_X8_heavyOf_r44 Ln I A v1)  ?_
      exact MJ_X8_isAhead_r44_58_s1 Ln I A v1 v2 ((V_X8_heavyOf_r44 Ln I A v2) - (V_X8_heavyOf_r44 Ln I A v1)) 
  · try simp only [if_neg q2]
    have h13 := h.2 q2
    obtain ⟨g14_0, g14_1⟩ := h13
    refine B_X8_isAhead_r44_7 Ln I A v1 v2 g14_0 g14_1 ?_
    exact MJ_X8_isAhead_r44_58_s1 Ln I A v1 v2 ((A 48 (v2).toNatClampNeg) - (A 48 (v1).toNatClampNeg)) 
def V_X8_canPay_r44 (Ln : Nat) (I A : Nat → Nat → Int32) (v1 : Int32) : Int32 := if (A 49 (v1).toNatClampNeg) < (V_X8_paysOf_r44 Ln I A v1) then 0 else 1
def P_X8_canPay_r44 (Ln : Nat) (I A : Nat → Nat → Int32) (v1 : Int32) : Prop := (zin v1 6 = true) ∧ (P_X8_paysOf_r44 Ln I A v1)
set_option maxRecDepth 100000 in
theorem M_X8_canPay_r44 (Ln : Nat) (I A : Nat → Nat → Int32) (v1 : Int32) (h : P_X8_canPay_r44 Ln I A v1) : zEv 119 0 0 0 [some (.ref 44), some (.int v1)] [] (zGs Ln I A) (some (.int (V_X8_canPay_r44 Ln I A v1)), zGs Ln (I) (A)) := by
  unfold P_X8_canPay_r44 at h
  unfold V_X8_canPay_r44
  obtain ⟨g0_0, g0_1⟩ := h
  refine B_X8_canPay_r44_0 Ln I A v1 g0_0 (M_X8_paysOf_r44 Ln I A v1 g0_1) rfl ?_
  refine B_X8_canPay_r44_11_s2 Ln I A v1 (A 49 (v1).toNatClampNeg) (V_X8_paysOf_r44 Ln I A v1)  (fun q1 => ?_) (fun q1 => ?_)
  · try simp only [if_pos q1]
    refine B_X8_canPay_r44_18 Ln I A v1  ?_
    exact B_X8_canPay_r44_19_s1 Ln I A v1 0 
  · try simp only [if_neg q1]
    refine B_X8_canPay_r44_14 Ln I A v1  ?_
    exact B_X8_canPay_r44_19_s1 Ln I A v1 1 
def LA_X8_cameBy_r44_4 : Nat → (Ln : Nat) → (I A : Nat → Nat → Int32) → Int32 → Int32 → Int32 → Int32
  | 0, Ln, I, A, v1, v2, v3 => 0
  | m + 1, Ln, I, A, v1, v2, v3 => if (I 44 4) ≤ v3 then v2 else (if v1 < (A 48 (v3).toNatClampNeg) then (LA_X8_cameBy_r44_4 m Ln I A v1 (v2 ||| 0) (v3 + 1)) else (LA_X8_cameBy_r44_4 m Ln I A v1 (v2 ||| (1 <<< (v3 &&& 31))) (v3 + 1)))
def PLA_X8_cameBy_r44_4 : Nat → (Ln : Nat) → (I A : Nat → Nat → Int32) → Int32 → Int32 → Int32 → Prop
  | 0, Ln, I, A, v1, v2, v3 => False
  | m + 1, Ln, I, A, v1, v2, v3 => ((I 44 4) ≤ v3 → True) ∧ (¬ ((I 44 4) ≤ v3) → ((zin v3 6 = true) ∧ ((v1 < (A 48 (v3).toNatClampNeg) → (PLA_X8_cameBy_r44_4 m Ln I A v1 (v2 ||| 0) (v3 + 1))) ∧ (¬ (v1 < (A 48 (v3).toNatClampNeg)) → (PLA_X8_cameBy_r44_4 m Ln I A v1 (v2 ||| (1 <<< (v3 &&& 31))) (v3 + 1))))))
set_option maxRecDepth 100000 in
theorem MLA_X8_cameBy_r44_4 (m Ln : Nat) : ∀ (I A : Nat → Nat → Int32) (v1 : Int32) (v2 : Int32) (v3 : Int32), PLA_X8_cameBy_r44_4 m Ln I A v1 v2 v3 → zEv 121 4 0 0 [some (.ref 44), some (.int v1), some (.int v2), some (.int v3)] [] (zGs Ln I A) (some (.int (LA_X8_cameBy_r44_4 m Ln I A v1 v2 v3)), zGs Ln I A) := by
  induction m with
  | zero => intro I A v1 v2 v3 h; exact h.elim
  | succ m ih =>
    intro I A v1 v2 v3 h
    simp only [PLA_X8_cameBy_r44_4] at h
    simp only [LA_X8_cameBy_r44_4]
    refine B_X8_cameBy_r44_4 Ln I A v1 v2 v3  (fun q2 => ?_) (fun q2 => ?_)
    · try simp only [if_pos q2]
      exact B_X8_cameBy_r44_38 Ln I A v1 v2 v3 
    · try simp only [if_neg q2]
      have h3 := h.2 q2
      obtain ⟨g4_0, r5_⟩ := h3
      refine B_X8_cameBy_r44_12 Ln I A v1 v2 v3 g4_0 (fun q6 => ?_) (fun q6 => ?_)
      · try simp only [if_pos q6]
        have h7 := r5_.1 q6
        refine B_X8_cameBy_r44_29_s1 Ln I A v1 v2 v3 v2  ?_
        refine B_X8_cameBy_r44_30_s2 Ln I A v1 v2 v3 v2 0  ?_
        exact ih I A v1 (v2 ||| 0) (v3 + 1) h7
      · try simp only [if_neg q6]
        have h12 := r5_.2 q6
        refine B_X8_cameBy_r44_23_s1 Ln I A v1 v2 v3 v2  ?_
        refine B_X8_cameBy_r44_30_s2 Ln I A v1 v2 v3 v2 (1 <<< (v3 &&& 31))  ?_
        exact ih I A v1 (v2 ||| (1 <<< (v3 &&& 31))) (v3 + 1) h12
def V_X8_cameBy_r44 (Ln : Nat) (I A : Nat → Nat → Int32) (v1 : Int32) : Int32 := LA_X8_cameBy_r44_4 1000 Ln I A v1 0 0
def P_X8_cameBy_r44 (Ln : Nat) (I A : Nat → Nat → Int32) (v1 : Int32) : Prop := PLA_X8_cameBy_r44_4 1000 Ln I A v1 0 0
set_option maxRecDepth 100000 in
theorem M_X8_cameBy_r44 (Ln : Nat) (I A : Nat → Nat → Int32) (v1 : Int32) (h : P_X8_cameBy_r44 Ln I A v1) : zEv 121 0 0 0 [some (.ref 44), some (.int v1), none, none] [] (zGs Ln I A) (some (.int (V_X8_cameBy_r44 Ln I A v1)), zGs Ln (I) (A)) := by
  unfold P_X8_cameBy_r44 at h
  unfold V_X8_cameBy_r44
  refine B_X8_cameBy_r44_0 Ln I A v1  ?_
  exact MLA_X8_cameBy_r44_4 1000 Ln I A v1 0 0 h
def LA_X8_overNow_r44_4 : Nat → (Ln : Nat) → (I A : Nat → Nat → Int32) → Int32 → Int32 → Int32
  | 0, Ln, I, A, v1, v2 => 0
  | m + 1, Ln, I, A, v1, v2 => if (I 44 4) ≤ v2 then v1 else (if 99 ≤ (A 57 (v2).toNatClampNeg) then (LA_X8_overNow_r44_4 m Ln I A (v1 ||| 0) (v2 + 1)) else (LA_X8_overNow_r44_4 m Ln I A (v1 ||| (1 <<< (v2 &&& 31))) (v2 + 1)))
def PLA_X8_overNow_r44_4 : Nat → (Ln : Nat) → (I A : Nat → Nat → Int32) → Int32 → Int32 → Prop
  | 0, Ln, I, A, v1, v2 => False
  | m + 1, Ln, I, A, v1, v2 => ((I 44 4) ≤ v2 → True) ∧ (¬ ((I 44 4) ≤ v2) → ((zin v2 6 = true) ∧ ((99 ≤ (A 57 (v2).toNatClampNeg) → (PLA_X8_overNow_r44_4 m Ln I A (v1 ||| 0) (v2 + 1))) ∧ (¬ (99 ≤ (A 57 (v2).toNatClampNeg)) → (PLA_X8_overNow_r44_4 m Ln I A (v1 ||| (1 <<< (v2 &&& 31))) (v2 + 1))))))
set_option maxRecDepth 100000 in
theorem MLA_X8_overNow_r44_4 (m Ln : Nat) : ∀ (I A : Nat → Nat → Int32) (v1 : Int32) (v2 : Int32), PLA_X8_overNow_r44_4 m Ln I A v1 v2 → zEv 122 4 0 0 [some (.ref 44), some (.int v1), some (.int v2)] [] (zGs Ln I A) (some (.int (LA_X8_overNow_r44_4 m Ln I A v1 v2)), zGs Ln I A) := by
  induction m with
  | zero => intro I A v1 v2 h; exact h.elim
  | succ m ih =>
    intro I A v1 v2 h
    simp only [PLA_X8_overNow_r44_4] at h
    simp only [LA_X8_overNow_r44_4]
    refine B_X8_overNow_r44_4 Ln I A v1 v2  (fun q2 => ?_) (fun q2 => ?_)
    · try simp only [if_pos q2]
      exact B_X8_overNow_r44_39 Ln I A v1 v2 
    · try simp only [if_neg q2]
      have h3 := h.2 q2
      obtain ⟨g4_0, r5_⟩ := h3
      refine B_X8_overNow_r44_12 Ln I A v1 v2 g4_0 (fun q6 => ?_) (fun q6 => ?_)
      · try simp only [if_pos q6]
        have h7 := r5_.1 q6
        refine B_X8_overNow_r44_30_s1 Ln I A v1 v2 v1  ?_
        refine B_X8_overNow_r44_31_s2 Ln I A v1 v2 v1 0  ?_
        exact ih I A (v1 ||| 0) (v2 + 1) h7
      · try simp only [if_neg q6]
        have h12 := r5_.2 q6
        refine B_X8_overNow_r44_24_s1 Ln I A v1 v2 v1  ?_
        refine B_X8_overNow_r44_31_s2 Ln I A v1 v2 v1 (1 <<< (v2 &&& 31))  ?_
        exact ih I A (v1 ||| (1 <<< (v2 &&& 31))) (v2 + 1) h12
def V_X8_overNow_r44 (Ln : Nat) (I A : Nat → Nat → Int32) : Int32 := LA_X8_overNow_r44_4 1000 Ln I A 0 0
def P_X8_overNow_r44 (Ln : Nat) (I A : Nat → Nat → Int32) : Prop := PLA_X8_overNow_r44_4 1000 Ln I A 0 0
set_option maxRecDepth 100000 in
theorem M_X8_overNow_r44 (Ln : Nat) (I A : Nat → Nat → Int32) (h : P_X8_overNow_r44 Ln I A) : zEv 122 0 0 0 [some (.ref 44), none, none] [] (zGs Ln I A) (some (.int (V_X8_overNow_r44 Ln I A)), zGs Ln (I) (A)) := by
  unfold P_X8_overNow_r44 at h
  unfold V_X8_overNow_r44
  refine B_X8_overNow_r44_0 Ln I A   ?_
  exact MLA_X8_overNow_r44_4 1000 Ln I A 0 0 h
def LA_X8_whoCanPay_r44_4 : Nat → (Ln : Nat) → (I A : Nat → Nat → Int32) → Int32 → Int32 → Int32
  | 0, Ln, I, A, v1, v2 => 0
  | m + 1, Ln, I, A, v1, v2 => if (I 44 4) ≤ v2 then v1 else (if (V_X8_canPay_r44 Ln I A v2) = 0 then (LA_X8_whoCanPay_r44_4 m Ln I A (v1 ||| 0) (v2 + 1)) else (LA_X8_whoCanPay_r44_4 m Ln I A (v1 ||| (1 <<< (v2 &&& 31))) (v2 + 1)))
def PLA_X8_whoCanPay_r44_4 : Nat → (Ln : Nat) → (I A : Nat → Nat → Int32) → Int32 → Int32 → Prop
  | 0, Ln, I, A, v1, v2 => False
  | m + 1, Ln, I, A, v1, v2 => ((I 44 4) ≤ v2 → True) ∧ (¬ ((I 44 4) ≤ v2) → ((P_X8_canPay_r44 Ln I A v2) ∧ (((V_X8_canPay_r44 Ln I A v2) = 0 → (PLA_X8_whoCanPay_r44_4 m Ln I A (v1 ||| 0) (v2 + 1))) ∧ (¬ ((V_X8_canPay_r44 Ln I A v2) = 0) → (PLA_X8_whoCanPay_r44_4 m Ln I A (v1 ||| (1 <<< (v2 &&& 31))) (v2 + 1))))))
set_option maxRecDepth 100000 in
theorem MLA_X8_whoCanPay_r44_4 (m Ln : Nat) : ∀ (I A : Nat → Nat → Int32) (v1 : Int32) (v2 : Int32), PLA_X8_whoCanPay_r44_4 m Ln I A v1 v2 → zEv 123 4 0 0 [some (.ref 44), some (.int v1), some (.int v2)] [] (zGs Ln I A) (some (.int (LA_X8_whoCanPay_r44_4 m Ln I A v1 v2)), zGs Ln I A) := by
  induction m with
  | zero => intro I A v1 v2 h; exact h.elim
  | succ m ih =>
    intro I A v1 v2 h
    simp only [PLA_X8_whoCanPay_r44_4] at h
    simp only [LA_X8_whoCanPay_r44_4]
    refine B_X8_whoCanPay_r44_4 Ln I A v1 v2  (fun q2 => ?_) (fun q2 => ?_)
    · try simp only [if_pos q2]
      exact B_X8_whoCanPay_r44_36 Ln I A v1 v2 
    · try simp only [if_neg q2]
      have h3 := h.2 q2
      obtain ⟨g4_0, r5_⟩ := h3
      refine B_X8_whoCanPay_r44_12 Ln I A v1 v2  (M_X8_canPay_r44 Ln I A v2 g4_0) rfl ?_
      refine B_X8_whoCanPay_r44_18_s2 Ln I A v1 v2 v1 (V_X8_canPay_r44 Ln I A v2)  (fun q8 => ?_) (fun q8 => ?_)
      · try simp only [if_pos q8]
        have h9 := r5_.1 q8
        refine B_X8_whoCanPay_r44_27_s1 Ln I A v1 v2 v1  ?_
        refine B_X8_whoCanPay_r44_28_s2 Ln I A v1 v2 v1 0  ?_
        exact ih I A (v1 ||| 0) (v2 + 1) h9
      · try simp only [if_neg q8]
        have h14 := r5_.2 q8
        refine B_X8_whoCanPay_r44_21_s1 Ln I A v1 v2 v1  ?_
        refine B_X8_whoCanPay_r44_28_s2 Ln I A v1 v2 v1 (1 <<< (v2 &&& 31))  ?_
        exact ih I A (v1 ||| (1 <<< (v2 &&& 31))) (v2 + 1) h14
def V_X8_whoCanPay_r44 (Ln : Nat) (I A : Nat → Nat → Int32) : Int32 := LA_X8_whoCanPay_r44_4 1000 Ln I A 0 0
def P_X8_whoCanPay_r44 (Ln : Nat) (I A : Nat → Nat → Int32) : Prop := PLA_X8_whoCanPay_r44_4 1000 Ln I A 0 0
set_option maxRecDepth 100000 in
theorem M_X8_whoCanPay_r44 (Ln : Nat) (I A : Nat → Nat → Int32) (h : P_X8_whoCanPay_r44 Ln I A) : zEv 123 0 0 0 [some (.ref 44), none, none] [] (zGs Ln I A) (some (.int (V_X8_whoCanPay_r44 Ln I A)), zGs Ln (I) (A)) := by
  unfold P_X8_whoCanPay_r44 at h
  unfold V_X8_whoCanPay_r44
  refine B_X8_whoCanPay_r44_0 Ln I A   ?_
  exact MLA_X8_whoCanPay_r44_4 1000 Ln I A 0 0 h
def V_X8_waitOf_r44 (Ln : Nat) (I A : Nat → Nat → Int32) (v1 : Int32) : Int32 := if (A 57 (v1).toNatClampNeg) ≠ 99 then ((A 57 (v1).toNatClampNeg) - (A 48 (v1).toNatClampNeg)) else (60 - (A 48 (v1).toNatClampNeg))
def P_X8_waitOf_r44 (Ln : Nat) (I A : Nat → Nat → Int32) (v1 : Int32) : Prop := (zin v1 6 = true) ∧ (((A 57 (v1).toNatClampNeg) ≠ 99 → ((zin v1 6 = true) ∧ (zin v1 6 = true))) ∧ (¬ ((A 57 (v1).toNatClampNeg) ≠ 99) → (zin v1 6 = true)))
set_option maxRecDepth 100000 in
theorem M_X8_waitOf_r44 (Ln : Nat) (I A : Nat → Nat → Int32) (v1 : Int32) (h : P_X8_waitOf_r44 Ln I A v1) : zEv 132 0 0 0 [some (.ref 44), some (.int v1)] [] (zGs Ln I A) (some (.int (V_X8_waitOf_r44 Ln I A v1)), zGs Ln (I) (A)) := by
  unfold P_X8_waitOf_r44 at h
  unfold V_X8_waitOf_r44
  obtain ⟨g0_0, r1_⟩ := h
  refine B_X8_waitOf_r44_0 Ln I A v1 g0_0 (fun q2 => ?_) (fun q2 => ?_)
  · try simp only [if_pos q2]
    have h3 := r1_.1 q2
    obtain ⟨g4_0, r5_⟩ := h3
    refine B_X8_waitOf_r44_16 Ln I A v1 g4_0 ?_
    exact B_X8_waitOf_r44_22_s1 Ln I A v1 (A 57 (v1).toNatClampNeg) r5_
  · try simp only [if_neg q2]
    have h7 := r1_.2 q2
    refine B_X8_waitOf_r44_11 Ln I A v1  ?_
    exact B_X8_waitOf_r44_22_s1 Ln I A v1 60 h7
def SI_X8_traced_r44 (Ln : Nat) (I A : Nat → Nat → Int32) (v1 : Int32) : Nat → Nat → Int32 := zp I 44 39 ((31 * (I 44 39)) + v1)
set_option maxRecDepth 100000 in
theorem M_X8_traced_r44 (Ln : Nat) (I A : Nat → Nat → Int32) (v1 : Int32) : zEv 155 0 0 0 [some (.ref 44), some (.int v1)] [] (zGs Ln I A) (none, zGs Ln (SI_X8_traced_r44 Ln I A v1) (A)) := by
  unfold SI_X8_traced_r44
  exact B_X8_traced_r44_0 Ln I A v1 
def V_X8_trace_r44 (Ln : Nat) (I A : Nat → Nat → Int32) : Int32 := I 44 39
set_option maxRecDepth 100000 in
theorem M_X8_trace_r44 (Ln : Nat) (I A : Nat → Nat → Int32) : zEv 159 0 0 0 [some (.ref 44)] [] (zGs Ln I A) (some (.int (V_X8_trace_r44 Ln I A)), zGs Ln (I) (A)) := by
  unfold V_X8_trace_r44
  exact B_X8_trace_r44_0 Ln I A  
def V_X8_fault_r44 (Ln : Nat) (I A : Nat → Nat → Int32) : Int32 := I 44 0
set_option maxRecDepth 100000 in
theorem M_X8_fault_r44 (Ln : Nat) (I A : Nat → Nat → Int32) : zEv 160 0 0 0 [some (.ref 44)] [] (zGs Ln I A) (some (.int (V_X8_fault_r44 Ln I A)), zGs Ln (I) (A)) := by
  unfold V_X8_fault_r44
  exact B_X8_fault_r44_0 Ln I A  
def V_X8_many_r44 (Ln : Nat) (I A : Nat → Nat → Int32) (v1 : Int32) : Int32 := if (v1 : Int32).toInt = 0 then (I 44 4) else (if (v1 : Int32).toInt = 1 then (I 44 1) else (if (v1 : Int32).toInt = 2 then (I 44 2) else (if (v1 : Int32).toInt = 3 then (I 44 3) else (if (v1 : Int32).toInt = 4 then (I 44 20) else (if (v1 : Int32).toInt = 5 then (I 44 31) else (if (v1 : Int32).toInt = 6 then (I 44 10) else (-2)))))))
set_option maxRecDepth 100000 in
theorem M_X8_many_r44 (Ln : Nat) (I A : Nat → Nat → Int32) (v1 : Int32) : zEv 161 0 0 0 [some (.ref 44), some (.int v1)] [] (zGs Ln I A) (some (.int (V_X8_many_r44 Ln I A v1)), zGs Ln (I) (A)) := by
  unfold V_X8_many_r44
  refine B_X8_many_r44_0 Ln I A v1  (fun c0 => ?_) (fun c1 => ?_) (fun c2 => ?_) (fun c3 => ?_) (fun c4 => ?_) (fun c5 => ?_) (fun c6 => ?_) (fun c0 c1 c2 c3 c4 c5 c6 => ?_)
  ·  try simp only [if_pos c0]
    exact B_X8_many_r44_44 Ln I A v1 
  · have n0 : ¬ (v1 : Int32).toInt = 0 := (fun q => absurd (q.symm.trans c1) (by decide)); try simp only [if_neg n0, if_pos c1]
    exact B_X8_many_r44_49 Ln I A v1 
  · have n0 : ¬ (v1 : Int32).toInt = 0 := (fun q => absurd (q.symm.trans c2) (by decide)); have n1 : ¬ (v1 : Int32).toInt = 1 := (fun q => absurd (q.symm.trans c2) (by decide)); try simp only [if_neg n0, if_neg n1, if_pos c2]
    exact B_X8_many_r44_54 Ln I A v1 
  · have n0 : ¬ (v1 : Int32).toInt = 0 := (fun q => absurd (q.symm.trans c3) (by decide)); have n1 : ¬ (v1 : Int32).toInt = 1 := (fun q => absurd (q.symm.trans c3) (by decide)); have n2 : ¬ (v1 : Int32).toInt = 2 := (fun q => absurd (q.symm.trans c3) (by decide)); try simp only [if_neg n0, if_neg n1, if_neg n2, if_pos c3]
    exact B_X8_many_r44_59 Ln I A v1 
  · have n0 : ¬ (v1 : Int32).toInt = 0 := (fun q => absurd (q.symm.trans c4) (by decide)); have n1 : ¬ (v1 : Int32).toInt = 1 := (fun q => absurd (q.symm.trans c4) (by decide)); have n2 : ¬ (v1 : Int32).toInt = 2 := (fun q => absurd (q.symm.trans c4) (by decide)); have n3 : ¬ (v1 : Int32).toInt = 3 := (fun q => absurd (q.symm.trans c4) (by decide)); try simp only [if_neg n0, if_neg n1, if_neg n2, if_neg n3, if_pos c4]
    exact B_X8_many_r44_64 Ln I A v1 
  · have n0 : ¬ (v1 : Int32).toInt = 0 := (fun q => absurd (q.symm.trans c5) (by decide)); have n1 : ¬ (v1 : Int32).toInt = 1 := (fun q => absurd (q.symm.trans c5) (by decide)); have n2 : ¬ (v1 : Int32).toInt = 2 := (fun q => absurd (q.symm.trans c5) (by decide)); have n3 : ¬ (v1 : Int32).toInt = 3 := (fun q => absurd (q.symm.trans c5) (by decide)); have n4 : ¬ (v1 : Int32).toInt = 4 := (fun q => absurd (q.symm.trans c5) (by decide)); try simp only [if_neg n0, if_neg n1, if_neg n2, if_neg n3, if_neg n4, if_pos c5]
    exact B_X8_many_r44_69 Ln I A v1 
  · have n0 : ¬ (v1 : Int32).toInt = 0 := (fun q => absurd (q.symm.trans c6) (by decide)); have n1 : ¬ (v1 : Int32).toInt = 1 := (fun q => absurd (q.symm.trans c6) (by decide)); have n2 : ¬ (v1 : Int32).toInt = 2 := (fun q => absurd (q.symm.trans c6) (by decide)); have n3 : ¬ (v1 : Int32).toInt = 3 := (fun q => absurd (q.symm.trans c6) (by decide)); have n4 : ¬ (v1 : Int32).toInt = 4 := (fun q => absurd (q.symm.trans c6) (by decide)); have n5 : ¬ (v1 : Int32).toInt = 5 := (fun q => absurd (q.symm.trans c6) (by decide)); try simp only [if_neg n0, if_neg n1, if_neg n2, if_neg n3, if_neg n4, if_neg n5, if_pos c6]
    exact B_X8_many_r44_74 Ln I A v1 
  · try simp only [if_neg c0, if_neg c1, if_neg c2, if_neg c3, if_neg c4, if_neg c5, if_neg c6]
    exact B_X8_many_r44_79 Ln I A v1 
def V_X7_isSheet (Ln : Nat) (I A : Nat → Nat → Int32) (v0 : Int32) : Int32 := if v0 < 0 then 0 else (if 4 ≤ v0 then 0 else 1)
set_option maxRecDepth 100000 in
theorem M_X7_isSheet (Ln : Nat) (I A : Nat → Nat → Int32) (v0 : Int32) : zEv 80 0 0 0 [some (.int v0)] [] (zGs Ln I A) (some (.int (V_X7_isSheet Ln I A v0)), zGs Ln (I) (A)) := by
  unfold V_X7_isSheet
  refine B_X7_isSheet_0 Ln I A v0  (fun q0 => ?_) (fun q0 => ?_)
  · try simp only [if_pos q0]
    refine B_X7_isSheet_13 Ln I A v0  ?_
    exact B_X7_isSheet_14_s1 Ln I A v0 0 
  · try simp only [if_neg q0]
    refine B_X7_isSheet_4 Ln I A v0  (fun q1 => ?_) (fun q1 => ?_)
    · try simp only [if_pos q1]
      refine B_X7_isSheet_13 Ln I A v0  ?_
      exact B_X7_isSheet_14_s1 Ln I A v0 0 
    · try simp only [if_neg q1]
      refine B_X7_isSheet_9 Ln I A v0  ?_
      exact B_X7_isSheet_14_s1 Ln I A v0 1 
def V_X7_isLane (Ln : Nat) (I A : Nat → Nat → Int32) (v0 : Int32) : Int32 := if v0 < 0 then 0 else (if 3 ≤ v0 then 0 else 1)
set_option maxRecDepth 100000 in
theorem M_X7_isLane (Ln : Nat) (I A : Nat → Nat → Int32) (v0 : Int32) : zEv 81 0 0 0 [some (.int v0)] [] (zGs Ln I A) (some (.int (V_X7_isLane Ln I A v0)), zGs Ln (I) (A)) := by
  unfold V_X7_isLane
  refine B_X7_isLane_0 Ln I A v0  (fun q0 => ?_) (fun q0 => ?_)
  · try simp only [if_pos q0]
    refine B_X7_isLane_13 Ln I A v0  ?_
    exact B_X7_isLane_14_s1 Ln I A v0 0 
  · try simp only [if_neg q0]
    refine B_X7_isLane_4 Ln I A v0  (fun q1 => ?_) (fun q1 => ?_)
    · try simp only [if_pos q1]
      refine B_X7_isLane_13 Ln I A v0  ?_
      exact B_X7_isLane_14_s1 Ln I A v0 0 
    · try simp only [if_neg q1]
      refine B_X7_isLane_9 Ln I A v0  ?_
      exact B_X7_isLane_14_s1 Ln I A v0 1 
