/-! methods, by program (wip/whole/gen_fun.py, gen_loop.py) -/
def LA_X8_copy_r44_144 : Nat → (Ln : Nat) → (I A : Nat → Nat → Int32) → Int32 → Int32 → Int32 → Int32 → Int32 → Int32 → Int32 × (Nat → Nat → Int32) × (Nat → Nat → Int32)
  | 0, Ln, I, A, v1, v2, v3, v4, v5, v6 => (0, I, A)
  | m + 1, Ln, I, A, v1, v2, v3, v4, v5, v6 => if v5 ≤ v6 then ((V_X8_refused_r44 Ln I A v5), (SI_X8_refused_r44 Ln I A v5), A) else (LA_X8_copy_r44_144 m Ln I (zw A 67 ((((60 * v3) + v4) + v6).toNatClampNeg) (A 68 (v6).toNatClampNeg)) v1 v2 v3 v4 v5 (v6 + 1))
def PLA_X8_copy_r44_144 : Nat → (Ln : Nat) → (I A : Nat → Nat → Int32) → Int32 → Int32 → Int32 → Int32 → Int32 → Int32 → Prop
  | 0, Ln, I, A, v1, v2, v3, v4, v5, v6 => False
  | m + 1, Ln, I, A, v1, v2, v3, v4, v5, v6 => (v5 ≤ v6 → True) ∧ (¬ (v5 ≤ v6) → ((zin v6 60 = true) ∧ (zin (((60 * v3) + v4) + v6) 240 = true) ∧ (PLA_X8_copy_r44_144 m Ln I (zw A 67 ((((60 * v3) + v4) + v6).toNatClampNeg) (A 68 (v6).toNatClampNeg)) v1 v2 v3 v4 v5 (v6 + 1))))
set_option maxRecDepth 100000 in
theorem MLA_X8_copy_r44_144 (m Ln : Nat) : ∀ (I A : Nat → Nat → Int32) (v1 : Int32) (v2 : Int32) (v3 : Int32) (v4 : Int32) (v5 : Int32) (v6 : Int32), PLA_X8_copy_r44_144 m Ln I A v1 v2 v3 v4 v5 v6 → zEv 154 144 0 0 [some (.ref 44), some (.int v1), some (.int v2), some (.int v3), some (.int v4), some (.int v5), some (.int v6)] [] (zGs Ln I A) (some (.int (LA_X8_copy_r44_144 m Ln I A v1 v2 v3 v4 v5 v6).1), zGs Ln (LA_X8_copy_r44_144 m Ln I A v1 v2 v3 v4 v5 v6).2.1 (LA_X8_copy_r44_144 m Ln I A v1 v2 v3 v4 v5 v6).2.2) := by
  induction m with
  | zero => intro I A v1 v2 v3 v4 v5 v6 h; exact h.elim
  | succ m ih =>
    intro I A v1 v2 v3 v4 v5 v6 h
    simp only [PLA_X8_copy_r44_144] at h
    simp only [LA_X8_copy_r44_144]
    refine B_X8_copy_r44_144 Ln I A v1 v2 v3 v4 v5 v6  (fun q2 => ?_) (fun q2 => ?_)
    · try simp only [if_pos q2]
      refine B_X8_copy_r44_179 Ln I A v1 v2 v3 v4 v5 v6  (M_X8_refused_r44 Ln I A v5 ) rfl ?_
      exact B_X8_copy_r44_185_s1 Ln (SI_X8_refused_r44 Ln I A v5) A v1 v2 v3 v4 v5 v6 (V_X8_refused_r44 Ln I A v5) 
    · try simp only [if_neg q2]
      have h3 := h.2 q2
      obtain ⟨g4_0, g4_1, r5_⟩ := h3
      refine B_X8_copy_r44_151 Ln I A v1 v2 v3 v4 v5 v6 g4_0 g4_1 ?_
      exact ih I (zw A 67 ((((60 * v3) + v4) + v6).toNatClampNeg) (A 68 (v6).toNatClampNeg)) v1 v2 v3 v4 v5 (v6 + 1) r5_
def LA_X8_copy_r44_107 : Nat → (Ln : Nat) → (I A : Nat → Nat → Int32) → Int32 → Int32 → Int32 → Int32 → Int32 → Int32 → Int32 × (Nat → Nat → Int32) × (Nat → Nat → Int32)
  | 0, Ln, I, A, v1, v2, v3, v4, v5, v6 => (0, I, A)
  | m + 1, Ln, I, A, v1, v2, v3, v4, v5, v6 => if v5 ≤ v6 then (LA_X8_copy_r44_144 1000 Ln I A v1 v2 v3 v4 v5 0) else (LA_X8_copy_r44_107 m Ln I (zw A 68 ((v6).toNatClampNeg) (A 67 (((60 * v1) + v2) + v6).toNatClampNeg)) v1 v2 v3 v4 v5 (v6 + 1))
def PLA_X8_copy_r44_107 : Nat → (Ln : Nat) → (I A : Nat → Nat → Int32) → Int32 → Int32 → Int32 → Int32 → Int32 → Int32 → Prop
  | 0, Ln, I, A, v1, v2, v3, v4, v5, v6 => False
  | m + 1, Ln, I, A, v1, v2, v3, v4, v5, v6 => (v5 ≤ v6 → (PLA_X8_copy_r44_144 1000 Ln I A v1 v2 v3 v4 v5 0)) ∧ (¬ (v5 ≤ v6) → ((zin (((60 * v1) + v2) + v6) 240 = true) ∧ (zin v6 60 = true) ∧ (PLA_X8_copy_r44_107 m Ln I (zw A 68 ((v6).toNatClampNeg) (A 67 (((60 * v1) + v2) + v6).toNatClampNeg)) v1 v2 v3 v4 v5 (v6 + 1))))
set_option maxRecDepth 100000 in
theorem MLA_X8_copy_r44_107 (m Ln : Nat) : ∀ (I A : Nat → Nat → Int32) (v1 : Int32) (v2 : Int32) (v3 : Int32) (v4 : Int32) (v5 : Int32) (v6 : Int32), PLA_X8_copy_r44_107 m Ln I A v1 v2 v3 v4 v5 v6 → zEv 154 107 0 0 [some (.ref 44), some (.int v1), some (.int v2), some (.int v3), some (.int v4), some (.int v5), some (.int v6)] [] (zGs Ln I A) (some (.int (LA_X8_copy_r44_107 m Ln I A v1 v2 v3 v4 v5 v6).1), zGs Ln (LA_X8_copy_r44_107 m Ln I A v1 v2 v3 v4 v5 v6).2.1 (LA_X8_copy_r44_107 m Ln I A v1 v2 v3 v4 v5 v6).2.2) := by
  induction m with
  | zero => intro I A v1 v2 v3 v4 v5 v6 h; exact h.elim
  | succ m ih =>
    intro I A v1 v2 v3 v4 v5 v6 h
    simp only [PLA_X8_copy_r44_107] at h
    simp only [LA_X8_copy_r44_107]
    refine B_X8_copy_r44_107 Ln I A v1 v2 v3 v4 v5 v6  (fun q2 => ?_) (fun q2 => ?_)
    · try simp only [if_pos q2]
      have h3 := h.1 q2
      refine B_X8_copy_r44_141 Ln I A v1 v2 v3 v4 v5 v6  ?_
      exact MLA_X8_copy_r44_144 1000 Ln I A v1 v2 v3 v4 v5 0 h3
    · try simp only [if_neg q2]
      have h6 := h.2 q2
      obtain ⟨g7_0, g7_1, r8_⟩ := h6
      refine B_X8_copy_r44_114 Ln I A v1 v2 v3 v4 v5 v6 g7_0 g7_1 ?_
      exact ih I (zw A 68 ((v6).toNatClampNeg) (A 67 (((60 * v1) + v2) + v6).toNatClampNeg)) v1 v2 v3 v4 v5 (v6 + 1) r8_
def V_X8_copy_r44 (Ln : Nat) (I A : Nat → Nat → Int32) (v1 : Int32) (v2 : Int32) (v3 : Int32) (v4 : Int32) (v5 : Int32) : Int32 := if (V_X8_noSheet Ln I A v1) ≠ 0 then (V_X8_refused_r44 Ln I A (-1)) else (if (V_X8_noSheet Ln I A v3) = 0 then (if (A 65 (v1).toNatClampNeg) < 0 then (V_X8_failed_r44 Ln I A 1) else (if 0 ≤ (A 65 (v3).toNatClampNeg) then (if (A 66 (v1).toNatClampNeg) = (A 66 (v3).toNatClampNeg) then (if (V_X8_isBeyond Ln I A v2 (Int32.toInt64 v5) (A 65 (v1).toNatClampNeg)) ≠ 0 then (V_X8_failed_r44 Ln I A 3) else (if (V_X8_isBeyond Ln I A v4 (Int32.toInt64 v5) (A 65 (v3).toNatClampNeg)) = 0 then ((LA_X8_copy_r44_107 1000 Ln I A v1 v2 v3 v4 v5 0).1) else (V_X8_failed_r44 Ln I A 3))) else (V_X8_failed_r44 Ln I A 2)) else (V_X8_failed_r44 Ln I A 1))) else (V_X8_refused_r44 Ln I A (-1)))
def SI_X8_copy_r44 (Ln : Nat) (I A : Nat → Nat → Int32) (v1 : Int32) (v2 : Int32) (v3 : Int32) (v4 : Int32) (v5 : Int32) : Nat → Nat → Int32 := if (V_X8_noSheet Ln I A v1) ≠ 0 then (SI_X8_refused_r44 Ln I A (-1)) else (if (V_X8_noSheet Ln I A v3) = 0 then (if (A 65 (v1).toNatClampNeg) < 0 then (SI_X8_failed_r44 Ln I A 1) else (if 0 ≤ (A 65 (v3).toNatClampNeg) then (if (A 66 (v1).toNatClampNeg) = (A 66 (v3).toNatClampNeg) then (if (V_X8_isBeyond Ln I A v2 (Int32.toInt64 v5) (A 65 (v1).toNatClampNeg)) ≠ 0 then (SI_X8_failed_r44 Ln I A 3) else (if (V_X8_isBeyond Ln I A v4 (Int32.toInt64 v5) (A 65 (v3).toNatClampNeg)) = 0 then ((LA_X8_copy_r44_107 1000 Ln I A v1 v2 v3 v4 v5 0).2.1) else (SI_X8_failed_r44 Ln I A 3))) else (SI_X8_failed_r44 Ln I A 2)) else (SI_X8_failed_r44 Ln I A 1))) else (SI_X8_refused_r44 Ln I A (-1)))
def SA_X8_copy_r44 (Ln : Nat) (I A : Nat → Nat → Int32) (v1 : Int32) (v2 : Int32) (v3 : Int32) (v4 : Int32) (v5 : Int32) : Nat → Nat → Int32 := if (V_X8_noSheet Ln I A v1) ≠ 0 then A else (if (V_X8_noSheet Ln I A v3) = 0 then (if (A 65 (v1).toNatClampNeg) < 0 then A else (if 0 ≤ (A 65 (v3).toNatClampNeg) then (if (A 66 (v1).toNatClampNeg) = (A 66 (v3).toNatClampNeg) then (if (V_X8_isBeyond Ln I A v2 (Int32.toInt64 v5) (A 65 (v1).toNatClampNeg)) ≠ 0 then A else (if (V_X8_isBeyond Ln I A v4 (Int32.toInt64 v5) (A 65 (v3).toNatClampNeg)) = 0 then ((LA_X8_copy_r44_107 1000 Ln I A v1 v2 v3 v4 v5 0).2.2) else A)) else A) else A)) else A)
def P_X8_copy_r44 (Ln : Nat) (I A : Nat → Nat → Int32) (v1 : Int32) (v2 : Int32) (v3 : Int32) (v4 : Int32) (v5 : Int32) : Prop := ((V_X8_noSheet Ln I A v1) ≠ 0 → True) ∧ (¬ ((V_X8_noSheet Ln I A v1) ≠ 0) → (((V_X8_noSheet Ln I A v3) = 0 → ((zin v1 4 = true) ∧ (((A 65 (v1).toNatClampNeg) < 0 → True) ∧ (¬ ((A 65 (v1).toNatClampNeg) < 0) → ((zin v3 4 = true) ∧ ((0 ≤ (A 65 (v3).toNatClampNeg) → ((zin v1 4 = true) ∧ (zin v3 4 = true) ∧ (((A 66 (v1).toNatClampNeg) = (A 66 (v3).toNatClampNeg) → ((zin v1 4 = true) ∧ (((V_X8_isBeyond Ln I A v2 (Int32.toInt64 v5) (A 65 (v1).toNatClampNeg)) ≠ 0 → True) ∧ (¬ ((V_X8_isBeyond Ln I A v2 (Int32.toInt64 v5) (A 65 (v1).toNatClampNeg)) ≠ 0) → ((zin v3 4 = true) ∧ (((V_X8_isBeyond Ln I A v4 (Int32.toInt64 v5) (A 65 (v3).toNatClampNeg)) = 0 → (PLA_X8_copy_r44_107 1000 Ln I A v1 v2 v3 v4 v5 0)) ∧ (¬ ((V_X8_isBeyond Ln I A v4 (Int32.toInt64 v5) (A 65 (v3).toNatClampNeg)) = 0) → True))))))) ∧ (¬ ((A 66 (v1).toNatClampNeg) = (A 66 (v3).toNatClampNeg)) → True)))) ∧ (¬ (0 ≤ (A 65 (v3).toNatClampNeg)) → True))))))) ∧ (¬ ((V_X8_noSheet Ln I A v3) = 0) → True)))
set_option maxRecDepth 100000 in
theorem M_X8_copy_r44 (Ln : Nat) (I A : Nat → Nat → Int32) (v1 : Int32) (v2 : Int32) (v3 : Int32) (v4 : Int32) (v5 : Int32) (h : P_X8_copy_r44 Ln I A v1 v2 v3 v4 v5) : zEv 154 0 0 0 [some (.ref 44), some (.int v1), some (.int v2), some (.int v3), some (.int v4), some (.int v5), none] [] (zGs Ln I A) (some (.int (V_X8_copy_r44 Ln I A v1 v2 v3 v4 v5)), zGs Ln (SI_X8_copy_r44 Ln I A v1 v2 v3 v4 v5) (SA_X8_copy_r44 Ln I A v1 v2 v3 v4 v5)) := by
  unfold P_X8_copy_r44 at h
  unfold V_X8_copy_r44 SI_X8_copy_r44 SA_X8_copy_r44
  refine B_X8_copy_r44_0 Ln I A v1 v2 v3 v4 v5  (M_X8_noSheet Ln I A v1 ) rfl ?_
  refine B_X8_copy_r44_4_s1 Ln I A v1 v2 v3 v4 v5 (V_X8_noSheet Ln I A v1)  (fun q4 => ?_) (fun q4 => ?_)
  · try simp only [if_pos q4]
    refine B_X8_copy_r44_14 Ln I A v1 v2 v3 v4 v5  (M_X8_refused_r44 Ln I A (-1) ) rfl ?_
    exact B_X8_copy_r44_19_s1 Ln (SI_X8_refused_r44 Ln I A (-1)) A v1 v2 v3 v4 v5 (V_X8_refused_r44 Ln I A (-1)) 
  · try simp only [if_neg q4]
    have h5 := h.2 q4
    refine B_X8_copy_r44_7 Ln I A v1 v2 v3 v4 v5  (M_X8_noSheet Ln I A v3 ) rfl ?_
    refine B_X8_copy_r44_11_s1 Ln I A v1 v2 v3 v4 v5 (V_X8_noSheet Ln I A v3)  (fun q10 => ?_) (fun q10 => ?_)
    · try simp only [if_pos q10]
      have h11 := h5.1 q10
      obtain ⟨g12_0, r13_⟩ := h11
      refine B_X8_copy_r44_20 Ln I A v1 v2 v3 v4 v5 g12_0 (fun q14 => ?_) (fun q14 => ?_)
      · try simp only [if_pos q14]
        refine B_X8_copy_r44_38 Ln I A v1 v2 v3 v4 v5  (M_X8_failed_r44 Ln I A 1 ) rfl ?_
        exact B_X8_copy_r44_43_s1 Ln (SI_X8_failed_r44 Ln I A 1) A v1 v2 v3 v4 v5 (V_X8_failed_r44 Ln I A 1) 
      · try simp only [if_neg q14]
        have h15 := r13_.2 q14
        obtain ⟨g16_0, r17_⟩ := h15
        refine B_X8_copy_r44_29 Ln I A v1 v2 v3 v4 v5 g16_0 (fun q18 => ?_) (fun q18 => ?_)
        · try simp only [if_pos q18]
          have h19 := r17_.1 q18
          obtain ⟨g20_0, g20_1, r21_⟩ := h19
          refine B_X8_copy_r44_44 Ln I A v1 v2 v3 v4 v5 g20_0 g20_1 (fun q22 => ?_) (fun q22 => ?_)
          · try simp only [if_pos q22]
            have h23 := r21_.1 q22
            obtain ⟨g24_0, r25_⟩ := h23
            refine B_X8_copy_r44_65 Ln I A v1 v2 v3 v4 v5 g24_0 (M_X8_isBeyond Ln I A v2 (Int32.toInt64 v5) (A 65 (v1).toNatClampNeg) ) rfl ?_
            refine B_X8_copy_r44_78_s1 Ln I A v1 v2 v3 v4 v5 (V_X8_isBeyond Ln I A v2 (Int32.toInt64 v5) (A 65 (v1).toNatClampNeg))  (fun q28 => ?_) (fun q28 => ?_)
            · try simp only [if_pos q28]
              refine B_X8_copy_r44_98 Ln I A v1 v2 v3 v4 v5  (M_X8_failed_r44 Ln I A 3 ) rfl ?_
              exact B_X8_copy_r44_103_s1 Ln (SI_X8_failed_r44 Ln I A 3) A v1 v2 v3 v4 v5 (V_X8_failed_r44 Ln I A 3) 
            · try simp only [if_neg q28]
              have h29 := r25_.2 q28
              obtain ⟨g30_0, r31_⟩ := h29
              refine B_X8_copy_r44_81 Ln I A v1 v2 v3 v4 v5 g30_0 (M_X8_isBeyond Ln I A v4 (Int32.toInt64 v5) (A 65 (v3).toNatClampNeg) ) rfl ?_
              refine B_X8_copy_r44_95_s1 Ln I A v1 v2 v3 v4 v5 (V_X8_isBeyond Ln I A v4 (Int32.toInt64 v5) (A 65 (v3).toNatClampNeg))  (fun q34 => ?_) (fun q34 => ?_)
              · try simp only [if_pos q34]
                have h35 := r31_.1 q34
                refine B_X8_copy_r44_104 Ln I A v1 v2 v3 v4 v5  ?_
                exact MLA_X8_copy_r44_107 1000 Ln I A v1 v2 v3 v4 v5 0 h35
              · try simp only [if_neg q34]
                refine B_X8_copy_r44_98 Ln I A v1 v2 v3 v4 v5  (M_X8_failed_r44 Ln I A 3 ) rfl ?_
                exact B_X8_copy_r44_103_s1 Ln (SI_X8_failed_r44 Ln I A 3) A v1 v2 v3 v4 v5 (V_X8_failed_r44 Ln I A 3) 
          · try simp only [if_neg q22]
            refine B_X8_copy_r44_59 Ln I A v1 v2 v3 v4 v5  (M_X8_failed_r44 Ln I A 2 ) rfl ?_
            exact B_X8_copy_r44_64_s1 Ln (SI_X8_failed_r44 Ln I A 2) A v1 v2 v3 v4 v5 (V_X8_failed_r44 Ln I A 2) 
        · try simp only [if_neg q18]
          refine B_X8_copy_r44_38 Ln I A v1 v2 v3 v4 v5  (M_X8_failed_r44 Ln I A 1 ) rfl ?_
          exact B_X8_copy_r44_43_s1 Ln (SI_X8_failed_r44 Ln I A 1) A v1 v2 v3 v4 v5 (V_X8_failed_r44 Ln I A 1) 
    · try simp only [if_neg q10]
      refine B_X8_copy_r44_14 Ln I A v1 v2 v3 v4 v5  (M_X8_refused_r44 Ln I A (-1) ) rfl ?_
      exact B_X8_copy_r44_19_s1 Ln (SI_X8_refused_r44 Ln I A (-1)) A v1 v2 v3 v4 v5 (V_X8_refused_r44 Ln I A (-1)) 
def J_X8_tell_r44_84_s1 (Ln : Nat) (I A : Nat → Nat → Int32) (v1 : Int32) (v2 : Int32) (v3 : Int32) (s0 : Int32) : Int32 := s0
set_option maxRecDepth 100000 in
theorem MJ_X8_tell_r44_84_s1 (Ln : Nat) (I A : Nat → Nat → Int32) (v1 : Int32) (v2 : Int32) (v3 : Int32) (s0 : Int32) : zEv 156 84 0 0 [some (.ref 44), some (.int v1), some (.int v2), some (.int v3)] [.int s0] (zGs Ln I A) (some (.int (J_X8_tell_r44_84_s1 Ln I A v1 v2 v3 s0)), zGs Ln I A) := by
  unfold J_X8_tell_r44_84_s1
  exact B_X8_tell_r44_84_s1 Ln I A v1 v2 v3 s0 
def J_X8_tell_r44_51 (Ln : Nat) (I A : Nat → Nat → Int32) (v1 : Int32) (v2 : Int32) : Int32 := if v2 ≠ 0 then (if v2 ≠ 1 then (J_X8_tell_r44_84_s1 Ln I A v1 v2 (A 47 (v1).toNatClampNeg) ((2 * (A 47 (v1).toNatClampNeg)) + 100)) else (J_X8_tell_r44_84_s1 Ln I A v1 v2 (A 47 (v1).toNatClampNeg) ((A 47 (v1).toNatClampNeg) + 100))) else (J_X8_tell_r44_84_s1 Ln I A v1 v2 (A 47 (v1).toNatClampNeg) (A 47 (v1).toNatClampNeg))
def PJ_X8_tell_r44_51 (Ln : Nat) (I A : Nat → Nat → Int32) (v1 : Int32) (v2 : Int32) : Prop := (zin v1 6 = true)
set_option maxRecDepth 100000 in
theorem MJ_X8_tell_r44_51 (Ln : Nat) (I A : Nat → Nat → Int32) (v1 : Int32) (v2 : Int32) (h : PJ_X8_tell_r44_51 Ln I A v1 v2) : zEv 156 51 0 0 [some (.ref 44), some (.int v1), some (.int v2), none] [] (zGs Ln I A) (some (.int (J_X8_tell_r44_51 Ln I A v1 v2)), zGs Ln I A) := by
  unfold PJ_X8_tell_r44_51 at h
  unfold J_X8_tell_r44_51
  refine B_X8_tell_r44_51 Ln I A v1 v2 h (fun q1 => ?_) (fun q1 => ?_)
  · try simp only [if_pos q1]
    refine B_X8_tell_r44_66 Ln I A v1 v2 (A 47 (v1).toNatClampNeg)  (fun q2 => ?_) (fun q2 => ?_)
    · try simp only [if_pos q2]
      refine B_X8_tell_r44_78 Ln I A v1 v2 (A 47 (v1).toNatClampNeg)  ?_
      exact MJ_X8_tell_r44_84_s1 Ln I A v1 v2 (A 47 (v1).toNatClampNeg) ((2 * (A 47 (v1).toNatClampNeg)) + 100) 
    · try simp only [if_neg q2]
      refine B_X8_tell_r44_71 Ln I A v1 v2 (A 47 (v1).toNatClampNeg)  ?_
      exact MJ_X8_tell_r44_84_s1 Ln I A v1 v2 (A 47 (v1).toNatClampNeg) ((A 47 (v1).toNatClampNeg) + 100) 
  · try simp only [if_neg q1]
    refine B_X8_tell_r44_62 Ln I A v1 v2 (A 47 (v1).toNatClampNeg)  ?_
    exact MJ_X8_tell_r44_84_s1 Ln I A v1 v2 (A 47 (v1).toNatClampNeg) (A 47 (v1).toNatClampNeg) 
def J_X8_tell_r44_36 (Ln : Nat) (I A : Nat → Nat → Int32) (v1 : Int32) (v2 : Int32) : Int32 × (Nat → Nat → Int32) := if v2 ≠ 2 then ((J_X8_tell_r44_51 Ln (SI_X8_traced_r44 Ln I A 1) A v1 v2), (SI_X8_traced_r44 Ln I A 1)) else ((J_X8_tell_r44_51 Ln (SI_X8_traced_r44 Ln (SI_X8_traced_r44 Ln I A 1) A 1) A v1 v2), SI_X8_traced_r44 Ln (SI_X8_traced_r44 Ln I A 1) A 1)
def PJ_X8_tell_r44_36 (Ln : Nat) (I A : Nat → Nat → Int32) (v1 : Int32) (v2 : Int32) : Prop := (v2 ≠ 2 → (PJ_X8_tell_r44_51 Ln (SI_X8_traced_r44 Ln I A 1) A v1 v2)) ∧ (¬ (v2 ≠ 2) → (PJ_X8_tell_r44_51 Ln (SI_X8_traced_r44 Ln (SI_X8_traced_r44 Ln I A 1) A 1) A v1 v2))
set_option maxRecDepth 100000 in
theorem MJ_X8_tell_r44_36 (Ln : Nat) (I A : Nat → Nat → Int32) (v1 : Int32) (v2 : Int32) (h : PJ_X8_tell_r44_36 Ln I A v1 v2) : zEv 156 36 0 0 [some (.ref 44), some (.int v1), some (.int v2), none] [] (zGs Ln I A) (some (.int (J_X8_tell_r44_36 Ln I A v1 v2).1), zGs Ln (J_X8_tell_r44_36 Ln I A v1 v2).2 A) := by
  unfold PJ_X8_tell_r44_36 at h
  unfold J_X8_tell_r44_36
  refine B_X8_tell_r44_36 Ln I A v1 v2  (M_X8_traced_r44 Ln I A 1 ) rfl ?_
  refine B_X8_tell_r44_41 Ln (SI_X8_traced_r44 Ln I A 1) A v1 v2  (fun q4 => ?_) (fun q4 => ?_)
  · try simp only [if_pos q4]
    have h5 := h.1 q4
    exact MJ_X8_tell_r44_51 Ln (SI_X8_traced_r44 Ln I A 1) A v1 v2 h5
  · try simp only [if_neg q4]
    have h6 := h.2 q4
    refine B_X8_tell_r44_46 Ln (SI_X8_traced_r44 Ln I A 1) A v1 v2  (M_X8_traced_r44 Ln (SI_X8_traced_r44 Ln I A 1) A 1 ) rfl ?_
    exact MJ_X8_tell_r44_51 Ln (SI_X8_traced_r44 Ln (SI_X8_traced_r44 Ln I A 1) A 1) A v1 v2 h6
def J_X8_tell_r44_27 (Ln : Nat) (I A : Nat → Nat → Int32) (v1 : Int32) (v2 : Int32) : Int32 × (Nat → Nat → Int32) := if v2 ≤ 0 then (J_X8_tell_r44_36 Ln I A v1 v2) else (J_X8_tell_r44_36 Ln (SI_X8_traced_r44 Ln I A 2) A v1 v2)
def PJ_X8_tell_r44_27 (Ln : Nat) (I A : Nat → Nat → Int32) (v1 : Int32) (v2 : Int32) : Prop := (v2 ≤ 0 → (PJ_X8_tell_r44_36 Ln I A v1 v2)) ∧ (¬ (v2 ≤ 0) → (PJ_X8_tell_r44_36 Ln (SI_X8_traced_r44 Ln I A 2) A v1 v2))
set_option maxRecDepth 100000 in
theorem MJ_X8_tell_r44_27 (Ln : Nat) (I A : Nat → Nat → Int32) (v1 : Int32) (v2 : Int32) (h : PJ_X8_tell_r44_27 Ln I A v1 v2) : zEv 156 27 0 0 [some (.ref 44), some (.int v1), some (.int v2), none] [] (zGs Ln I A) (some (.int (J_X8_tell_r44_27 Ln I A v1 v2).1), zGs Ln (J_X8_tell_r44_27 Ln I A v1 v2).2 A) := by
  unfold PJ_X8_tell_r44_27 at h
  unfold J_X8_tell_r44_27
  refine B_X8_tell_r44_27 Ln I A v1 v2  (fun q2 => ?_) (fun q2 => ?_)
  · try simp only [if_pos q2]
    have h3 := h.1 q2
    exact MJ_X8_tell_r44_36 Ln I A v1 v2 h3
  · try simp only [if_neg q2]
    have h4 := h.2 q2
    refine B_X8_tell_r44_31 Ln I A v1 v2  (M_X8_traced_r44 Ln I A 2 ) rfl ?_
    exact MJ_X8_tell_r44_36 Ln (SI_X8_traced_r44 Ln I A 2) A v1 v2 h4
def V_X8_tell_r44 (Ln : Nat) (I A : Nat → Nat → Int32) (v1 : Int32) : Int32 := if (V_X8_noShade_r44 Ln I A v1) = 0 then (if (A 45 (v1).toNatClampNeg) ≠ 2 then ((J_X8_tell_r44_27 Ln I A v1 (A 45 (v1).toNatClampNeg)).1) else ((J_X8_tell_r44_27 Ln (SI_X8_traced_r44 Ln I A 3) A v1 (A 45 (v1).toNatClampNeg)).1)) else (-1)
def SI_X8_tell_r44 (Ln : Nat) (I A : Nat → Nat → Int32) (v1 : Int32) : Nat → Nat → Int32 := if (V_X8_noShade_r44 Ln I A v1) = 0 then (if (A 45 (v1).toNatClampNeg) ≠ 2 then ((J_X8_tell_r44_27 Ln I A v1 (A 45 (v1).toNatClampNeg)).2) else ((J_X8_tell_r44_27 Ln (SI_X8_traced_r44 Ln I A 3) A v1 (A 45 (v1).toNatClampNeg)).2)) else I
def P_X8_tell_r44 (Ln : Nat) (I A : Nat → Nat → Int32) (v1 : Int32) : Prop := ((V_X8_noShade_r44 Ln I A v1) = 0 → ((zin v1 6 = true) ∧ (((A 45 (v1).toNatClampNeg) ≠ 2 → (PJ_X8_tell_r44_27 Ln I A v1 (A 45 (v1).toNatClampNeg))) ∧ (¬ ((A 45 (v1).toNatClampNeg) ≠ 2) → (PJ_X8_tell_r44_27 Ln (SI_X8_traced_r44 Ln I A 3) A v1 (A 45 (v1).toNatClampNeg)))))) ∧ (¬ ((V_X8_noShade_r44 Ln I A v1) = 0) → True)
set_option maxRecDepth 100000 in
theorem M_X8_tell_r44 (Ln : Nat) (I A : Nat → Nat → Int32) (v1 : Int32) (h : P_X8_tell_r44 Ln I A v1) : zEv 156 0 0 0 [some (.ref 44), some (.int v1), none, none] [] (zGs Ln I A) (some (.int (V_X8_tell_r44 Ln I A v1)), zGs Ln (SI_X8_tell_r44 Ln I A v1) (A)) := by
  unfold P_X8_tell_r44 at h
  unfold V_X8_tell_r44 SI_X8_tell_r44
  refine B_X8_tell_r44_0 Ln I A v1  (M_X8_noShade_r44 Ln I A v1 ) rfl ?_
  refine B_X8_tell_r44_5_s1 Ln I A v1 (V_X8_noShade_r44 Ln I A v1)  (fun q4 => ?_) (fun q4 => ?_)
  · try simp only [if_pos q4]
    have h5 := h.1 q4
    obtain ⟨g6_0, r7_⟩ := h5
    refine B_X8_tell_r44_10 Ln I A v1 g6_0 (fun q8 => ?_) (fun q8 => ?_)
    · try simp only [if_pos q8]
      have h9 := r7_.1 q8
      exact MJ_X8_tell_r44_27 Ln I A v1 (A 45 (v1).toNatClampNeg) h9
    · try simp only [if_neg q8]
      have h10 := r7_.2 q8
      refine B_X8_tell_r44_22 Ln I A v1 (A 45 (v1).toNatClampNeg)  (M_X8_traced_r44 Ln I A 3 ) rfl ?_
      exact MJ_X8_tell_r44_27 Ln (SI_X8_traced_r44 Ln I A 3) A v1 (A 45 (v1).toNatClampNeg) h10
  · try simp only [if_neg q4]
    exact B_X8_tell_r44_8 Ln I A v1 
def V_X8_hail_r44 (Ln : Nat) (I A : Nat → Nat → Int32) (v1 : Int32) : Int32 := if (V_X8_noShade_r44 Ln I A v1) = 0 then (if (A 45 (v1).toNatClampNeg) ≠ 2 then (if (A 45 (v1).toNatClampNeg) ≠ 2 then v1 else 60) else (if (A 45 (v1).toNatClampNeg) ≠ 2 then v1 else 60)) else (-1)
def SI_X8_hail_r44 (Ln : Nat) (I A : Nat → Nat → Int32) (v1 : Int32) : Nat → Nat → Int32 := if (V_X8_noShade_r44 Ln I A v1) = 0 then (if (A 45 (v1).toNatClampNeg) ≠ 2 then (if (A 45 (v1).toNatClampNeg) ≠ 2 then (SI_X8_traced_r44 Ln I A 4) else (SI_X8_traced_r44 Ln I A 4)) else (if (A 45 (v1).toNatClampNeg) ≠ 2 then (SI_X8_traced_r44 Ln I A 5) else (SI_X8_traced_r44 Ln I A 5))) else I
def P_X8_hail_r44 (Ln : Nat) (I A : Nat → Nat → Int32) (v1 : Int32) : Prop := ((V_X8_noShade_r44 Ln I A v1) = 0 → ((zin v1 6 = true) ∧ (((A 45 (v1).toNatClampNeg) ≠ 2 → (zin v1 6 = true)) ∧ (¬ ((A 45 (v1).toNatClampNeg) ≠ 2) → (zin v1 6 = true))))) ∧ (¬ ((V_X8_noShade_r44 Ln I A v1) = 0) → True)
set_option maxRecDepth 100000 in
theorem M_X8_hail_r44 (Ln : Nat) (I A : Nat → Nat → Int32) (v1 : Int32) (h : P_X8_hail_r44 Ln I A v1) : zEv 157 0 0 0 [some (.ref 44), some (.int v1)] [] (zGs Ln I A) (some (.int (V_X8_hail_r44 Ln I A v1)), zGs Ln (SI_X8_hail_r44 Ln I A v1) (A)) := by
  unfold P_X8_hail_r44 at h
  unfold V_X8_hail_r44 SI_X8_hail_r44
  refine B_X8_hail_r44_0 Ln I A v1  (M_X8_noShade_r44 Ln I A v1 ) rfl ?_
  refine B_X8_hail_r44_5_s1 Ln I A v1 (V_X8_noShade_r44 Ln I A v1)  (fun q4 => ?_) (fun q4 => ?_)
  · try simp only [if_pos q4]
    have h5 := h.1 q4
    obtain ⟨g6_0, r7_⟩ := h5
    refine B_X8_hail_r44_10 Ln I A v1 g6_0 (fun q8 => ?_) (fun q8 => ?_)
    · try simp only [if_pos q8]
      have h9 := r7_.1 q8
      refine B_X8_hail_r44_25_s1 Ln I A v1  ?_
      refine B_X8_hail_r44_26_s2 Ln I A v1 4  (M_X8_traced_r44 Ln I A 4 ) rfl ?_
      refine B_X8_hail_r44_29 Ln (SI_X8_traced_r44 Ln I A 4) A v1 h9 (fun q15 => ?_) (fun q15 => ?_)
      · try simp only [if_pos q15]
        refine B_X8_hail_r44_44 Ln (SI_X8_traced_r44 Ln I A 4) A v1  ?_
        exact B_X8_hail_r44_45_s1 Ln (SI_X8_traced_r44 Ln I A 4) A v1 v1 
      · try simp only [if_neg q15]
        refine B_X8_hail_r44_39 Ln (SI_X8_traced_r44 Ln I A 4) A v1  ?_
        exact B_X8_hail_r44_45_s1 Ln (SI_X8_traced_r44 Ln I A 4) A v1 60 
    · try simp only [if_neg q8]
      have h16 := r7_.2 q8
      refine B_X8_hail_r44_21_s1 Ln I A v1  ?_
      refine B_X8_hail_r44_26_s2 Ln I A v1 5  (M_X8_traced_r44 Ln I A 5 ) rfl ?_
      refine B_X8_hail_r44_29 Ln (SI_X8_traced_r44 Ln I A 5) A v1 h16 (fun q22 => ?_) (fun q22 => ?_)
      · try simp only [if_pos q22]
        refine B_X8_hail_r44_44 Ln (SI_X8_traced_r44 Ln I A 5) A v1  ?_
        exact B_X8_hail_r44_45_s1 Ln (SI_X8_traced_r44 Ln I A 5) A v1 v1 
      · try simp only [if_neg q22]
        refine B_X8_hail_r44_39 Ln (SI_X8_traced_r44 Ln I A 5) A v1  ?_
        exact B_X8_hail_r44_45_s1 Ln (SI_X8_traced_r44 Ln I A 5) A v1 60 
  · try simp only [if_neg q4]
    exact B_X8_hail_r44_8 Ln I A v1 
def V_X8_as_r44 (Ln : Nat) (I A : Nat → Nat → Int32) (v1 : Int32) (v2 : Int32) : Int32 := if (V_X8_noShade_r44 Ln I A v1) = 0 then (if (V_X8_in Ln I A (Int32.toInt64 v2) 0 2) ≠ 0 then (if (A 45 (v1).toNatClampNeg) < v2 then (V_X8_failed_r44 Ln I A 2) else (V_X8_refused_r44 Ln I A 1)) else (V_X8_refused_r44 Ln I A (-2))) else (V_X8_refused_r44 Ln I A (-1))
def SI_X8_as_r44 (Ln : Nat) (I A : Nat → Nat → Int32) (v1 : Int32) (v2 : Int32) : Nat → Nat → Int32 := if (V_X8_noShade_r44 Ln I A v1) = 0 then (if (V_X8_in Ln I A (Int32.toInt64 v2) 0 2) ≠ 0 then (if (A 45 (v1).toNatClampNeg) < v2 then (SI_X8_failed_r44 Ln I A 2) else (SI_X8_refused_r44 Ln I A 1)) else (SI_X8_refused_r44 Ln I A (-2))) else (SI_X8_refused_r44 Ln I A (-1))
def P_X8_as_r44 (Ln : Nat) (I A : Nat → Nat → Int32) (v1 : Int32) (v2 : Int32) : Prop := ((V_X8_noShade_r44 Ln I A v1) = 0 → (((V_X8_in Ln I A (Int32.toInt64 v2) 0 2) ≠ 0 → (zin v1 6 = true)) ∧ (¬ ((V_X8_in Ln I A (Int32.toInt64 v2) 0 2) ≠ 0) → True))) ∧ (¬ ((V_X8_noShade_r44 Ln I A v1) = 0) → True)
set_option maxRecDepth 100000 in
theorem M_X8_as_r44 (Ln : Nat) (I A : Nat → Nat → Int32) (v1 : Int32) (v2 : Int32) (h : P_X8_as_r44 Ln I A v1 v2) : zEv 158 0 0 0 [some (.ref 44), some (.int v1), some (.int v2)] [] (zGs Ln I A) (some (.int (V_X8_as_r44 Ln I A v1 v2)), zGs Ln (SI_X8_as_r44 Ln I A v1 v2) (A)) := by
  unfold P_X8_as_r44 at h
  unfold V_X8_as_r44 SI_X8_as_r44
  refine B_X8_as_r44_0 Ln I A v1 v2  (M_X8_noShade_r44 Ln I A v1 ) rfl ?_
  refine B_X8_as_r44_5_s1 Ln I A v1 v2 (V_X8_noShade_r44 Ln I A v1)  (fun q4 => ?_) (fun q4 => ?_)
  · try simp only [if_pos q4]
    have h5 := h.1 q4
    refine B_X8_as_r44_14 Ln I A v1 v2  (M_X8_in Ln I A (Int32.toInt64 v2) 0 2 ) rfl ?_
    refine B_X8_as_r44_23_s1 Ln I A v1 v2 (V_X8_in Ln I A (Int32.toInt64 v2) 0 2)  (fun q10 => ?_) (fun q10 => ?_)
    · try simp only [if_pos q10]
      have h11 := h5.1 q10
      refine B_X8_as_r44_33 Ln I A v1 v2 h11 (fun q13 => ?_) (fun q13 => ?_)
      · try simp only [if_pos q13]
        refine B_X8_as_r44_51 Ln I A v1 v2  (M_X8_failed_r44 Ln I A 2 ) rfl ?_
        exact B_X8_as_r44_56_s1 Ln (SI_X8_failed_r44 Ln I A 2) A v1 v2 (V_X8_failed_r44 Ln I A 2) 
      · try simp only [if_neg q13]
        refine B_X8_as_r44_43 Ln I A v1 v2  (M_X8_refused_r44 Ln I A 1 ) rfl ?_
        refine B_X8_as_r44_48_s1 Ln (SI_X8_refused_r44 Ln I A 1) A v1 v2 (V_X8_refused_r44 Ln I A 1)  ?_
        exact B_X8_as_r44_56_s1 Ln (SI_X8_refused_r44 Ln I A 1) A v1 v2 (V_X8_refused_r44 Ln I A 1) 
    · try simp only [if_neg q10]
      refine B_X8_as_r44_26 Ln I A v1 v2  (M_X8_refused_r44 Ln I A (-2) ) rfl ?_
      exact B_X8_as_r44_32_s1 Ln (SI_X8_refused_r44 Ln I A (-2)) A v1 v2 (V_X8_refused_r44 Ln I A (-2)) 
  · try simp only [if_neg q4]
    refine B_X8_as_r44_8 Ln I A v1 v2  (M_X8_refused_r44 Ln I A (-1) ) rfl ?_
    exact B_X8_as_r44_13_s1 Ln (SI_X8_refused_r44 Ln I A (-1)) A v1 v2 (V_X8_refused_r44 Ln I A (-1)) 
def V_X7_lose_r1_c0 (Ln : Nat) (I A : Nat → Nat → Int32) : Int32 := if (V_X7_isSheet Ln I A 0) ≠ 0 then (if (I 3 1) = 0 then 0 else 1) else (-1)
def SI_X7_lose_r1_c0 (Ln : Nat) (I A : Nat → Nat → Int32) : Nat → Nat → Int32 := if (V_X7_isSheet Ln I A 0) ≠ 0 then (if (I 3 1) = 0 then (zp I 3 1 0) else (zp I 3 1 0)) else I
set_option maxRecDepth 100000 in
theorem M_X7_lose_r1_c0 (Ln : Nat) (I A : Nat → Nat → Int32) : zEv 67 0 0 0 [some (.ref 1), some (.int 0), none] [] (zGs Ln I A) (some (.int (V_X7_lose_r1_c0 Ln I A)), zGs Ln (SI_X7_lose_r1_c0 Ln I A) (A)) := by
  unfold V_X7_lose_r1_c0 SI_X7_lose_r1_c0
  refine B_X7_lose_r1_c0_0 Ln I A   (M_X7_isSheet Ln I A 0 ) rfl ?_
  refine B_X7_lose_r1_c0_4_s1 Ln I A (V_X7_isSheet Ln I A 0)  (fun q0 => ?_) (fun q0 => ?_)
  · try simp only [if_pos q0]
    refine B_X7_lose_r1_c0_9 Ln I A   (fun q1 => ?_) (fun q1 => ?_)
    · try simp only [if_pos q1]
      refine B_X7_lose_r1_c0_25 Ln I A   ?_
      exact B_X7_lose_r1_c0_26_s1 Ln I A 0 
    · try simp only [if_neg q1]
      refine B_X7_lose_r1_c0_21 Ln I A   ?_
      exact B_X7_lose_r1_c0_26_s1 Ln I A 1 
  · try simp only [if_neg q0]
    exact B_X7_lose_r1_c0_7 Ln I A  
def V_X7_lose_r1_c1 (Ln : Nat) (I A : Nat → Nat → Int32) : Int32 := if (V_X7_isSheet Ln I A 1) ≠ 0 then (if (I 5 1) = 0 then 0 else 1) else (-1)
def SI_X7_lose_r1_c1 (Ln : Nat) (I A : Nat → Nat → Int32) : Nat → Nat → Int32 := if (V_X7_isSheet Ln I A 1) ≠ 0 then (if (I 5 1) = 0 then (zp I 5 1 0) else (zp I 5 1 0)) else I
set_option maxRecDepth 100000 in
theorem M_X7_lose_r1_c1 (Ln : Nat) (I A : Nat → Nat → Int32) : zEv 67 0 0 0 [some (.ref 1), some (.int 1), none] [] (zGs Ln I A) (some (.int (V_X7_lose_r1_c1 Ln I A)), zGs Ln (SI_X7_lose_r1_c1 Ln I A) (A)) := by
  unfold V_X7_lose_r1_c1 SI_X7_lose_r1_c1
  refine B_X7_lose_r1_c1_0 Ln I A   (M_X7_isSheet Ln I A 1 ) rfl ?_
  refine B_X7_lose_r1_c1_4_s1 Ln I A (V_X7_isSheet Ln I A 1)  (fun q0 => ?_) (fun q0 => ?_)
  · try simp only [if_pos q0]
    refine B_X7_lose_r1_c1_9 Ln I A   (fun q1 => ?_) (fun q1 => ?_)
    · try simp only [if_pos q1]
      refine B_X7_lose_r1_c1_25 Ln I A   ?_
      exact B_X7_lose_r1_c1_26_s1 Ln I A 0 
    · try simp only [if_neg q1]
      refine B_X7_lose_r1_c1_21 Ln I A   ?_
      exact B_X7_lose_r1_c1_26_s1 Ln I A 1 
  · try simp only [if_neg q0]
    exact B_X7_lose_r1_c1_7 Ln I A  
def V_X7_lose_r1_c2 (Ln : Nat) (I A : Nat → Nat → Int32) : Int32 := if (V_X7_isSheet Ln I A 2) ≠ 0 then (if (I 7 1) = 0 then 0 else 1) else (-1)
def SI_X7_lose_r1_c2 (Ln : Nat) (I A : Nat → Nat → Int32) : Nat → Nat → Int32 := if (V_X7_isSheet Ln I A 2) ≠ 0 then (if (I 7 1) = 0 then (zp I 7 1 0) else (zp I 7 1 0)) else I
set_option maxRecDepth 100000 in
theorem M_X7_lose_r1_c2 (Ln : Nat) (I A : Nat → Nat → Int32) : zEv 67 0 0 0 [some (.ref 1), some (.int 2), none] [] (zGs Ln I A) (some (.int (V_X7_lose_r1_c2 Ln I A)), zGs Ln (SI_X7_lose_r1_c2 Ln I A) (A)) := by
  unfold V_X7_lose_r1_c2 SI_X7_lose_r1_c2
  refine B_X7_lose_r1_c2_0 Ln I A   (M_X7_isSheet Ln I A 2 ) rfl ?_
  refine B_X7_lose_r1_c2_4_s1 Ln I A (V_X7_isSheet Ln I A 2)  (fun q0 => ?_) (fun q0 => ?_)
  · try simp only [if_pos q0]
    refine B_X7_lose_r1_c2_9 Ln I A   (fun q1 => ?_) (fun q1 => ?_)
    · try simp only [if_pos q1]
      refine B_X7_lose_r1_c2_25 Ln I A   ?_
      exact B_X7_lose_r1_c2_26_s1 Ln I A 0 
    · try simp only [if_neg q1]
      refine B_X7_lose_r1_c2_21 Ln I A   ?_
      exact B_X7_lose_r1_c2_26_s1 Ln I A 1 
  · try simp only [if_neg q0]
    exact B_X7_lose_r1_c2_7 Ln I A  
def V_X7_lose_r1_c3 (Ln : Nat) (I A : Nat → Nat → Int32) : Int32 := if (V_X7_isSheet Ln I A 3) ≠ 0 then (if (I 9 1) = 0 then 0 else 1) else (-1)
def SI_X7_lose_r1_c3 (Ln : Nat) (I A : Nat → Nat → Int32) : Nat → Nat → Int32 := if (V_X7_isSheet Ln I A 3) ≠ 0 then (if (I 9 1) = 0 then (zp I 9 1 0) else (zp I 9 1 0)) else I
set_option maxRecDepth 100000 in
theorem M_X7_lose_r1_c3 (Ln : Nat) (I A : Nat → Nat → Int32) : zEv 67 0 0 0 [some (.ref 1), some (.int 3), none] [] (zGs Ln I A) (some (.int (V_X7_lose_r1_c3 Ln I A)), zGs Ln (SI_X7_lose_r1_c3 Ln I A) (A)) := by
  unfold V_X7_lose_r1_c3 SI_X7_lose_r1_c3
  refine B_X7_lose_r1_c3_0 Ln I A   (M_X7_isSheet Ln I A 3 ) rfl ?_
  refine B_X7_lose_r1_c3_4_s1 Ln I A (V_X7_isSheet Ln I A 3)  (fun q0 => ?_) (fun q0 => ?_)
  · try simp only [if_pos q0]
    refine B_X7_lose_r1_c3_9 Ln I A   (fun q1 => ?_) (fun q1 => ?_)
    · try simp only [if_pos q1]
      refine B_X7_lose_r1_c3_25 Ln I A   ?_
      exact B_X7_lose_r1_c3_26_s1 Ln I A 0 
    · try simp only [if_neg q1]
      refine B_X7_lose_r1_c3_21 Ln I A   ?_
      exact B_X7_lose_r1_c3_26_s1 Ln I A 1 
  · try simp only [if_neg q0]
    exact B_X7_lose_r1_c3_7 Ln I A  
def V_X7_copy_r1_c0_c0 (Ln : Nat) (I A : Nat → Nat → Int32) (v2 : Int32) (v4 : Int32) (v5 : Int32) : Int32 := if (V_X7_isSheet Ln I A 0) = 0 then (V_X7_faultless_r1 Ln I A (-1)) else (if (V_X7_isSheet Ln I A 0) ≠ 0 then (if (I 3 1) = 0 then (V_X7_faulted_r1 Ln I A 1) else (if (I 3 1) ≠ 0 then (if (I 3 2) = (I 3 2) then (if v5 < 0 then (V_X7_faulted_r1 Ln I A 3) else (if (V_X4_holds_r3 Ln I A v2 v5) = 0 then (V_X7_faulted_r1 Ln I A 3) else (if (V_X4_holds_r3 Ln I A v4 v5) ≠ 0 then (V_X7_faultless_r1 Ln I (zcp A 4 4 (v2).toNatClampNeg (v4).toNatClampNeg (v5).toNatClampNeg) v5) else (V_X7_faulted_r1 Ln I A 3)))) else (V_X7_faulted_r1 Ln I A 2)) else (V_X7_faulted_r1 Ln I A 1))) else (V_X7_faultless_r1 Ln I A (-1)))
def SI_X7_copy_r1_c0_c0 (Ln : Nat) (I A : Nat → Nat → Int32) (v2 : Int32) (v4 : Int32) (v5 : Int32) : Nat → Nat → Int32 := if (V_X7_isSheet Ln I A 0) = 0 then (SI_X7_faultless_r1 Ln I A (-1)) else (if (V_X7_isSheet Ln I A 0) ≠ 0 then (if (I 3 1) = 0 then (SI_X7_faulted_r1 Ln I A 1) else (if (I 3 1) ≠ 0 then (if (I 3 2) = (I 3 2) then (if v5 < 0 then (SI_X7_faulted_r1 Ln I A 3) else (if (V_X4_holds_r3 Ln I A v2 v5) = 0 then (SI_X7_faulted_r1 Ln I A 3) else (if (V_X4_holds_r3 Ln I A v4 v5) ≠ 0 then (SI_X7_faultless_r1 Ln I (zcp A 4 4 (v2).toNatClampNeg (v4).toNatClampNeg (v5).toNatClampNeg) v5) else (SI_X7_faulted_r1 Ln I A 3)))) else (SI_X7_faulted_r1 Ln I A 2)) else (SI_X7_faulted_r1 Ln I A 1))) else (SI_X7_faultless_r1 Ln I A (-1)))
def SA_X7_copy_r1_c0_c0 (Ln : Nat) (I A : Nat → Nat → Int32) (v2 : Int32) (v4 : Int32) (v5 : Int32) : Nat → Nat → Int32 := if (V_X7_isSheet Ln I A 0) = 0 then A else (if (V_X7_isSheet Ln I A 0) ≠ 0 then (if (I 3 1) = 0 then A else (if (I 3 1) ≠ 0 then (if (I 3 2) = (I 3 2) then (if v5 < 0 then A else (if (V_X4_holds_r3 Ln I A v2 v5) = 0 then A else (if (V_X4_holds_r3 Ln I A v4 v5) ≠ 0 then (zcp A 4 4 (v2).toNatClampNeg (v4).toNatClampNeg (v5).toNatClampNeg) else A))) else A) else A)) else A)
def P_X7_copy_r1_c0_c0 (Ln : Nat) (I A : Nat → Nat → Int32) (v2 : Int32) (v4 : Int32) (v5 : Int32) : Prop := ((V_X7_isSheet Ln I A 0) = 0 → True) ∧ (¬ ((V_X7_isSheet Ln I A 0) = 0) → (((V_X7_isSheet Ln I A 0) ≠ 0 → (((I 3 1) = 0 → True) ∧ (¬ ((I 3 1) = 0) → (((I 3 1) ≠ 0 → (((I 3 2) = (I 3 2) → ((v5 < 0 → True) ∧ (¬ (v5 < 0) → (((V_X4_holds_r3 Ln I A v2 v5) = 0 → True) ∧ (¬ ((V_X4_holds_r3 Ln I A v2 v5) = 0) → (((V_X4_holds_r3 Ln I A v4 v5) ≠ 0 → ((¬ v5 < 0) ∧ (¬ v4 < 0) ∧ (¬ v2 < 0) ∧ ((v2).toNatClampNeg + (v5).toNatClampNeg ≤ 60) ∧ ((v4).toNatClampNeg + (v5).toNatClampNeg ≤ 60))) ∧ (¬ ((V_X4_holds_r3 Ln I A v4 v5) ≠ 0) → True))))))) ∧ (¬ ((I 3 2) = (I 3 2)) → True))) ∧ (¬ ((I 3 1) ≠ 0) → True))))) ∧ (¬ ((V_X7_isSheet Ln I A 0) ≠ 0) → True)))
set_option maxRecDepth 100000 in
theorem M_X7_copy_r1_c0_c0 (Ln : Nat) (I A : Nat → Nat → Int32) (v2 : Int32) (v4 : Int32) (v5 : Int32) (h : P_X7_copy_r1_c0_c0 Ln I A v2 v4 v5) : zEv 70 0 0 0 [some (.ref 1), some (.int 0), some (.int v2), some (.int 0), some (.int v4), some (.int v5), none, none] [] (zGs Ln I A) (some (.int (V_X7_copy_r1_c0_c0 Ln I A v2 v4 v5)), zGs Ln (SI_X7_copy_r1_c0_c0 Ln I A v2 v4 v5) (SA_X7_copy_r1_c0_c0 Ln I A v2 v4 v5)) := by
  unfold P_X7_copy_r1_c0_c0 at h
  unfold V_X7_copy_r1_c0_c0 SI_X7_copy_r1_c0_c0 SA_X7_copy_r1_c0_c0
  refine B_X7_copy_r1_c0_c0_0 Ln I A v2 v4 v5  (M_X7_isSheet Ln I A 0 ) rfl ?_
  refine B_X7_copy_r1_c0_c0_4_s1 Ln I A v2 v4 v5 (V_X7_isSheet Ln I A 0)  (fun q4 => ?_) (fun q4 => ?_)
  · try simp only [if_pos q4]
    refine B_X7_copy_r1_c0_c0_14 Ln I A v2 v4 v5  (M_X7_faultless_r1 Ln I A (-1) ) rfl ?_
    exact B_X7_copy_r1_c0_c0_19_s1 Ln (SI_X7_faultless_r1 Ln I A (-1)) A v2 v4 v5 (V_X7_faultless_r1 Ln I A (-1)) 
  · try simp only [if_neg q4]
    have h5 := h.2 q4
    refine B_X7_copy_r1_c0_c0_7 Ln I A v2 v4 v5  (M_X7_isSheet Ln I A 0 ) rfl ?_
    refine B_X7_copy_r1_c0_c0_11_s1 Ln I A v2 v4 v5 (V_X7_isSheet Ln I A 0)  (fun q10 => ?_) (fun q10 => ?_)
    · try simp only [if_pos q10]
      have h11 := h5.1 q10
      refine B_X7_copy_r1_c0_c0_20 Ln I A v2 v4 v5  (fun q14 => ?_) (fun q14 => ?_)
      · try simp only [if_pos q14]
        refine B_X7_copy_r1_c0_c0_52_l3_3 Ln I A v2 v4 v5  (M_X7_faulted_r1 Ln I A 1 ) rfl ?_
        exact B_X7_copy_r1_c0_c0_57_s1_l3_3 Ln (SI_X7_faulted_r1 Ln I A 1) A v2 v4 v5 (V_X7_faulted_r1 Ln I A 1) 
      · try simp only [if_neg q14]
        have h15 := h11.2 q14
        refine B_X7_copy_r1_c0_c0_44_l3_3 Ln I A v2 v4 v5  (fun q18 => ?_) (fun q18 => ?_)
        · try simp only [if_pos q18]
          have h19 := h15.1 q18
          refine B_X7_copy_r1_c0_c0_58_l3_3 Ln I A v2 v4 v5  (fun q22 => ?_) (fun q22 => ?_)
          · try simp only [if_pos q22]
            have h23 := h19.1 q22
            refine B_X7_copy_r1_c0_c0_77_l3_3 Ln I A v2 v4 v5  (fun q26 => ?_) (fun q26 => ?_)
            · try simp only [if_pos q26]
              refine B_X7_copy_r1_c0_c0_105_l3_3 Ln I A v2 v4 v5  (M_X7_faulted_r1 Ln I A 3 ) rfl ?_
              exact B_X7_copy_r1_c0_c0_110_s1_l3_3 Ln (SI_X7_faulted_r1 Ln I A 3) A v2 v4 v5 (V_X7_faulted_r1 Ln I A 3) 
            · try simp only [if_neg q26]
              have h27 := h23.2 q26
              refine B_X7_copy_r1_c0_c0_82_l3_3 Ln I A v2 v4 v5  (M_X4_holds_r3 Ln I A v2 v5 ) rfl ?_
              refine B_X7_copy_r1_c0_c0_90_s1_l3_3 Ln I A v2 v4 v5 (V_X4_holds_r3 Ln I A v2 v5)  (fun q32 => ?_) (fun q32 => ?_)
              · try simp only [if_pos q32]
                refine B_X7_copy_r1_c0_c0_105_l3_3 Ln I A v2 v4 v5  (M_X7_faulted_r1 Ln I A 3 ) rfl ?_
                exact B_X7_copy_r1_c0_c0_110_s1_l3_3 Ln (SI_X7_faulted_r1 Ln I A 3) A v2 v4 v5 (V_X7_faulted_r1 Ln I A 3) 
              · try simp only [if_neg q32]
                have h33 := h27.2 q32
                refine B_X7_copy_r1_c0_c0_93_l3_3 Ln I A v2 v4 v5  (M_X4_holds_r3 Ln I A v4 v5 ) rfl ?_
                refine B_X7_copy_r1_c0_c0_102_s1_l3_3 Ln I A v2 v4 v5 (V_X4_holds_r3 Ln I A v4 v5)  (fun q38 => ?_) (fun q38 => ?_)
                · try simp only [if_pos q38]
                  have h39 := h33.1 q38
                  obtain ⟨g40_0, g40_1, g40_2, g40_3, g40_4⟩ := h39
                  refine B_X7_copy_r1_c0_c0_111_l3_3 Ln I A v2 v4 v5 g40_0 g40_1 g40_2 g40_3 g40_4 (M_X7_faultless_r1 Ln I (zcp A 4 4 (v2).toNatClampNeg (v4).toNatClampNeg (v5).toNatClampNeg) v5 ) rfl ?_
                  exact B_X7_copy_r1_c0_c0_135_s1_l3_3 Ln (SI_X7_faultless_r1 Ln I (zcp A 4 4 (v2).toNatClampNeg (v4).toNatClampNeg (v5).toNatClampNeg) v5) (zcp A 4 4 (v2).toNatClampNeg (v4).toNatClampNeg (v5).toNatClampNeg) v2 v4 v5 (V_X7_faultless_r1 Ln I (zcp A 4 4 (v2).toNatClampNeg (v4).toNatClampNeg (v5).toNatClampNeg) v5) 
                · try simp only [if_neg q38]
                  refine B_X7_copy_r1_c0_c0_105_l3_3 Ln I A v2 v4 v5  (M_X7_faulted_r1 Ln I A 3 ) rfl ?_
                  exact B_X7_copy_r1_c0_c0_110_s1_l3_3 Ln (SI_X7_faulted_r1 Ln I A 3) A v2 v4 v5 (V_X7_faulted_r1 Ln I A 3) 
          · try simp only [if_neg q22]
            refine B_X7_copy_r1_c0_c0_71_l3_3 Ln I A v2 v4 v5  (M_X7_faulted_r1 Ln I A 2 ) rfl ?_
            exact B_X7_copy_r1_c0_c0_76_s1_l3_3 Ln (SI_X7_faulted_r1 Ln I A 2) A v2 v4 v5 (V_X7_faulted_r1 Ln I A 2) 
        · try simp only [if_neg q18]
          refine B_X7_copy_r1_c0_c0_52_l3_3 Ln I A v2 v4 v5  (M_X7_faulted_r1 Ln I A 1 ) rfl ?_
          exact B_X7_copy_r1_c0_c0_57_s1_l3_3 Ln (SI_X7_faulted_r1 Ln I A 1) A v2 v4 v5 (V_X7_faulted_r1 Ln I A 1) 
    · try simp only [if_neg q10]
      refine B_X7_copy_r1_c0_c0_14 Ln I A v2 v4 v5  (M_X7_faultless_r1 Ln I A (-1) ) rfl ?_
      exact B_X7_copy_r1_c0_c0_19_s1 Ln (SI_X7_faultless_r1 Ln I A (-1)) A v2 v4 v5 (V_X7_faultless_r1 Ln I A (-1)) 
