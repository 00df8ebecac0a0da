/-! methods, by program (wip/whole/gen_fun.py, gen_loop.py) -/
def LA_X8_areSo_r44_8 : Nat → (Ln : Nat) → (I A : Nat → Nat → Int32) → Int32 → Int32 → Int32
  | 0, Ln, I, A, v1, v2 => 0
  | m + 1, Ln, I, A, v1, v2 => if (I 44 31) ≤ v2 then v1 else (if v1 = 0 then (LA_X8_areSo_r44_8 m Ln I A 0 (v2 + 1)) else (if (A 63 (v2).toNatClampNeg) < (A 57 (A 62 (v2).toNatClampNeg).toNatClampNeg) then (if 0 ≠ (A 64 (v2).toNatClampNeg) then (LA_X8_areSo_r44_8 m Ln I A 0 (v2 + 1)) else (LA_X8_areSo_r44_8 m Ln I A 1 (v2 + 1))) else (if 1 ≠ (A 64 (v2).toNatClampNeg) then (LA_X8_areSo_r44_8 m Ln I A 0 (v2 + 1)) else (LA_X8_areSo_r44_8 m Ln I A 1 (v2 + 1)))))
def PLA_X8_areSo_r44_8 : Nat → (Ln : Nat) → (I A : Nat → Nat → Int32) → Int32 → Int32 → Prop
  | 0, Ln, I, A, v1, v2 => False
  | m + 1, Ln, I, A, v1, v2 => ((I 44 31) ≤ v2 → True) ∧ (¬ ((I 44 31) ≤ v2) → ((v1 = 0 → (PLA_X8_areSo_r44_8 m Ln I A 0 (v2 + 1))) ∧ (¬ (v1 = 0) → ((zin v2 6 = true) ∧ (zin (A 62 (v2).toNatClampNeg) 6 = true) ∧ (zin v2 6 = true) ∧ (((A 63 (v2).toNatClampNeg) < (A 57 (A 62 (v2).toNatClampNeg).toNatClampNeg) → ((zin v2 6 = true) ∧ ((0 ≠ (A 64 (v2).toNatClampNeg) → (PLA_X8_areSo_r44_8 m Ln I A 0 (v2 + 1))) ∧ (¬ (0 ≠ (A 64 (v2).toNatClampNeg)) → (PLA_X8_areSo_r44_8 m Ln I A 1 (v2 + 1)))))) ∧ (¬ ((A 63 (v2).toNatClampNeg) < (A 57 (A 62 (v2).toNatClampNeg).toNatClampNeg)) → ((zin v2 6 = true) ∧ ((1 ≠ (A 64 (v2).toNatClampNeg) → (PLA_X8_areSo_r44_8 m Ln I A 0 (v2 + 1))) ∧ (¬ (1 ≠ (A 64 (v2).toNatClampNeg)) → (PLA_X8_areSo_r44_8 m Ln I A 1 (v2 + 1)))))))))))
set_option maxRecDepth 100000 in
theorem MLA_X8_areSo_r44_8 (m Ln : Nat) : ∀ (I A : Nat → Nat → Int32) (v1 : Int32) (v2 : Int32), PLA_X8_areSo_r44_8 m Ln I A v1 v2 → zEv 144 8 0 0 [some (.ref 44), some (.int v1), some (.int v2)] [] (zGs Ln I A) (some (.int (LA_X8_areSo_r44_8 m Ln I A v1 v2)), zGs Ln I A) := by
  induction m with
  | zero => intro I A v1 v2 h; exact h.elim
  | succ m ih =>
    intro I A v1 v2 h
    simp only [PLA_X8_areSo_r44_8] at h
    simp only [LA_X8_areSo_r44_8]
    refine B_X8_areSo_r44_8 Ln I A v1 v2  (fun q2 => ?_) (fun q2 => ?_)
    · try simp only [if_pos q2]
      exact B_X8_areSo_r44_66 Ln I A v1 v2 
    · try simp only [if_neg q2]
      have h3 := h.2 q2
      refine B_X8_areSo_r44_16 Ln I A v1 v2  (fun q6 => ?_) (fun q6 => ?_)
      · try simp only [if_pos q6]
        have h7 := h3.1 q6
        refine B_X8_areSo_r44_58 Ln I A v1 v2  ?_
        refine B_X8_areSo_r44_59_s1 Ln I A v1 v2 0  ?_
        exact ih I A 0 (v2 + 1) h7
      · try simp only [if_neg q6]
        have h12 := h3.2 q6
        obtain ⟨g13_0, g13_1, g13_2, r14_⟩ := h12
        refine B_X8_areSo_r44_20 Ln I A v1 v2 g13_0 g13_1 g13_2 (fun q15 => ?_) (fun q15 => ?_)
        · try simp only [if_pos q15]
          have h16 := r14_.1 q15
          refine B_X8_areSo_r44_44 Ln I A v1 v2  ?_
          obtain ⟨g19_0, r20_⟩ := h16
          refine B_X8_areSo_r44_45_s1 Ln I A v1 v2 0 g19_0 (fun q21 => ?_) (fun q21 => ?_)
          · try simp only [if_pos q21]
            have h22 := r20_.1 q21
            refine B_X8_areSo_r44_58 Ln I A v1 v2  ?_
            refine B_X8_areSo_r44_59_s1 Ln I A v1 v2 0  ?_
            exact ih I A 0 (v2 + 1) h22
          · try simp only [if_neg q21]
            have h27 := r20_.2 q21
            refine B_X8_areSo_r44_54 Ln I A v1 v2  ?_
            refine B_X8_areSo_r44_59_s1 Ln I A v1 v2 1  ?_
            exact ih I A 1 (v2 + 1) h27
        · try simp only [if_neg q15]
          have h32 := r14_.2 q15
          refine B_X8_areSo_r44_40 Ln I A v1 v2  ?_
          obtain ⟨g35_0, r36_⟩ := h32
          refine B_X8_areSo_r44_45_s1 Ln I A v1 v2 1 g35_0 (fun q37 => ?_) (fun q37 => ?_)
          · try simp only [if_pos q37]
            have h38 := r36_.1 q37
            refine B_X8_areSo_r44_58 Ln I A v1 v2  ?_
            refine B_X8_areSo_r44_59_s1 Ln I A v1 v2 0  ?_
            exact ih I A 0 (v2 + 1) h38
          · try simp only [if_neg q37]
            have h43 := r36_.2 q37
            refine B_X8_areSo_r44_54 Ln I A v1 v2  ?_
            refine B_X8_areSo_r44_59_s1 Ln I A v1 v2 1  ?_
            exact ih I A 1 (v2 + 1) h43
def V_X8_areSo_r44 (Ln : Nat) (I A : Nat → Nat → Int32) : Int32 := LA_X8_areSo_r44_8 1000 Ln (SI_X8_goAll_r44 Ln I A ) (SA_X8_goAll_r44 Ln I A ) 1 0
def SI_X8_areSo_r44 (Ln : Nat) (I A : Nat → Nat → Int32) : Nat → Nat → Int32 := (SI_X8_goAll_r44 Ln I A )
def SA_X8_areSo_r44 (Ln : Nat) (I A : Nat → Nat → Int32) : Nat → Nat → Int32 := (SA_X8_goAll_r44 Ln I A )
def P_X8_areSo_r44 (Ln : Nat) (I A : Nat → Nat → Int32) : Prop := (P_X8_goAll_r44 Ln I A ) ∧ (PLA_X8_areSo_r44_8 1000 Ln (SI_X8_goAll_r44 Ln I A ) (SA_X8_goAll_r44 Ln I A ) 1 0)
set_option maxRecDepth 100000 in
theorem M_X8_areSo_r44 (Ln : Nat) (I A : Nat → Nat → Int32) (h : P_X8_areSo_r44 Ln I A) : zEv 144 0 0 0 [some (.ref 44), none, none] [] (zGs Ln I A) (some (.int (V_X8_areSo_r44 Ln I A)), zGs Ln (SI_X8_areSo_r44 Ln I A) (SA_X8_areSo_r44 Ln I A)) := by
  unfold P_X8_areSo_r44 at h
  unfold V_X8_areSo_r44 SI_X8_areSo_r44 SA_X8_areSo_r44
  obtain ⟨g0_0, r1_⟩ := h
  refine B_X8_areSo_r44_0 Ln I A   (M_X8_goAll_r44 Ln I A  g0_0) rfl ?_
  refine B_X8_areSo_r44_4 Ln (SI_X8_goAll_r44 Ln I A ) (SA_X8_goAll_r44 Ln I A )   ?_
  exact MLA_X8_areSo_r44_8 1000 Ln (SI_X8_goAll_r44 Ln I A ) (SA_X8_goAll_r44 Ln I A ) 1 0 r1_
def LA_X8_payers_r44_14 : Nat → (Ln : Nat) → (I A : Nat → Nat → Int32) → Int32 → Int32 → Int32 → Int32 × (Nat → Nat → Int32) × (Nat → Nat → Int32)
  | 0, Ln, I, A, v1, v2, v3 => (0, I, A)
  | m + 1, Ln, I, A, v1, v2, v3 => if (I 44 4) ≤ v3 then (v2, I, A) else (if v3 = v1 then (LA_X8_payers_r44_14 m Ln I A v1 v2 (v3 + 1)) else (if (A 49 (v3).toNatClampNeg) ≤ 0 then (LA_X8_payers_r44_14 m Ln I A v1 v2 (v3 + 1)) else (if (V_X8_areSo_r44 Ln I (SA_X8_lend_r44 Ln I A v3 v1 1) ) = 0 then (LA_X8_payers_r44_14 m Ln (SI_X8_areSo_r44 Ln I (SA_X8_lend_r44 Ln I A v3 v1 1) ) (SA_X8_lend_r44 Ln (SI_X8_areSo_r44 Ln I (SA_X8_lend_r44 Ln I A v3 v1 1) ) (SA_X8_areSo_r44 Ln I (SA_X8_lend_r44 Ln I A v3 v1 1) ) v1 v3 1) v1 (v2 ||| 0) (v3 + 1)) else (LA_X8_payers_r44_14 m Ln (SI_X8_areSo_r44 Ln I (SA_X8_lend_r44 Ln I A v3 v1 1) ) (SA_X8_lend_r44 Ln (SI_X8_areSo_r44 Ln I (SA_X8_lend_r44 Ln I A v3 v1 1) ) (SA_X8_areSo_r44 Ln I (SA_X8_lend_r44 Ln I A v3 v1 1) ) v1 v3 1) v1 (v2 ||| (1 <<< (v3 &&& 31))) (v3 + 1)))))
def PLA_X8_payers_r44_14 : Nat → (Ln : Nat) → (I A : Nat → Nat → Int32) → Int32 → Int32 → Int32 → Prop
  | 0, Ln, I, A, v1, v2, v3 => False
  | m + 1, Ln, I, A, v1, v2, v3 => ((I 44 4) ≤ v3 → True) ∧ (¬ ((I 44 4) ≤ v3) → ((v3 = v1 → (PLA_X8_payers_r44_14 m Ln I A v1 v2 (v3 + 1))) ∧ (¬ (v3 = v1) → ((zin v3 6 = true) ∧ (((A 49 (v3).toNatClampNeg) ≤ 0 → (PLA_X8_payers_r44_14 m Ln I A v1 v2 (v3 + 1))) ∧ (¬ ((A 49 (v3).toNatClampNeg) ≤ 0) → ((P_X8_lend_r44 Ln I A v3 v1 1) ∧ ((P_X8_areSo_r44 Ln I (SA_X8_lend_r44 Ln I A v3 v1 1) ) ∧ (((V_X8_areSo_r44 Ln I (SA_X8_lend_r44 Ln I A v3 v1 1) ) = 0 → ((P_X8_lend_r44 Ln (SI_X8_areSo_r44 Ln I (SA_X8_lend_r44 Ln I A v3 v1 1) ) (SA_X8_areSo_r44 Ln I (SA_X8_lend_r44 Ln I A v3 v1 1) ) v1 v3 1) ∧ (PLA_X8_payers_r44_14 m Ln (SI_X8_areSo_r44 Ln I (SA_X8_lend_r44 Ln I A v3 v1 1) ) (SA_X8_lend_r44 Ln (SI_X8_areSo_r44 Ln I (SA_X8_lend_r44 Ln I A v3 v1 1) ) (SA_X8_areSo_r44 Ln I (SA_X8_lend_r44 Ln I A v3 v1 1) ) v1 v3 1) v1 (v2 ||| 0) (v3 + 1)))) ∧ (¬ ((V_X8_areSo_r44 Ln I (SA_X8_lend_r44 Ln I A v3 v1 1) ) = 0) → ((P_X8_lend_r44 Ln (SI_X8_areSo_r44 Ln I (SA_X8_lend_r44 Ln I A v3 v1 1) ) (SA_X8_areSo_r44 Ln I (SA_X8_lend_r44 Ln I A v3 v1 1) ) v1 v3 1) ∧ (PLA_X8_payers_r44_14 m Ln (SI_X8_areSo_r44 Ln I (SA_X8_lend_r44 Ln I A v3 v1 1) ) (SA_X8_lend_r44 Ln (SI_X8_areSo_r44 Ln I (SA_X8_lend_r44 Ln I A v3 v1 1) ) (SA_X8_areSo_r44 Ln I (SA_X8_lend_r44 Ln I A v3 v1 1) ) v1 v3 1) v1 (v2 ||| (1 <<< (v3 &&& 31))) (v3 + 1)))))))))))))
set_option maxRecDepth 100000 in
theorem MLA_X8_payers_r44_14 (m Ln : Nat) : ∀ (I A : Nat → Nat → Int32) (v1 : Int32) (v2 : Int32) (v3 : Int32), PLA_X8_payers_r44_14 m Ln I A v1 v2 v3 → zEv 145 14 0 0 [some (.ref 44), some (.int v1), some (.int v2), some (.int v3)] [] (zGs Ln I A) (some (.int (LA_X8_payers_r44_14 m Ln I A v1 v2 v3).1), zGs Ln (LA_X8_payers_r44_14 m Ln I A v1 v2 v3).2.1 (LA_X8_payers_r44_14 m Ln I A v1 v2 v3).2.2) := by
  induction m with
  | zero => intro I A v1 v2 v3 h; exact h.elim
  | succ m ih =>
    intro I A v1 v2 v3 h
    simp only [PLA_X8_payers_r44_14] at h
    simp only [LA_X8_payers_r44_14]
    refine B_X8_payers_r44_14 Ln I A v1 v2 v3  (fun q2 => ?_) (fun q2 => ?_)
    · try simp only [if_pos q2]
      exact B_X8_payers_r44_73 Ln I A v1 v2 v3 
    · try simp only [if_neg q2]
      have h3 := h.2 q2
      refine B_X8_payers_r44_22 Ln I A v1 v2 v3  (fun q6 => ?_) (fun q6 => ?_)
      · try simp only [if_pos q6]
        have h7 := h3.1 q6
        refine B_X8_payers_r44_67 Ln I A v1 v2 v3  ?_
        exact ih I A v1 v2 (v3 + 1) h7
      · try simp only [if_neg q6]
        have h10 := h3.2 q6
        obtain ⟨g11_0, r12_⟩ := h10
        refine B_X8_payers_r44_27 Ln I A v1 v2 v3 g11_0 (fun q13 => ?_) (fun q13 => ?_)
        · try simp only [if_pos q13]
          have h14 := r12_.1 q13
          refine B_X8_payers_r44_67 Ln I A v1 v2 v3  ?_
          exact ih I A v1 v2 (v3 + 1) h14
        · try simp only [if_neg q13]
          have h17 := r12_.2 q13
          obtain ⟨g18_0, r19_⟩ := h17
          refine B_X8_payers_r44_36 Ln I A v1 v2 v3  (M_X8_lend_r44 Ln I A v3 v1 1 g18_0) rfl ?_
          obtain ⟨g20_0, r21_⟩ := r19_
          refine B_X8_payers_r44_43 Ln I (SA_X8_lend_r44 Ln I A v3 v1 1) v1 v2 v3  (M_X8_areSo_r44 Ln I (SA_X8_lend_r44 Ln I A v3 v1 1)  g20_0) rfl ?_
          refine B_X8_payers_r44_48_s2 Ln (SI_X8_areSo_r44 Ln I (SA_X8_lend_r44 Ln I A v3 v1 1) ) (SA_X8_areSo_r44 Ln I (SA_X8_lend_r44 Ln I A v3 v1 1) ) v1 v2 v3 v2 (V_X8_areSo_r44 Ln I (SA_X8_lend_r44 Ln I A v3 v1 1) )  (fun q24 => ?_) (fun q24 => ?_)
          · try simp only [if_pos q24]
            have h25 := r21_.1 q24
            refine B_X8_payers_r44_57_s1 Ln (SI_X8_areSo_r44 Ln I (SA_X8_lend_r44 Ln I A v3 v1 1) ) (SA_X8_areSo_r44 Ln I (SA_X8_lend_r44 Ln I A v3 v1 1) ) v1 v2 v3 v2  ?_
            obtain ⟨g28_0, r29_⟩ := h25
            refine B_X8_payers_r44_58_s2 Ln (SI_X8_areSo_r44 Ln I (SA_X8_lend_r44 Ln I A v3 v1 1) ) (SA_X8_areSo_r44 Ln I (SA_X8_lend_r44 Ln I A v3 v1 1) ) v1 v2 v3 v2 0  (M_X8_lend_r44 Ln (SI_X8_areSo_r44 Ln I (SA_X8_lend_r44 Ln I A v3 v1 1) ) (SA_X8_areSo_r44 Ln I (SA_X8_lend_r44 Ln I A v3 v1 1) ) v1 v3 1 g28_0) rfl ?_
            refine B_X8_payers_r44_67 Ln (SI_X8_areSo_r44 Ln I (SA_X8_lend_r44 Ln I A v3 v1 1) ) (SA_X8_lend_r44 Ln (SI_X8_areSo_r44 Ln I (SA_X8_lend_r44 Ln I A v3 v1 1) ) (SA_X8_areSo_r44 Ln I (SA_X8_lend_r44 Ln I A v3 v1 1) ) v1 v3 1) v1 (v2 ||| 0) v3  ?_
            exact ih (SI_X8_areSo_r44 Ln I (SA_X8_lend_r44 Ln I A v3 v1 1) ) (SA_X8_lend_r44 Ln (SI_X8_areSo_r44 Ln I (SA_X8_lend_r44 Ln I A v3 v1 1) ) (SA_X8_areSo_r44 Ln I (SA_X8_lend_r44 Ln I A v3 v1 1) ) v1 v3 1) v1 (v2 ||| 0) (v3 + 1) r29_
          · try simp only [if_neg q24]
            have h32 := r21_.2 q24
            refine B_X8_payers_r44_51_s1 Ln (SI_X8_areSo_r44 Ln I (SA_X8_lend_r44 Ln I A v3 v1 1) ) (SA_X8_areSo_r44 Ln I (SA_X8_lend_r44 Ln I A v3 v1 1) ) v1 v2 v3 v2  ?_
            obtain ⟨g35_0, r36_⟩ := h32
            refine B_X8_payers_r44_58_s2 Ln (SI_X8_areSo_r44 Ln I (SA_X8_lend_r44 Ln I A v3 v1 1) ) (SA_X8_areSo_r44 Ln I (SA_X8_lend_r44 Ln I A v3 v1 1) ) v1 v2 v3 v2 (1 <<< (v3 &&& 31))  (M_X8_lend_r44 Ln (SI_X8_areSo_r44 Ln I (SA_X8_lend_r44 Ln I A v3 v1 1) ) (SA_X8_areSo_r44 Ln I (SA_X8_lend_r44 Ln I A v3 v1 1) ) v1 v3 1 g35_0) rfl ?_
            refine B_X8_payers_r44_67 Ln (SI_X8_areSo_r44 Ln I (SA_X8_lend_r44 Ln I A v3 v1 1) ) (SA_X8_lend_r44 Ln (SI_X8_areSo_r44 Ln I (SA_X8_lend_r44 Ln I A v3 v1 1) ) (SA_X8_areSo_r44 Ln I (SA_X8_lend_r44 Ln I A v3 v1 1) ) v1 v3 1) v1 (v2 ||| (1 <<< (v3 &&& 31))) v3  ?_
            exact ih (SI_X8_areSo_r44 Ln I (SA_X8_lend_r44 Ln I A v3 v1 1) ) (SA_X8_lend_r44 Ln (SI_X8_areSo_r44 Ln I (SA_X8_lend_r44 Ln I A v3 v1 1) ) (SA_X8_areSo_r44 Ln I (SA_X8_lend_r44 Ln I A v3 v1 1) ) v1 v3 1) v1 (v2 ||| (1 <<< (v3 &&& 31))) (v3 + 1) r36_
def V_X8_payers_r44 (Ln : Nat) (I A : Nat → Nat → Int32) (v1 : Int32) : Int32 := if (V_X8_noShade_r44 Ln I A v1) = 0 then ((LA_X8_payers_r44_14 1000 Ln I A v1 0 0).1) else (-1)
def SI_X8_payers_r44 (Ln : Nat) (I A : Nat → Nat → Int32) (v1 : Int32) : Nat → Nat → Int32 := if (V_X8_noShade_r44 Ln I A v1) = 0 then ((LA_X8_payers_r44_14 1000 Ln I A v1 0 0).2.1) else I
def SA_X8_payers_r44 (Ln : Nat) (I A : Nat → Nat → Int32) (v1 : Int32) : Nat → Nat → Int32 := if (V_X8_noShade_r44 Ln I A v1) = 0 then ((LA_X8_payers_r44_14 1000 Ln I A v1 0 0).2.2) else A
def P_X8_payers_r44 (Ln : Nat) (I A : Nat → Nat → Int32) (v1 : Int32) : Prop := ((V_X8_noShade_r44 Ln I A v1) = 0 → (PLA_X8_payers_r44_14 1000 Ln I A v1 0 0)) ∧ (¬ ((V_X8_noShade_r44 Ln I A v1) = 0) → True)
set_option maxRecDepth 100000 in
theorem M_X8_payers_r44 (Ln : Nat) (I A : Nat → Nat → Int32) (v1 : Int32) (h : P_X8_payers_r44 Ln I A v1) : zEv 145 0 0 0 [some (.ref 44), some (.int v1), none, none] [] (zGs Ln I A) (some (.int (V_X8_payers_r44 Ln I A v1)), zGs Ln (SI_X8_payers_r44 Ln I A v1) (SA_X8_payers_r44 Ln I A v1)) := by
  unfold P_X8_payers_r44 at h
  unfold V_X8_payers_r44 SI_X8_payers_r44 SA_X8_payers_r44
  refine B_X8_payers_r44_0 Ln I A v1  (M_X8_noShade_r44 Ln I A v1 ) rfl ?_
  refine B_X8_payers_r44_5_s1 Ln I A v1 (V_X8_noShade_r44 Ln I A v1)  (fun q4 => ?_) (fun q4 => ?_)
  · try simp only [if_pos q4]
    have h5 := h.1 q4
    refine B_X8_payers_r44_10 Ln I A v1  ?_
    exact MLA_X8_payers_r44_14 1000 Ln I A v1 0 0 h5
  · try simp only [if_neg q4]
    exact B_X8_payers_r44_8 Ln I A v1 
def LA_X8_rules_r44_19 : Nat → (Ln : Nat) → (I A : Nat → Nat → Int32) → Int32 → Int32 → Int32 → Int32 × (Nat → Nat → Int32) × (Nat → Nat → Int32)
  | 0, Ln, I, A, v1, v2, v3 => (0, I, A)
  | m + 1, Ln, I, A, v1, v2, v3 => if 3 ≤ v3 then (v2, zp I 44 10 v1, A) else (if (V_X8_areSo_r44 Ln (zp I 44 10 v3) A ) = 0 then (LA_X8_rules_r44_19 m Ln (SI_X8_areSo_r44 Ln (zp I 44 10 v3) A ) (SA_X8_areSo_r44 Ln (zp I 44 10 v3) A ) v1 (v2 ||| 0) (v3 + 1)) else (LA_X8_rules_r44_19 m Ln (SI_X8_areSo_r44 Ln (zp I 44 10 v3) A ) (SA_X8_areSo_r44 Ln (zp I 44 10 v3) A ) v1 (v2 ||| (1 <<< (v3 &&& 31))) (v3 + 1)))
def PLA_X8_rules_r44_19 : Nat → (Ln : Nat) → (I A : Nat → Nat → Int32) → Int32 → Int32 → Int32 → Prop
  | 0, Ln, I, A, v1, v2, v3 => False
  | m + 1, Ln, I, A, v1, v2, v3 => (3 ≤ v3 → True) ∧ (¬ (3 ≤ v3) → ((P_X8_areSo_r44 Ln (zp I 44 10 v3) A ) ∧ (((V_X8_areSo_r44 Ln (zp I 44 10 v3) A ) = 0 → (PLA_X8_rules_r44_19 m Ln (SI_X8_areSo_r44 Ln (zp I 44 10 v3) A ) (SA_X8_areSo_r44 Ln (zp I 44 10 v3) A ) v1 (v2 ||| 0) (v3 + 1))) ∧ (¬ ((V_X8_areSo_r44 Ln (zp I 44 10 v3) A ) = 0) → (PLA_X8_rules_r44_19 m Ln (SI_X8_areSo_r44 Ln (zp I 44 10 v3) A ) (SA_X8_areSo_r44 Ln (zp I 44 10 v3) A ) v1 (v2 ||| (1 <<< (v3 &&& 31))) (v3 + 1))))))
set_option maxRecDepth 100000 in
theorem MLA_X8_rules_r44_19 (m Ln : Nat) : ∀ (I A : Nat → Nat → Int32) (v1 : Int32) (v2 : Int32) (v3 : Int32), PLA_X8_rules_r44_19 m Ln I A v1 v2 v3 → zEv 146 19 0 0 [some (.ref 44), some (.int v1), some (.int v2), some (.int v3)] [] (zGs Ln I A) (some (.int (LA_X8_rules_r44_19 m Ln I A v1 v2 v3).1), zGs Ln (LA_X8_rules_r44_19 m Ln I A v1 v2 v3).2.1 (LA_X8_rules_r44_19 m Ln I A v1 v2 v3).2.2) := by
  induction m with
  | zero => intro I A v1 v2 v3 h; exact h.elim
  | succ m ih =>
    intro I A v1 v2 v3 h
    simp only [PLA_X8_rules_r44_19] at h
    simp only [LA_X8_rules_r44_19]
    refine B_X8_rules_r44_19 Ln I A v1 v2 v3  (fun q2 => ?_) (fun q2 => ?_)
    · try simp only [if_pos q2]
      exact B_X8_rules_r44_52 Ln I A v1 v2 v3 
    · try simp only [if_neg q2]
      have h3 := h.2 q2
      obtain ⟨g4_0, r5_⟩ := h3
      refine B_X8_rules_r44_24 Ln I A v1 v2 v3  (M_X8_areSo_r44 Ln (zp I 44 10 v3) A  g4_0) rfl ?_
      refine B_X8_rules_r44_34_s2 Ln (SI_X8_areSo_r44 Ln (zp I 44 10 v3) A ) (SA_X8_areSo_r44 Ln (zp I 44 10 v3) A ) v1 v2 v3 v2 (V_X8_areSo_r44 Ln (zp I 44 10 v3) A )  (fun q8 => ?_) (fun q8 => ?_)
      · try simp only [if_pos q8]
        have h9 := r5_.1 q8
        refine B_X8_rules_r44_43_s1 Ln (SI_X8_areSo_r44 Ln (zp I 44 10 v3) A ) (SA_X8_areSo_r44 Ln (zp I 44 10 v3) A ) v1 v2 v3 v2  ?_
        refine B_X8_rules_r44_44_s2 Ln (SI_X8_areSo_r44 Ln (zp I 44 10 v3) A ) (SA_X8_areSo_r44 Ln (zp I 44 10 v3) A ) v1 v2 v3 v2 0  ?_
        exact ih (SI_X8_areSo_r44 Ln (zp I 44 10 v3) A ) (SA_X8_areSo_r44 Ln (zp I 44 10 v3) A ) v1 (v2 ||| 0) (v3 + 1) h9
      · try simp only [if_neg q8]
        have h14 := r5_.2 q8
        refine B_X8_rules_r44_37_s1 Ln (SI_X8_areSo_r44 Ln (zp I 44 10 v3) A ) (SA_X8_areSo_r44 Ln (zp I 44 10 v3) A ) v1 v2 v3 v2  ?_
        refine B_X8_rules_r44_44_s2 Ln (SI_X8_areSo_r44 Ln (zp I 44 10 v3) A ) (SA_X8_areSo_r44 Ln (zp I 44 10 v3) A ) v1 v2 v3 v2 (1 <<< (v3 &&& 31))  ?_
        exact ih (SI_X8_areSo_r44 Ln (zp I 44 10 v3) A ) (SA_X8_areSo_r44 Ln (zp I 44 10 v3) A ) v1 (v2 ||| (1 <<< (v3 &&& 31))) (v3 + 1) h14
def V_X8_rules_r44 (Ln : Nat) (I A : Nat → Nat → Int32) : Int32 := if (I 44 4) ≠ 0 then ((LA_X8_rules_r44_19 1000 Ln I A (I 44 10) 0 0).1) else (-3)
def SI_X8_rules_r44 (Ln : Nat) (I A : Nat → Nat → Int32) : Nat → Nat → Int32 := if (I 44 4) ≠ 0 then ((LA_X8_rules_r44_19 1000 Ln I A (I 44 10) 0 0).2.1) else I
def SA_X8_rules_r44 (Ln : Nat) (I A : Nat → Nat → Int32) : Nat → Nat → Int32 := if (I 44 4) ≠ 0 then ((LA_X8_rules_r44_19 1000 Ln I A (I 44 10) 0 0).2.2) else A
def P_X8_rules_r44 (Ln : Nat) (I A : Nat → Nat → Int32) : Prop := ((I 44 4) ≠ 0 → (PLA_X8_rules_r44_19 1000 Ln I A (I 44 10) 0 0)) ∧ (¬ ((I 44 4) ≠ 0) → True)
set_option maxRecDepth 100000 in
theorem M_X8_rules_r44 (Ln : Nat) (I A : Nat → Nat → Int32) (h : P_X8_rules_r44 Ln I A) : zEv 146 0 0 0 [some (.ref 44), none, none, none] [] (zGs Ln I A) (some (.int (V_X8_rules_r44 Ln I A)), zGs Ln (SI_X8_rules_r44 Ln I A) (SA_X8_rules_r44 Ln I A)) := by
  unfold P_X8_rules_r44 at h
  unfold V_X8_rules_r44 SI_X8_rules_r44 SA_X8_rules_r44
  refine B_X8_rules_r44_0 Ln I A   (fun q2 => ?_) (fun q2 => ?_)
  · try simp only [if_pos q2]
    have h3 := h.1 q2
    refine B_X8_rules_r44_10 Ln I A   ?_
    exact MLA_X8_rules_r44_19 1000 Ln I A (I 44 10) 0 0 h3
  · try simp only [if_neg q2]
    exact B_X8_rules_r44_7 Ln I A  
def LA_X8_sheet_r44_65 : Nat → (Ln : Nat) → (I A : Nat → Nat → Int32) → Int32 → Int32 → Int32 → Int32 → Int32 × (Nat → Nat → Int32) × (Nat → Nat → Int32)
  | 0, Ln, I, A, v1, v2, v3, v4 => (0, I, A)
  | m + 1, Ln, I, A, v1, v2, v3, v4 => if v3 ≤ v4 then ((V_X8_refused_r44 Ln I A 1), (SI_X8_refused_r44 Ln I A 1), A) else (LA_X8_sheet_r44_65 m Ln I (zw A 67 (((60 * v1) + v4).toNatClampNeg) 0) v1 v2 v3 (v4 + 1))
def PLA_X8_sheet_r44_65 : Nat → (Ln : Nat) → (I A : Nat → Nat → Int32) → Int32 → Int32 → Int32 → Int32 → Prop
  | 0, Ln, I, A, v1, v2, v3, v4 => False
  | m + 1, Ln, I, A, v1, v2, v3, v4 => (v3 ≤ v4 → True) ∧ (¬ (v3 ≤ v4) → ((zin ((60 * v1) + v4) 240 = true) ∧ (PLA_X8_sheet_r44_65 m Ln I (zw A 67 (((60 * v1) + v4).toNatClampNeg) 0) v1 v2 v3 (v4 + 1))))
set_option maxRecDepth 100000 in
theorem MLA_X8_sheet_r44_65 (m Ln : Nat) : ∀ (I A : Nat → Nat → Int32) (v1 : Int32) (v2 : Int32) (v3 : Int32) (v4 : Int32), PLA_X8_sheet_r44_65 m Ln I A v1 v2 v3 v4 → zEv 148 65 0 0 [some (.ref 44), some (.int v1), some (.int v2), some (.int v3), some (.int v4)] [] (zGs Ln I A) (some (.int (LA_X8_sheet_r44_65 m Ln I A v1 v2 v3 v4).1), zGs Ln (LA_X8_sheet_r44_65 m Ln I A v1 v2 v3 v4).2.1 (LA_X8_sheet_r44_65 m Ln I A v1 v2 v3 v4).2.2) := by
  induction m with
  | zero => intro I A v1 v2 v3 v4 h; exact h.elim
  | succ m ih =>
    intro I A v1 v2 v3 v4 h
    simp only [PLA_X8_sheet_r44_65] at h
    simp only [LA_X8_sheet_r44_65]
    refine B_X8_sheet_r44_65 Ln I A v1 v2 v3 v4  (fun q2 => ?_) (fun q2 => ?_)
    · try simp only [if_pos q2]
      refine B_X8_sheet_r44_90 Ln I A v1 v2 v3 v4  (M_X8_refused_r44 Ln I A 1 ) rfl ?_
      exact B_X8_sheet_r44_95_s1 Ln (SI_X8_refused_r44 Ln I A 1) A v1 v2 v3 v4 (V_X8_refused_r44 Ln I A 1) 
    · try simp only [if_neg q2]
      have h3 := h.2 q2
      obtain ⟨g4_0, r5_⟩ := h3
      refine B_X8_sheet_r44_71 Ln I A v1 v2 v3 v4 g4_0 ?_
      exact ih I (zw A 67 (((60 * v1) + v4).toNatClampNeg) 0) v1 v2 v3 (v4 + 1) r5_
def V_X8_sheet_r44 (Ln : Nat) (I A : Nat → Nat → Int32) (v1 : Int32) (v2 : Int32) (v3 : Int32) : Int32 := if (V_X8_noSheet Ln I A v1) = 0 then (if (V_X8_in Ln I A (Int32.toInt64 v2) 0 2) = 0 then (V_X8_refused_r44 Ln I A (-2)) else (if v3 ≤ 60 then (if 0 ≤ v3 then ((LA_X8_sheet_r44_65 1000 Ln I (zw (zw A 65 ((v1).toNatClampNeg) v3) 66 ((v1).toNatClampNeg) v2) v1 v2 v3 0).1) else (V_X8_failed_r44 Ln I A 4)) else (V_X8_refused_r44 Ln I A (-2)))) else (V_X8_refused_r44 Ln I A (-1))
def SI_X8_sheet_r44 (Ln : Nat) (I A : Nat → Nat → Int32) (v1 : Int32) (v2 : Int32) (v3 : Int32) : Nat → Nat → Int32 := if (V_X8_noSheet Ln I A v1) = 0 then (if (V_X8_in Ln I A (Int32.toInt64 v2) 0 2) = 0 then (SI_X8_refused_r44 Ln I A (-2)) else (if v3 ≤ 60 then (if 0 ≤ v3 then ((LA_X8_sheet_r44_65 1000 Ln I (zw (zw A 65 ((v1).toNatClampNeg) v3) 66 ((v1).toNatClampNeg) v2) v1 v2 v3 0).2.1) else (SI_X8_failed_r44 Ln I A 4)) else (SI_X8_refused_r44 Ln I A (-2)))) else (SI_X8_refused_r44 Ln I A (-1))
def SA_X8_sheet_r44 (Ln : Nat) (I A : Nat → Nat → Int32) (v1 : Int32) (v2 : Int32) (v3 : Int32) : Nat → Nat → Int32 := if (V_X8_noSheet Ln I A v1) = 0 then (if (V_X8_in Ln I A (Int32.toInt64 v2) 0 2) = 0 then A else (if v3 ≤ 60 then (if 0 ≤ v3 then ((LA_X8_sheet_r44_65 1000 Ln I (zw (zw A 65 ((v1).toNatClampNeg) v3) 66 ((v1).toNatClampNeg) v2) v1 v2 v3 0).2.2) else A) else A)) else A
def P_X8_sheet_r44 (Ln : Nat) (I A : Nat → Nat → Int32) (v1 : Int32) (v2 : Int32) (v3 : Int32) : Prop := ((V_X8_noSheet Ln I A v1) = 0 → (((V_X8_in Ln I A (Int32.toInt64 v2) 0 2) = 0 → True) ∧ (¬ ((V_X8_in Ln I A (Int32.toInt64 v2) 0 2) = 0) → ((v3 ≤ 60 → ((0 ≤ v3 → ((zin v1 4 = true) ∧ (zin v1 4 = true) ∧ (PLA_X8_sheet_r44_65 1000 Ln I (zw (zw A 65 ((v1).toNatClampNeg) v3) 66 ((v1).toNatClampNeg) v2) v1 v2 v3 0))) ∧ (¬ (0 ≤ v3) → True))) ∧ (¬ (v3 ≤ 60) → True))))) ∧ (¬ ((V_X8_noSheet Ln I A v1) = 0) → True)
set_option maxRecDepth 100000 in
theorem M_X8_sheet_r44 (Ln : Nat) (I A : Nat → Nat → Int32) (v1 : Int32) (v2 : Int32) (v3 : Int32) (h : P_X8_sheet_r44 Ln I A v1 v2 v3) : zEv 148 0 0 0 [some (.ref 44), some (.int v1), some (.int v2), some (.int v3), none] [] (zGs Ln I A) (some (.int (V_X8_sheet_r44 Ln I A v1 v2 v3)), zGs Ln (SI_X8_sheet_r44 Ln I A v1 v2 v3) (SA_X8_sheet_r44 Ln I A v1 v2 v3)) := by
  unfold P_X8_sheet_r44 at h
  unfold V_X8_sheet_r44 SI_X8_sheet_r44 SA_X8_sheet_r44
  refine B_X8_sheet_r44_0 Ln I A v1 v2 v3  (M_X8_noSheet Ln I A v1 ) rfl ?_
  refine B_X8_sheet_r44_4_s1 Ln I A v1 v2 v3 (V_X8_noSheet Ln I A v1)  (fun q4 => ?_) (fun q4 => ?_)
  · try simp only [if_pos q4]
    have h5 := h.1 q4
    refine B_X8_sheet_r44_13 Ln I A v1 v2 v3  (M_X8_in Ln I A (Int32.toInt64 v2) 0 2 ) rfl ?_
    refine B_X8_sheet_r44_22_s1 Ln I A v1 v2 v3 (V_X8_in Ln I A (Int32.toInt64 v2) 0 2)  (fun q10 => ?_) (fun q10 => ?_)
    · try simp only [if_pos q10]
      refine B_X8_sheet_r44_31 Ln I A v1 v2 v3  (M_X8_refused_r44 Ln I A (-2) ) rfl ?_
      exact B_X8_sheet_r44_37_s1 Ln (SI_X8_refused_r44 Ln I A (-2)) A v1 v2 v3 (V_X8_refused_r44 Ln I A (-2)) 
    · try simp only [if_neg q10]
      have h11 := h5.2 q10
      refine B_X8_sheet_r44_25 Ln I A v1 v2 v3  (fun q14 => ?_) (fun q14 => ?_)
      · try simp only [if_pos q14]
        have h15 := h11.1 q14
        refine B_X8_sheet_r44_38 Ln I A v1 v2 v3  (fun q18 => ?_) (fun q18 => ?_)
        · try simp only [if_pos q18]
          have h19 := h15.1 q18
          obtain ⟨g20_0, g20_1, r21_⟩ := h19
          refine B_X8_sheet_r44_48 Ln I A v1 v2 v3 g20_0 g20_1 ?_
          exact MLA_X8_sheet_r44_65 1000 Ln I (zw (zw A 65 ((v1).toNatClampNeg) v3) 66 ((v1).toNatClampNeg) v2) v1 v2 v3 0 r21_
        · try simp only [if_neg q18]
          refine B_X8_sheet_r44_42 Ln I A v1 v2 v3  (M_X8_failed_r44 Ln I A 4 ) rfl ?_
          exact B_X8_sheet_r44_47_s1 Ln (SI_X8_failed_r44 Ln I A 4) A v1 v2 v3 (V_X8_failed_r44 Ln I A 4) 
      · try simp only [if_neg q14]
        refine B_X8_sheet_r44_31 Ln I A v1 v2 v3  (M_X8_refused_r44 Ln I A (-2) ) rfl ?_
        exact B_X8_sheet_r44_37_s1 Ln (SI_X8_refused_r44 Ln I A (-2)) A v1 v2 v3 (V_X8_refused_r44 Ln I A (-2)) 
  · try simp only [if_neg q4]
    refine B_X8_sheet_r44_7 Ln I A v1 v2 v3  (M_X8_refused_r44 Ln I A (-1) ) rfl ?_
    exact B_X8_sheet_r44_12_s1 Ln (SI_X8_refused_r44 Ln I A (-1)) A v1 v2 v3 (V_X8_refused_r44 Ln I A (-1)) 
def V_X8_lose_r44 (Ln : Nat) (I A : Nat → Nat → Int32) (v1 : Int32) : Int32 := if (V_X8_noSheet Ln I A v1) = 0 then (if 0 ≤ (A 65 (v1).toNatClampNeg) then 1 else 0) else (-1)
def SA_X8_lose_r44 (Ln : Nat) (I A : Nat → Nat → Int32) (v1 : Int32) : Nat → Nat → Int32 := if (V_X8_noSheet Ln I A v1) = 0 then (if 0 ≤ (A 65 (v1).toNatClampNeg) then (zw A 65 ((v1).toNatClampNeg) ((-1))) else (zw A 65 ((v1).toNatClampNeg) ((-1)))) else A
def P_X8_lose_r44 (Ln : Nat) (I A : Nat → Nat → Int32) (v1 : Int32) : Prop := ((V_X8_noSheet Ln I A v1) = 0 → ((zin v1 4 = true) ∧ ((0 ≤ (A 65 (v1).toNatClampNeg) → (zin v1 4 = true)) ∧ (¬ (0 ≤ (A 65 (v1).toNatClampNeg)) → (zin v1 4 = true))))) ∧ (¬ ((V_X8_noSheet Ln I A v1) = 0) → True)
set_option maxRecDepth 100000 in
theorem M_X8_lose_r44 (Ln : Nat) (I A : Nat → Nat → Int32) (v1 : Int32) (h : P_X8_lose_r44 Ln I A v1) : zEv 149 0 0 0 [some (.ref 44), some (.int v1), none] [] (zGs Ln I A) (some (.int (V_X8_lose_r44 Ln I A v1)), zGs Ln (I) (SA_X8_lose_r44 Ln I A v1)) := by
  unfold P_X8_lose_r44 at h
  unfold V_X8_lose_r44 SA_X8_lose_r44
  refine B_X8_lose_r44_0 Ln I A v1  (M_X8_noSheet Ln I A v1 ) rfl ?_
  refine B_X8_lose_r44_4_s1 Ln I A v1 (V_X8_noSheet Ln I A v1)  (fun q4 => ?_) (fun q4 => ?_)
  · try simp only [if_pos q4]
    have h5 := h.1 q4
    obtain ⟨g6_0, r7_⟩ := h5
    refine B_X8_lose_r44_9 Ln I A v1 g6_0 (fun q8 => ?_) (fun q8 => ?_)
    · try simp only [if_pos q8]
      have h9 := r7_.1 q8
      refine B_X8_lose_r44_22 Ln I A v1  ?_
      exact B_X8_lose_r44_23_s1 Ln I A v1 1 h9
    · try simp only [if_neg q8]
      have h13 := r7_.2 q8
      refine B_X8_lose_r44_18 Ln I A v1  ?_
      exact B_X8_lose_r44_23_s1 Ln I A v1 0 h13
  · try simp only [if_neg q4]
    exact B_X8_lose_r44_7 Ln I A v1 
def V_X8_noCell_r44 (Ln : Nat) (I A : Nat → Nat → Int32) (v1 : Int32) (v2 : Int32) : Int32 := if 0 ≤ (A 65 (v1).toNatClampNeg) then (if (V_X8_in Ln I A (Int32.toInt64 v2) 0 ((Int32.toInt64 (A 65 (v1).toNatClampNeg)) - 1)) = 0 then 3 else 0) else 1
def P_X8_noCell_r44 (Ln : Nat) (I A : Nat → Nat → Int32) (v1 : Int32) (v2 : Int32) : Prop := (zin v1 4 = true) ∧ ((0 ≤ (A 65 (v1).toNatClampNeg) → (zin v1 4 = true)) ∧ (¬ (0 ≤ (A 65 (v1).toNatClampNeg)) → True))
set_option maxRecDepth 100000 in
theorem M_X8_noCell_r44 (Ln : Nat) (I A : Nat → Nat → Int32) (v1 : Int32) (v2 : Int32) (h : P_X8_noCell_r44 Ln I A v1 v2) : zEv 150 0 0 0 [some (.ref 44), some (.int v1), some (.int v2)] [] (zGs Ln I A) (some (.int (V_X8_noCell_r44 Ln I A v1 v2)), zGs Ln (I) (A)) := by
  unfold P_X8_noCell_r44 at h
  unfold V_X8_noCell_r44
  obtain ⟨g0_0, r1_⟩ := h
  refine B_X8_noCell_r44_0 Ln I A v1 v2 g0_0 (fun q2 => ?_) (fun q2 => ?_)
  · try simp only [if_pos q2]
    have h3 := r1_.1 q2
    refine B_X8_noCell_r44_13 Ln I A v1 v2 h3 (M_X8_in Ln I A (Int32.toInt64 v2) 0 ((Int32.toInt64 (A 65 (v1).toNatClampNeg)) - 1) ) rfl ?_
    refine B_X8_noCell_r44_28_s1 Ln I A v1 v2 (V_X8_in Ln I A (Int32.toInt64 v2) 0 ((Int32.toInt64 (A 65 (v1).toNatClampNeg)) - 1))  (fun q5 => ?_) (fun q5 => ?_)
    · try simp only [if_pos q5]
      refine B_X8_noCell_r44_35 Ln I A v1 v2  ?_
      exact B_X8_noCell_r44_36_s1 Ln I A v1 v2 3 
    · try simp only [if_neg q5]
      refine B_X8_noCell_r44_31 Ln I A v1 v2  ?_
      exact B_X8_noCell_r44_36_s1 Ln I A v1 v2 0 
  · try simp only [if_neg q2]
    refine B_X8_noCell_r44_9 Ln I A v1 v2  ?_
    exact B_X8_noCell_r44_36_s1 Ln I A v1 v2 1 
def V_X8_put_r44 (Ln : Nat) (I A : Nat → Nat → Int32) (v1 : Int32) (v2 : Int32) (v3 : Int32) : Int32 := if (V_X8_noSheet Ln I A v1) = 0 then (if (V_X8_noCell_r44 Ln I A v1 v2) ≤ 0 then (if (A 66 (v1).toNatClampNeg) ≠ 0 then (if (A 66 (v1).toNatClampNeg) ≠ 1 then (V_X8_refused_r44 Ln I (zw A 67 ((((60 * v1) + v2)).toNatClampNeg) v3) 1) else (V_X8_refused_r44 Ln I (zw A 67 ((((60 * v1) + v2)).toNatClampNeg) ((Int32.toInt16 v3).toInt32)) 1)) else (V_X8_refused_r44 Ln I (zw A 67 ((((60 * v1) + v2)).toNatClampNeg) ((Int32.toInt8 v3).toInt32)) 1)) else (V_X8_failed_r44 Ln I A (V_X8_noCell_r44 Ln I A v1 v2))) else (V_X8_refused_r44 Ln I A (-1))
def SI_X8_put_r44 (Ln : Nat) (I A : Nat → Nat → Int32) (v1 : Int32) (v2 : Int32) (v3 : Int32) : Nat → Nat → Int32 := if (V_X8_noSheet Ln I A v1) = 0 then (if (V_X8_noCell_r44 Ln I A v1 v2) ≤ 0 then (if (A 66 (v1).toNatClampNeg) ≠ 0 then (if (A 66 (v1).toNatClampNeg) ≠ 1 then (SI_X8_refused_r44 Ln I (zw A 67 ((((60 * v1) + v2)).toNatClampNeg) v3) 1) else (SI_X8_refused_r44 Ln I (zw A 67 ((((60 * v1) + v2)).toNatClampNeg) ((Int32.toInt16 v3).toInt32)) 1)) else (SI_X8_refused_r44 Ln I (zw A 67 ((((60 * v1) + v2)).toNatClampNeg) ((Int32.toInt8 v3).toInt32)) 1)) else (SI_X8_failed_r44 Ln I A (V_X8_noCell_r44 Ln I A v1 v2))) else (SI_X8_refused_r44 Ln I A (-1))
def SA_X8_put_r44 (Ln : Nat) (I A : Nat → Nat → Int32) (v1 : Int32) (v2 : Int32) (v3 : Int32) : Nat → Nat → Int32 := if (V_X8_noSheet Ln I A v1) = 0 then (if (V_X8_noCell_r44 Ln I A v1 v2) ≤ 0 then (if (A 66 (v1).toNatClampNeg) ≠ 0 then (if (A 66 (v1).toNatClampNeg) ≠ 1 then (zw A 67 ((((60 * v1) + v2)).toNatClampNeg) v3) else (zw A 67 ((((60 * v1) + v2)).toNatClampNeg) ((Int32.toInt16 v3).toInt32))) else (zw A 67 ((((60 * v1) + v2)).toNatClampNeg) ((Int32.toInt8 v3).toInt32))) else A) else A
def P_X8_put_r44 (Ln : Nat) (I A : Nat → Nat → Int32) (v1 : Int32) (v2 : Int32) (v3 : Int32) : Prop := ((V_X8_noSheet Ln I A v1) = 0 → ((P_X8_noCell_r44 Ln I A v1 v2) ∧ (((V_X8_noCell_r44 Ln I A v1 v2) ≤ 0 → ((zin v1 4 = true) ∧ (((A 66 (v1).toNatClampNeg) ≠ 0 → ((zin v1 4 = true) ∧ (((A 66 (v1).toNatClampNeg) ≠ 1 → (zin ((60 * v1) + v2) 240 = true)) ∧ (¬ ((A 66 (v1).toNatClampNeg) ≠ 1) → (zin ((60 * v1) + v2) 240 = true))))) ∧ (¬ ((A 66 (v1).toNatClampNeg) ≠ 0) → (zin ((60 * v1) + v2) 240 = true))))) ∧ (¬ ((V_X8_noCell_r44 Ln I A v1 v2) ≤ 0) → (P_X8_noCell_r44 Ln I A v1 v2))))) ∧ (¬ ((V_X8_noSheet Ln I A v1) = 0) → True)
set_option maxRecDepth 100000 in
theorem M_X8_put_r44 (Ln : Nat) (I A : Nat → Nat → Int32) (v1 : Int32) (v2 : Int32) (v3 : Int32) (h : P_X8_put_r44 Ln I A v1 v2 v3) : zEv 151 0 0 0 [some (.ref 44), some (.int v1), some (.int v2), some (.int v3)] [] (zGs Ln I A) (some (.int (V_X8_put_r44 Ln I A v1 v2 v3)), zGs Ln (SI_X8_put_r44 Ln I A v1 v2 v3) (SA_X8_put_r44 Ln I A v1 v2 v3)) := by
  unfold P_X8_put_r44 at h
  unfold V_X8_put_r44 SI_X8_put_r44 SA_X8_put_r44
  refine B_X8_put_r44_0 Ln I A v1 v2 v3  (M_X8_noSheet Ln I A v1 ) rfl ?_
  refine B_X8_put_r44_4_s1 Ln I A v1 v2 v3 (V_X8_noSheet Ln I A v1)  (fun q4 => ?_) (fun q4 => ?_)
  · try simp only [if_pos q4]
    have h5 := h.1 q4
    obtain ⟨g6_0, r7_⟩ := h5
    refine B_X8_put_r44_13 Ln I A v1 v2 v3  (M_X8_noCell_r44 Ln I A v1 v2 g6_0) rfl ?_
    refine B_X8_put_r44_19_s1 Ln I A v1 v2 v3 (V_X8_noCell_r44 Ln I A v1 v2)  (fun q10 => ?_) (fun q10 => ?_)
    · try simp only [if_pos q10]
      have h11 := r7_.1 q10
      obtain ⟨g12_0, r13_⟩ := h11
      refine B_X8_put_r44_33 Ln I A v1 v2 v3 g12_0 (fun q14 => ?_) (fun q14 => ?_)
      · try simp only [if_pos q14]
        have h15 := r13_.1 q14
        obtain ⟨g16_0, r17_⟩ := h15
        refine B_X8_put_r44_57_s2 Ln I A v1 v2 v3 ((60 * v1) + v2) g16_0 (fun q18 => ?_) (fun q18 => ?_)
        · try simp only [if_pos q18]
          have h19 := r17_.1 q18
          refine B_X8_put_r44_72_s2 Ln I A v1 v2 v3 ((60 * v1) + v2)  ?_
          refine B_X8_put_r44_73_s3 Ln I A v1 v2 v3 ((60 * v1) + v2) v3 h19 (M_X8_refused_r44 Ln I (zw A 67 ((((60 * v1) + v2)).toNatClampNeg) v3) 1 ) rfl ?_
          exact B_X8_put_r44_79_s1 Ln (SI_X8_refused_r44 Ln I (zw A 67 ((((60 * v1) + v2)).toNatClampNeg) v3) 1) (zw A 67 ((((60 * v1) + v2)).toNatClampNeg) v3) v1 v2 v3 (V_X8_refused_r44 Ln I (zw A 67 ((((60 * v1) + v2)).toNatClampNeg) v3) 1) 
        · try simp only [if_neg q18]
          have h23 := r17_.2 q18
          refine B_X8_put_r44_67_s2 Ln I A v1 v2 v3 ((60 * v1) + v2)  ?_
          refine B_X8_put_r44_73_s3 Ln I A v1 v2 v3 ((60 * v1) + v2) ((Int32.toInt16 v3).toInt32) h23 (M_X8_refused_r44 Ln I (zw A 67 ((((60 * v1) + v2)).toNatClampNeg) ((Int32.toInt16 v3).toInt32)) 1 ) rfl ?_
          exact B_X8_put_r44_79_s1 Ln (SI_X8_refused_r44 Ln I (zw A 67 ((((60 * v1) + v2)).toNatClampNeg) ((Int32.toInt16 v3).toInt32)) 1) (zw A 67 ((((60 * v1) + v2)).toNatClampNeg) ((Int32.toInt16 v3).toInt32)) v1 v2 v3 (V_X8_refused_r44 Ln I (zw A 67 ((((60 * v1) + v2)).toNatClampNeg) ((Int32.toInt16 v3).toInt32)) 1) 
      · try simp only [if_neg q14]
        have h27 := r13_.2 q14
        refine B_X8_put_r44_52_s2 Ln I A v1 v2 v3 ((60 * v1) + v2)  ?_
        refine B_X8_put_r44_73_s3 Ln I A v1 v2 v3 ((60 * v1) + v2) ((Int32.toInt8 v3).toInt32) h27 (M_X8_refused_r44 Ln I (zw A 67 ((((60 * v1) + v2)).toNatClampNeg) ((Int32.toInt8 v3).toInt32)) 1 ) rfl ?_
        exact B_X8_put_r44_79_s1 Ln (SI_X8_refused_r44 Ln I (zw A 67 ((((60 * v1) + v2)).toNatClampNeg) ((Int32.toInt8 v3).toInt32)) 1) (zw A 67 ((((60 * v1) + v2)).toNatClampNeg) ((Int32.toInt8 v3).toInt32)) v1 v2 v3 (V_X8_refused_r44 Ln I (zw A 67 ((((60 * v1) + v2)).toNatClampNeg) ((Int32.toInt8 v3).toInt32)) 1) 
    · try simp only [if_neg q10]
      have h31 := r7_.2 q10
      refine B_X8_put_r44_22 Ln I A v1 v2 v3  (M_X8_noCell_r44 Ln I A v1 v2 h31) rfl ?_
      refine B_X8_put_r44_29_s2 Ln I A v1 v2 v3 (V_X8_noCell_r44 Ln I A v1 v2)  (M_X8_failed_r44 Ln I A (V_X8_noCell_r44 Ln I A v1 v2) ) rfl ?_
      exact B_X8_put_r44_32_s1 Ln (SI_X8_failed_r44 Ln I A (V_X8_noCell_r44 Ln I A v1 v2)) A v1 v2 v3 (V_X8_failed_r44 Ln I A (V_X8_noCell_r44 Ln I A v1 v2)) 
  · try simp only [if_neg q4]
    refine B_X8_put_r44_7 Ln I A v1 v2 v3  (M_X8_refused_r44 Ln I A (-1) ) rfl ?_
    exact B_X8_put_r44_12_s1 Ln (SI_X8_refused_r44 Ln I A (-1)) A v1 v2 v3 (V_X8_refused_r44 Ln I A (-1)) 
def J_X8_cell_r44_24 (Ln : Nat) (I A : Nat → Nat → Int32) (v1 : Int32) (v2 : Int32) (v3 : Int32) : Int64 := (V_X8_lost Ln I A )
set_option maxRecDepth 100000 in
theorem MJ_X8_cell_r44_24 (Ln : Nat) (I A : Nat → Nat → Int32) (v1 : Int32) (v2 : Int32) (v3 : Int32) : zEv 152 24 0 0 [some (.ref 44), some (.int v1), some (.int v2), some (.int v3)] [] (zGs Ln I A) (some (.long (J_X8_cell_r44_24 Ln I A v1 v2 v3)), zGs Ln I A) := by
  unfold J_X8_cell_r44_24
  refine B_X8_cell_r44_24 Ln I A v1 v2 v3  (M_X8_lost Ln I A  ) rfl ?_
  exact B_X8_cell_r44_27_s1 Ln I A v1 v2 v3 (V_X8_lost Ln I A ) 
def J_X8_cell_r44_87_s1 (Ln : Nat) (I A : Nat → Nat → Int32) (v1 : Int32) (v2 : Int32) (v3 : Int32) (s0 : Int64) : Int64 := s0
set_option maxRecDepth 100000 in
theorem MJ_X8_cell_r44_87_s1 (Ln : Nat) (I A : Nat → Nat → Int32) (v1 : Int32) (v2 : Int32) (v3 : Int32) (s0 : Int64) : zEv 152 87 0 0 [some (.ref 44), some (.int v1), some (.int v2), some (.int v3)] [.long (s0)] (zGs Ln I A) (some (.long (J_X8_cell_r44_87_s1 Ln I A v1 v2 v3 s0)), zGs Ln I A) := by
  unfold J_X8_cell_r44_87_s1
  exact B_X8_cell_r44_87_s1 Ln I A v1 v2 v3 s0 
def J_X8_cell_r44_53 (Ln : Nat) (I A : Nat → Nat → Int32) (v1 : Int32) (v2 : Int32) (v3 : Int32) : Int64 × (Nat → Nat → Int32) := if (V_X8_noCell_r44 Ln I A v1 v2) ≤ 0 then ((J_X8_cell_r44_87_s1 Ln I A v1 v2 v3 (Int32.toInt64 (A 67 ((60 * v1) + v2).toNatClampNeg))), I) else ((J_X8_cell_r44_87_s1 Ln (SI_X8_failedLong_r44 Ln I A (V_X8_noCell_r44 Ln I A v1 v2)) A v1 v2 v3 (V_X8_failedLong_r44 Ln I A (V_X8_noCell_r44 Ln I A v1 v2))), (SI_X8_failedLong_r44 Ln I A (V_X8_noCell_r44 Ln I A v1 v2)))
def PJ_X8_cell_r44_53 (Ln : Nat) (I A : Nat → Nat → Int32) (v1 : Int32) (v2 : Int32) (v3 : Int32) : Prop := (P_X8_noCell_r44 Ln I A v1 v2) ∧ (((V_X8_noCell_r44 Ln I A v1 v2) ≤ 0 → (zin ((60 * v1) + v2) 240 = true)) ∧ (¬ ((V_X8_noCell_r44 Ln I A v1 v2) ≤ 0) → (P_X8_noCell_r44 Ln I A v1 v2)))
set_option maxRecDepth 100000 in
theorem MJ_X8_cell_r44_53 (Ln : Nat) (I A : Nat → Nat → Int32) (v1 : Int32) (v2 : Int32) (v3 : Int32) (h : PJ_X8_cell_r44_53 Ln I A v1 v2 v3) : zEv 152 53 0 0 [some (.ref 44), some (.int v1), some (.int v2), some (.int v3)] [] (zGs Ln I A) (some (.long (J_X8_cell_r44_53 Ln I A v1 v2 v3).1), zGs Ln (J_X8_cell_r44_53 Ln I A v1 v2 v3).2 A) := by
  unfold PJ_X8_cell_r44_53 at h
  unfold J_X8_cell_r44_53
  obtain ⟨g0_0, r1_⟩ := h
  refine B_X8_cell_r44_53 Ln I A v1 v2 v3  (M_X8_noCell_r44 Ln I A v1 v2 g0_0) rfl ?_
  refine B_X8_cell_r44_59_s1 Ln I A v1 v2 v3 (V_X8_noCell_r44 Ln I A v1 v2)  (fun q4 => ?_) (fun q4 => ?_)
  · try simp only [if_pos q4]
    have h5 := r1_.1 q4
    refine B_X8_cell_r44_75 Ln I A v1 v2 v3 h5 ?_
    exact MJ_X8_cell_r44_87_s1 Ln I A v1 v2 v3 (Int32.toInt64 (A 67 ((60 * v1) + v2).toNatClampNeg)) 
  · try simp only [if_neg q4]
    have h7 := r1_.2 q4
    refine B_X8_cell_r44_62 Ln I A v1 v2 v3  (M_X8_noCell_r44 Ln I A v1 v2 h7) rfl ?_
    refine B_X8_cell_r44_69_s2 Ln I A v1 v2 v3 (V_X8_noCell_r44 Ln I A v1 v2)  (M_X8_failedLong_r44 Ln I A (V_X8_noCell_r44 Ln I A v1 v2) ) rfl ?_
    refine B_X8_cell_r44_72_s1 Ln (SI_X8_failedLong_r44 Ln I A (V_X8_noCell_r44 Ln I A v1 v2)) A v1 v2 v3 (V_X8_failedLong_r44 Ln I A (V_X8_noCell_r44 Ln I A v1 v2))  ?_
    exact MJ_X8_cell_r44_87_s1 Ln (SI_X8_failedLong_r44 Ln I A (V_X8_noCell_r44 Ln I A v1 v2)) A v1 v2 v3 (V_X8_failedLong_r44 Ln I A (V_X8_noCell_r44 Ln I A v1 v2)) 
def V_X8_cell_r44 (Ln : Nat) (I A : Nat → Nat → Int32) (v1 : Int32) (v2 : Int32) (v3 : Int32) : Int64 := if (V_X8_noSheet Ln (zp I 44 0 0) A v1) ≠ 0 then (J_X8_cell_r44_24 Ln (zp I 44 0 0) A v1 v2 v3) else (if (V_X8_in Ln (zp I 44 0 0) A (Int32.toInt64 v3) 0 2) ≠ 0 then (if (A 65 (v1).toNatClampNeg) < 0 then ((J_X8_cell_r44_53 Ln (zp I 44 0 0) A v1 v2 v3).1) else (if (A 66 (v1).toNatClampNeg) = v3 then ((J_X8_cell_r44_53 Ln (zp I 44 0 0) A v1 v2 v3).1) else (V_X8_failedLong_r44 Ln (zp I 44 0 0) A 2))) else (J_X8_cell_r44_24 Ln (zp I 44 0 0) A v1 v2 v3))
def SI_X8_cell_r44 (Ln : Nat) (I A : Nat → Nat → Int32) (v1 : Int32) (v2 : Int32) (v3 : Int32) : Nat → Nat → Int32 := if (V_X8_noSheet Ln (zp I 44 0 0) A v1) ≠ 0 then (zp I 44 0 0) else (if (V_X8_in Ln (zp I 44 0 0) A (Int32.toInt64 v3) 0 2) ≠ 0 then (if (A 65 (v1).toNatClampNeg) < 0 then ((J_X8_cell_r44_53 Ln (zp I 44 0 0) A v1 v2 v3).2) else (if (A 66 (v1).toNatClampNeg) = v3 then ((J_X8_cell_r44_53 Ln (zp I 44 0 0) A v1 v2 v3).2) else (SI_X8_failedLong_r44 Ln (zp I 44 0 0) A 2))) else (zp I 44 0 0))
def P_X8_cell_r44 (Ln : Nat) (I A : Nat → Nat → Int32) (v1 : Int32) (v2 : Int32) (v3 : Int32) : Prop := ((V_X8_noSheet Ln (zp I 44 0 0) A v1) ≠ 0 → True) ∧ (¬ ((V_X8_noSheet Ln (zp I 44 0 0) A v1) ≠ 0) → (((V_X8_in Ln (zp I 44 0 0) A (Int32.toInt64 v3) 0 2) ≠ 0 → ((zin v1 4 = true) ∧ (((A 65 (v1).toNatClampNeg) < 0 → (PJ_X8_cell_r44_53 Ln (zp I 44 0 0) A v1 v2 v3)) ∧ (¬ ((A 65 (v1).toNatClampNeg) < 0) → ((zin v1 4 = true) ∧ (((A 66 (v1).toNatClampNeg) = v3 → (PJ_X8_cell_r44_53 Ln (zp I 44 0 0) A v1 v2 v3)) ∧ (¬ ((A 66 (v1).toNatClampNeg) = v3) → True))))))) ∧ (¬ ((V_X8_in Ln (zp I 44 0 0) A (Int32.toInt64 v3) 0 2) ≠ 0) → True)))
set_option maxRecDepth 100000 in
theorem M_X8_cell_r44 (Ln : Nat) (I A : Nat → Nat → Int32) (v1 : Int32) (v2 : Int32) (v3 : Int32) (h : P_X8_cell_r44 Ln I A v1 v2 v3) : zEv 152 0 0 0 [some (.ref 44), some (.int v1), some (.int v2), some (.int v3)] [] (zGs Ln I A) (some (.long (V_X8_cell_r44 Ln I A v1 v2 v3)), zGs Ln (SI_X8_cell_r44 Ln I A v1 v2 v3) (A)) := by
  unfold P_X8_cell_r44 at h
  unfold V_X8_cell_r44 SI_X8_cell_r44
  refine B_X8_cell_r44_0 Ln I A v1 v2 v3  (M_X8_noSheet Ln (zp I 44 0 0) A v1 ) rfl ?_
  refine B_X8_cell_r44_9_s1 Ln (zp I 44 0 0) A v1 v2 v3 (V_X8_noSheet Ln (zp I 44 0 0) A v1)  (fun q4 => ?_) (fun q4 => ?_)
  · try simp only [if_pos q4]
    exact MJ_X8_cell_r44_24 Ln (zp I 44 0 0) A v1 v2 v3 
  · try simp only [if_neg q4]
    have h5 := h.2 q4
    refine B_X8_cell_r44_12 Ln (zp I 44 0 0) A v1 v2 v3  (M_X8_in Ln (zp I 44 0 0) A (Int32.toInt64 v3) 0 2 ) rfl ?_
    refine B_X8_cell_r44_21_s1 Ln (zp I 44 0 0) A v1 v2 v3 (V_X8_in Ln (zp I 44 0 0) A (Int32.toInt64 v3) 0 2)  (fun q10 => ?_) (fun q10 => ?_)
    · try simp only [if_pos q10]
      have h11 := h5.1 q10
      obtain ⟨g12_0, r13_⟩ := h11
      refine B_X8_cell_r44_28 Ln (zp I 44 0 0) A v1 v2 v3 g12_0 (fun q14 => ?_) (fun q14 => ?_)
      · try simp only [if_pos q14]
        have h15 := r13_.1 q14
        exact MJ_X8_cell_r44_53 Ln (zp I 44 0 0) A v1 v2 v3 h15
      · try simp only [if_neg q14]
        have h16 := r13_.2 q14
        obtain ⟨g17_0, r18_⟩ := h16
        refine B_X8_cell_r44_37 Ln (zp I 44 0 0) A v1 v2 v3 g17_0 (fun q19 => ?_) (fun q19 => ?_)
        · try simp only [if_pos q19]
          have h20 := r18_.1 q19
          exact MJ_X8_cell_r44_53 Ln (zp I 44 0 0) A v1 v2 v3 h20
        · try simp only [if_neg q19]
          refine B_X8_cell_r44_47 Ln (zp I 44 0 0) A v1 v2 v3  (M_X8_failedLong_r44 Ln (zp I 44 0 0) A 2 ) rfl ?_
          exact B_X8_cell_r44_52_s1 Ln (SI_X8_failedLong_r44 Ln (zp I 44 0 0) A 2) A v1 v2 v3 (V_X8_failedLong_r44 Ln (zp I 44 0 0) A 2) 
    · try simp only [if_neg q10]
      exact MJ_X8_cell_r44_24 Ln (zp I 44 0 0) A v1 v2 v3 
