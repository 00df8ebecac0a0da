/-! methods, by program (wip/whole/gen_fun.py, gen_loop.py) -/
def LA_X8_bank_r44_114 : Nat → (Ln : Nat) → (I A : Nat → Nat → Int32) → Int32 → Int32 → Int32 → Int32 → Int32 → Int32 → Int32 × (Nat → Nat → Int32) × (Nat → Nat → Int32)
  | 0, Ln, I, A, v1, v2, v3, v4, v5, v6 => (0, I, A)
  | m + 1, Ln, I, A, v1, v2, v3, v4, v5, v6 => if (I 44 4) ≤ v6 then ((V_X8_refused_r44 Ln (zp (zp (zp I 44 10 0) 44 20 0) 44 31 0) A (I 44 4)), (SI_X8_refused_r44 Ln (zp (zp (zp I 44 10 0) 44 20 0) 44 31 0) A (I 44 4)), A) else (LA_X8_bank_r44_114 m Ln I (zw (zw (zw (zw (zw A 45 ((v6).toNatClampNeg) (A 50 (v6).toNatClampNeg)) 46 ((v6).toNatClampNeg) (A 51 (v6).toNatClampNeg)) 47 ((v6).toNatClampNeg) (A 52 (v6).toNatClampNeg)) 48 ((v6).toNatClampNeg) (A 53 (v6).toNatClampNeg)) 49 ((v6).toNatClampNeg) (A 51 (v6).toNatClampNeg)) v1 v2 v3 v4 v5 (v6 + 1))
def PLA_X8_bank_r44_114 : Nat → (Ln : Nat) → (I A : Nat → Nat → Int32) → Int32 → Int32 → Int32 → Int32 → Int32 → Int32 → Prop
  | 0, Ln, I, A, v1, v2, v3, v4, v5, v6 => False
  | m + 1, Ln, I, A, v1, v2, v3, v4, v5, v6 => ((I 44 4) ≤ v6 → True) ∧ (¬ ((I 44 4) ≤ v6) → ((zin v6 6 = true) ∧ (zin v6 6 = true) ∧ (zin v6 6 = true) ∧ (zin v6 6 = true) ∧ (zin v6 6 = true) ∧ (zin v6 6 = true) ∧ (zin v6 6 = true) ∧ (zin v6 6 = true) ∧ (zin v6 6 = true) ∧ (zin v6 6 = true) ∧ (PLA_X8_bank_r44_114 m Ln I (zw (zw (zw (zw (zw A 45 ((v6).toNatClampNeg) (A 50 (v6).toNatClampNeg)) 46 ((v6).toNatClampNeg) (A 51 (v6).toNatClampNeg)) 47 ((v6).toNatClampNeg) (A 52 (v6).toNatClampNeg)) 48 ((v6).toNatClampNeg) (A 53 (v6).toNatClampNeg)) 49 ((v6).toNatClampNeg) (A 51 (v6).toNatClampNeg)) v1 v2 v3 v4 v5 (v6 + 1))))
set_option maxRecDepth 100000 in
theorem MLA_X8_bank_r44_114 (m Ln : Nat) : ∀ (I A : Nat → Nat → Int32) (v1 : Int32) (v2 : Int32) (v3 : Int32) (v4 : Int32) (v5 : Int32) (v6 : Int32), PLA_X8_bank_r44_114 m Ln I A v1 v2 v3 v4 v5 v6 → zEv 109 114 0 0 [some (.ref 44), some (.int v1), some (.int v2), some (.int v3), some (.int v4), some (.int v5), some (.int v6)] [] (zGs Ln I A) (some (.int (LA_X8_bank_r44_114 m Ln I A v1 v2 v3 v4 v5 v6).1), zGs Ln (LA_X8_bank_r44_114 m Ln I A v1 v2 v3 v4 v5 v6).2.1 (LA_X8_bank_r44_114 m Ln I A v1 v2 v3 v4 v5 v6).2.2) := by
  induction m with
  | zero => intro I A v1 v2 v3 v4 v5 v6 h; exact h.elim
  | succ m ih =>
    intro I A v1 v2 v3 v4 v5 v6 h
    simp only [PLA_X8_bank_r44_114] at h
    simp only [LA_X8_bank_r44_114]
    refine B_X8_bank_r44_114 Ln I A v1 v2 v3 v4 v5 v6  (fun q2 => ?_) (fun q2 => ?_)
    · try simp only [if_pos q2]
      refine B_X8_bank_r44_199 Ln I A v1 v2 v3 v4 v5 v6  (M_X8_refused_r44 Ln (zp (zp (zp I 44 10 0) 44 20 0) 44 31 0) A (I 44 4) ) rfl ?_
      exact B_X8_bank_r44_222_s1 Ln (SI_X8_refused_r44 Ln (zp (zp (zp I 44 10 0) 44 20 0) 44 31 0) A (I 44 4)) A v1 v2 v3 v4 v5 v6 (V_X8_refused_r44 Ln (zp (zp (zp I 44 10 0) 44 20 0) 44 31 0) A (I 44 4)) 
    · try simp only [if_neg q2]
      have h3 := h.2 q2
      obtain ⟨g4_0, g4_1, g4_2, g4_3, g4_4, g4_5, g4_6, g4_7, g4_8, g4_9, r5_⟩ := h3
      refine B_X8_bank_r44_123 Ln I A v1 v2 v3 v4 v5 v6 g4_0 g4_1 g4_2 g4_3 g4_4 g4_5 g4_6 g4_7 g4_8 g4_9 ?_
      exact ih I (zw (zw (zw (zw (zw A 45 ((v6).toNatClampNeg) (A 50 (v6).toNatClampNeg)) 46 ((v6).toNatClampNeg) (A 51 (v6).toNatClampNeg)) 47 ((v6).toNatClampNeg) (A 52 (v6).toNatClampNeg)) 48 ((v6).toNatClampNeg) (A 53 (v6).toNatClampNeg)) 49 ((v6).toNatClampNeg) (A 51 (v6).toNatClampNeg)) v1 v2 v3 v4 v5 (v6 + 1) r5_
def V_X8_bank_r44 (Ln : Nat) (I A : Nat → Nat → Int32) (v1 : Int32) (v2 : Int32) (v3 : Int32) (v4 : Int32) : Int32 := if (V_X8_noSheet Ln I A v1) = 0 then (if (V_X8_in Ln I A (Int32.toInt64 v2) 0 2) ≠ 0 then (if 0 ≤ (V_X8_cellsBarred_r44 Ln I A v1 v2 v3 (Int32.toInt64 v4)) then (if (V_X8_readsBank_r44 Ln (SI_X8_cellsBarred_r44 Ln I A v1 v2 v3 (Int32.toInt64 v4)) A ((60 * v1) + v3) v4) ≠ 0 then ((LA_X8_bank_r44_114 1000 Ln (zp (zp (zp (zp (SI_X8_readsBank_r44 Ln (SI_X8_cellsBarred_r44 Ln I A v1 v2 v3 (Int32.toInt64 v4)) A ((60 * v1) + v3) v4) 44 1 ((SI_X8_readsBank_r44 Ln (SI_X8_cellsBarred_r44 Ln I A v1 v2 v3 (Int32.toInt64 v4)) A ((60 * v1) + v3) v4) 44 12)) 44 2 ((SI_X8_readsBank_r44 Ln (SI_X8_cellsBarred_r44 Ln I A v1 v2 v3 (Int32.toInt64 v4)) A ((60 * v1) + v3) v4) 44 13)) 44 3 ((SI_X8_readsBank_r44 Ln (SI_X8_cellsBarred_r44 Ln I A v1 v2 v3 (Int32.toInt64 v4)) A ((60 * v1) + v3) v4) 44 14)) 44 4 ((SI_X8_readsBank_r44 Ln (SI_X8_cellsBarred_r44 Ln I A v1 v2 v3 (Int32.toInt64 v4)) A ((60 * v1) + v3) v4) 44 15)) (SA_X8_readsBank_r44 Ln (SI_X8_cellsBarred_r44 Ln I A v1 v2 v3 (Int32.toInt64 v4)) A ((60 * v1) + v3) v4) v1 v2 v3 v4 (V_X8_cellsBarred_r44 Ln I A v1 v2 v3 (Int32.toInt64 v4)) 0).1) else (V_X8_refused_r44 Ln (SI_X8_readsBank_r44 Ln (SI_X8_cellsBarred_r44 Ln I A v1 v2 v3 (Int32.toInt64 v4)) A ((60 * v1) + v3) v4) (SA_X8_readsBank_r44 Ln (SI_X8_cellsBarred_r44 Ln I A v1 v2 v3 (Int32.toInt64 v4)) A ((60 * v1) + v3) v4) (((-100)) - ((SI_X8_readsBank_r44 Ln (SI_X8_cellsBarred_r44 Ln I A v1 v2 v3 (Int32.toInt64 v4)) A ((60 * v1) + v3) v4) 44 11)))) else (V_X8_cellsBarred_r44 Ln I A v1 v2 v3 (Int32.toInt64 v4))) else (V_X8_refused_r44 Ln I A (-2))) else (V_X8_refused_r44 Ln I A (-1))
def SI_X8_bank_r44 (Ln : Nat) (I A : Nat → Nat → Int32) (v1 : Int32) (v2 : Int32) (v3 : Int32) (v4 : Int32) : Nat → Nat → Int32 := if (V_X8_noSheet Ln I A v1) = 0 then (if (V_X8_in Ln I A (Int32.toInt64 v2) 0 2) ≠ 0 then (if 0 ≤ (V_X8_cellsBarred_r44 Ln I A v1 v2 v3 (Int32.toInt64 v4)) then (if (V_X8_readsBank_r44 Ln (SI_X8_cellsBarred_r44 Ln I A v1 v2 v3 (Int32.toInt64 v4)) A ((60 * v1) + v3) v4) ≠ 0 then ((LA_X8_bank_r44_114 1000 Ln (zp (zp (zp (zp (SI_X8_readsBank_r44 Ln (SI_X8_cellsBarred_r44 Ln I A v1 v2 v3 (Int32.toInt64 v4)) A ((60 * v1) + v3) v4) 44 1 ((SI_X8_readsBank_r44 Ln (SI_X8_cellsBarred_r44 Ln I A v1 v2 v3 (Int32.toInt64 v4)) A ((60 * v1) + v3) v4) 44 12)) 44 2 ((SI_X8_readsBank_r44 Ln (SI_X8_cellsBarred_r44 Ln I A v1 v2 v3 (Int32.toInt64 v4)) A ((60 * v1) + v3) v4) 44 13)) 44 3 ((SI_X8_readsBank_r44 Ln (SI_X8_cellsBarred_r44 Ln I A v1 v2 v3 (Int32.toInt64 v4)) A ((60 * v1) + v3) v4) 44 14)) 44 4 ((SI_X8_readsBank_r44 Ln (SI_X8_cellsBarred_r44 Ln I A v1 v2 v3 (Int32.toInt64 v4)) A ((60 * v1) + v3) v4) 44 15)) (SA_X8_readsBank_r44 Ln (SI_X8_cellsBarred_r44 Ln I A v1 v2 v3 (Int32.toInt64 v4)) A ((60 * v1) + v3) v4) v1 v2 v3 v4 (V_X8_cellsBarred_r44 Ln I A v1 v2 v3 (Int32.toInt64 v4)) 0).2.1) else (SI_X8_refused_r44 Ln (SI_X8_readsBank_r44 Ln (SI_X8_cellsBarred_r44 Ln I A v1 v2 v3 (Int32.toInt64 v4)) A ((60 * v1) + v3) v4) (SA_X8_readsBank_r44 Ln (SI_X8_cellsBarred_r44 Ln I A v1 v2 v3 (Int32.toInt64 v4)) A ((60 * v1) + v3) v4) (((-100)) - ((SI_X8_readsBank_r44 Ln (SI_X8_cellsBarred_r44 Ln I A v1 v2 v3 (Int32.toInt64 v4)) A ((60 * v1) + v3) v4) 44 11)))) else (SI_X8_cellsBarred_r44 Ln I A v1 v2 v3 (Int32.toInt64 v4))) else (SI_X8_refused_r44 Ln I A (-2))) else (SI_X8_refused_r44 Ln I A (-1))
def SA_X8_bank_r44 (Ln : Nat) (I A : Nat → Nat → Int32) (v1 : Int32) (v2 : Int32) (v3 : Int32) (v4 : Int32) : Nat → Nat → Int32 := if (V_X8_noSheet Ln I A v1) = 0 then (if (V_X8_in Ln I A (Int32.toInt64 v2) 0 2) ≠ 0 then (if 0 ≤ (V_X8_cellsBarred_r44 Ln I A v1 v2 v3 (Int32.toInt64 v4)) then (if (V_X8_readsBank_r44 Ln (SI_X8_cellsBarred_r44 Ln I A v1 v2 v3 (Int32.toInt64 v4)) A ((60 * v1) + v3) v4) ≠ 0 then ((LA_X8_bank_r44_114 1000 Ln (zp (zp (zp (zp (SI_X8_readsBank_r44 Ln (SI_X8_cellsBarred_r44 Ln I A v1 v2 v3 (Int32.toInt64 v4)) A ((60 * v1) + v3) v4) 44 1 ((SI_X8_readsBank_r44 Ln (SI_X8_cellsBarred_r44 Ln I A v1 v2 v3 (Int32.toInt64 v4)) A ((60 * v1) + v3) v4) 44 12)) 44 2 ((SI_X8_readsBank_r44 Ln (SI_X8_cellsBarred_r44 Ln I A v1 v2 v3 (Int32.toInt64 v4)) A ((60 * v1) + v3) v4) 44 13)) 44 3 ((SI_X8_readsBank_r44 Ln (SI_X8_cellsBarred_r44 Ln I A v1 v2 v3 (Int32.toInt64 v4)) A ((60 * v1) + v3) v4) 44 14)) 44 4 ((SI_X8_readsBank_r44 Ln (SI_X8_cellsBarred_r44 Ln I A v1 v2 v3 (Int32.toInt64 v4)) A ((60 * v1) + v3) v4) 44 15)) (SA_X8_readsBank_r44 Ln (SI_X8_cellsBarred_r44 Ln I A v1 v2 v3 (Int32.toInt64 v4)) A ((60 * v1) + v3) v4) v1 v2 v3 v4 (V_X8_cellsBarred_r44 Ln I A v1 v2 v3 (Int32.toInt64 v4)) 0).2.2) else (SA_X8_readsBank_r44 Ln (SI_X8_cellsBarred_r44 Ln I A v1 v2 v3 (Int32.toInt64 v4)) A ((60 * v1) + v3) v4)) else A) else A) else A
def P_X8_bank_r44 (Ln : Nat) (I A : Nat → Nat → Int32) (v1 : Int32) (v2 : Int32) (v3 : Int32) (v4 : Int32) : Prop := ((V_X8_noSheet Ln I A v1) = 0 → (((V_X8_in Ln I A (Int32.toInt64 v2) 0 2) ≠ 0 → ((P_X8_cellsBarred_r44 Ln I A v1 v2 v3 (Int32.toInt64 v4)) ∧ ((0 ≤ (V_X8_cellsBarred_r44 Ln I A v1 v2 v3 (Int32.toInt64 v4)) → ((P_X8_readsBank_r44 Ln (SI_X8_cellsBarred_r44 Ln I A v1 v2 v3 (Int32.toInt64 v4)) A ((60 * v1) + v3) v4) ∧ (((V_X8_readsBank_r44 Ln (SI_X8_cellsBarred_r44 Ln I A v1 v2 v3 (Int32.toInt64 v4)) A ((60 * v1) + v3) v4) ≠ 0 → (PLA_X8_bank_r44_114 1000 Ln (zp (zp (zp (zp (SI_X8_readsBank_r44 Ln (SI_X8_cellsBarred_r44 Ln I A v1 v2 v3 (Int32.toInt64 v4)) A ((60 * v1) + v3) v4) 44 1 ((SI_X8_readsBank_r44 Ln (SI_X8_cellsBarred_r44 Ln I A v1 v2 v3 (Int32.toInt64 v4)) A ((60 * v1) + v3) v4) 44 12)) 44 2 ((SI_X8_readsBank_r44 Ln (SI_X8_cellsBarred_r44 Ln I A v1 v2 v3 (Int32.toInt64 v4)) A ((60 * v1) + v3) v4) 44 13)) 44 3 ((SI_X8_readsBank_r44 Ln (SI_X8_cellsBarred_r44 Ln I A v1 v2 v3 (Int32.toInt64 v4)) A ((60 * v1) + v3) v4) 44 14)) 44 4 ((SI_X8_readsBank_r44 Ln (SI_X8_cellsBarred_r44 Ln I A v1 v2 v3 (Int32.toInt64 v4)) A ((60 * v1) + v3) v4) 44 15)) (SA_X8_readsBank_r44 Ln (SI_X8_cellsBarred_r44 Ln I A v1 v2 v3 (Int32.toInt64 v4)) A ((60 * v1) + v3) v4) v1 v2 v3 v4 (V_X8_cellsBarred_r44 Ln I A v1 v2 v3 (Int32.toInt64 v4)) 0)) ∧ (¬ ((V_X8_readsBank_r44 Ln (SI_X8_cellsBarred_r44 Ln I A v1 v2 v3 (Int32.toInt64 v4)) A ((60 * v1) + v3) v4) ≠ 0) → True)))) ∧ (¬ (0 ≤ (V_X8_cellsBarred_r44 Ln I A v1 v2 v3 (Int32.toInt64 v4))) → True)))) ∧ (¬ ((V_X8_in Ln I A (Int32.toInt64 v2) 0 2) ≠ 0) → True))) ∧ (¬ ((V_X8_noSheet Ln I A v1) = 0) → True)
set_option maxRecDepth 100000 in
theorem M_X8_bank_r44 (Ln : Nat) (I A : Nat → Nat → Int32) (v1 : Int32) (v2 : Int32) (v3 : Int32) (v4 : Int32) (h : P_X8_bank_r44 Ln I A v1 v2 v3 v4) : zEv 109 0 0 0 [some (.ref 44), some (.int v1), some (.int v2), some (.int v3), some (.int v4), none, none] [] (zGs Ln I A) (some (.int (V_X8_bank_r44 Ln I A v1 v2 v3 v4)), zGs Ln (SI_X8_bank_r44 Ln I A v1 v2 v3 v4) (SA_X8_bank_r44 Ln I A v1 v2 v3 v4)) := by
  unfold P_X8_bank_r44 at h
  unfold V_X8_bank_r44 SI_X8_bank_r44 SA_X8_bank_r44
  refine B_X8_bank_r44_0 Ln I A v1 v2 v3 v4  (M_X8_noSheet Ln I A v1 ) rfl ?_
  refine B_X8_bank_r44_4_s1 Ln I A v1 v2 v3 v4 (V_X8_noSheet Ln I A v1)  (fun q4 => ?_) (fun q4 => ?_)
  · try simp only [if_pos q4]
    have h5 := h.1 q4
    refine B_X8_bank_r44_13 Ln I A v1 v2 v3 v4  (M_X8_in Ln I A (Int32.toInt64 v2) 0 2 ) rfl ?_
    refine B_X8_bank_r44_22_s1 Ln I A v1 v2 v3 v4 (V_X8_in Ln I A (Int32.toInt64 v2) 0 2)  (fun q10 => ?_) (fun q10 => ?_)
    · try simp only [if_pos q10]
      have h11 := h5.1 q10
      obtain ⟨g12_0, r13_⟩ := h11
      refine B_X8_bank_r44_32 Ln I A v1 v2 v3 v4  (M_X8_cellsBarred_r44 Ln I A v1 v2 v3 (Int32.toInt64 v4) g12_0) rfl ?_
      refine B_X8_bank_r44_42_s1 Ln (SI_X8_cellsBarred_r44 Ln I A v1 v2 v3 (Int32.toInt64 v4)) A v1 v2 v3 v4 (V_X8_cellsBarred_r44 Ln I A v1 v2 v3 (Int32.toInt64 v4))  (fun q16 => ?_) (fun q16 => ?_)
      · try simp only [if_pos q16]
        have h17 := r13_.1 q16
        obtain ⟨g18_0, r19_⟩ := h17
        refine B_X8_bank_r44_52 Ln (SI_X8_cellsBarred_r44 Ln I A v1 v2 v3 (Int32.toInt64 v4)) A v1 v2 v3 v4 (V_X8_cellsBarred_r44 Ln I A v1 v2 v3 (Int32.toInt64 v4))  (M_X8_readsBank_r44 Ln (SI_X8_cellsBarred_r44 Ln I A v1 v2 v3 (Int32.toInt64 v4)) A ((60 * v1) + v3) v4 g18_0) rfl ?_
        refine B_X8_bank_r44_64_s1 Ln (SI_X8_readsBank_r44 Ln (SI_X8_cellsBarred_r44 Ln I A v1 v2 v3 (Int32.toInt64 v4)) A ((60 * v1) + v3) v4) (SA_X8_readsBank_r44 Ln (SI_X8_cellsBarred_r44 Ln I A v1 v2 v3 (Int32.toInt64 v4)) A ((60 * v1) + v3) v4) v1 v2 v3 v4 (V_X8_cellsBarred_r44 Ln I A v1 v2 v3 (Int32.toInt64 v4)) (V_X8_readsBank_r44 Ln (SI_X8_cellsBarred_r44 Ln I A v1 v2 v3 (Int32.toInt64 v4)) A ((60 * v1) + v3) v4)  (fun q22 => ?_) (fun q22 => ?_)
        · try simp only [if_pos q22]
          have h23 := r19_.1 q22
          refine B_X8_bank_r44_79 Ln (SI_X8_readsBank_r44 Ln (SI_X8_cellsBarred_r44 Ln I A v1 v2 v3 (Int32.toInt64 v4)) A ((60 * v1) + v3) v4) (SA_X8_readsBank_r44 Ln (SI_X8_cellsBarred_r44 Ln I A v1 v2 v3 (Int32.toInt64 v4)) A ((60 * v1) + v3) v4) v1 v2 v3 v4 (V_X8_cellsBarred_r44 Ln I A v1 v2 v3 (Int32.toInt64 v4))  ?_
          exact MLA_X8_bank_r44_114 1000 Ln (zp (zp (zp (zp (SI_X8_readsBank_r44 Ln (SI_X8_cellsBarred_r44 Ln I A v1 v2 v3 (Int32.toInt64 v4)) A ((60 * v1) + v3) v4) 44 1 ((SI_X8_readsBank_r44 Ln (SI_X8_cellsBarred_r44 Ln I A v1 v2 v3 (Int32.toInt64 v4)) A ((60 * v1) + v3) v4) 44 12)) 44 2 ((SI_X8_readsBank_r44 Ln (SI_X8_cellsBarred_r44 Ln I A v1 v2 v3 (Int32.toInt64 v4)) A ((60 * v1) + v3) v4) 44 13)) 44 3 ((SI_X8_readsBank_r44 Ln (SI_X8_cellsBarred_r44 Ln I A v1 v2 v3 (Int32.toInt64 v4)) A ((60 * v1) + v3) v4) 44 14)) 44 4 ((SI_X8_readsBank_r44 Ln (SI_X8_cellsBarred_r44 Ln I A v1 v2 v3 (Int32.toInt64 v4)) A ((60 * v1) + v3) v4) 44 15)) (SA_X8_readsBank_r44 Ln (SI_X8_cellsBarred_r44 Ln I A v1 v2 v3 (Int32.toInt64 v4)) A ((60 * v1) + v3) v4) v1 v2 v3 v4 (V_X8_cellsBarred_r44 Ln I A v1 v2 v3 (Int32.toInt64 v4)) 0 h23
        · try simp only [if_neg q22]
          refine B_X8_bank_r44_67 Ln (SI_X8_readsBank_r44 Ln (SI_X8_cellsBarred_r44 Ln I A v1 v2 v3 (Int32.toInt64 v4)) A ((60 * v1) + v3) v4) (SA_X8_readsBank_r44 Ln (SI_X8_cellsBarred_r44 Ln I A v1 v2 v3 (Int32.toInt64 v4)) A ((60 * v1) + v3) v4) v1 v2 v3 v4 (V_X8_cellsBarred_r44 Ln I A v1 v2 v3 (Int32.toInt64 v4))  (M_X8_refused_r44 Ln (SI_X8_readsBank_r44 Ln (SI_X8_cellsBarred_r44 Ln I A v1 v2 v3 (Int32.toInt64 v4)) A ((60 * v1) + v3) v4) (SA_X8_readsBank_r44 Ln (SI_X8_cellsBarred_r44 Ln I A v1 v2 v3 (Int32.toInt64 v4)) A ((60 * v1) + v3) v4) (((-100)) - ((SI_X8_readsBank_r44 Ln (SI_X8_cellsBarred_r44 Ln I A v1 v2 v3 (Int32.toInt64 v4)) A ((60 * v1) + v3) v4) 44 11)) ) rfl ?_
          exact B_X8_bank_r44_78_s1 Ln (SI_X8_refused_r44 Ln (SI_X8_readsBank_r44 Ln (SI_X8_cellsBarred_r44 Ln I A v1 v2 v3 (Int32.toInt64 v4)) A ((60 * v1) + v3) v4) (SA_X8_readsBank_r44 Ln (SI_X8_cellsBarred_r44 Ln I A v1 v2 v3 (Int32.toInt64 v4)) A ((60 * v1) + v3) v4) (((-100)) - ((SI_X8_readsBank_r44 Ln (SI_X8_cellsBarred_r44 Ln I A v1 v2 v3 (Int32.toInt64 v4)) A ((60 * v1) + v3) v4) 44 11))) (SA_X8_readsBank_r44 Ln (SI_X8_cellsBarred_r44 Ln I A v1 v2 v3 (Int32.toInt64 v4)) A ((60 * v1) + v3) v4) v1 v2 v3 v4 (V_X8_cellsBarred_r44 Ln I A v1 v2 v3 (Int32.toInt64 v4)) (V_X8_refused_r44 Ln (SI_X8_readsBank_r44 Ln (SI_X8_cellsBarred_r44 Ln I A v1 v2 v3 (Int32.toInt64 v4)) A ((60 * v1) + v3) v4) (SA_X8_readsBank_r44 Ln (SI_X8_cellsBarred_r44 Ln I A v1 v2 v3 (Int32.toInt64 v4)) A ((60 * v1) + v3) v4) (((-100)) - ((SI_X8_readsBank_r44 Ln (SI_X8_cellsBarred_r44 Ln I A v1 v2 v3 (Int32.toInt64 v4)) A ((60 * v1) + v3) v4) 44 11))) 
      · try simp only [if_neg q16]
        exact B_X8_bank_r44_49 Ln (SI_X8_cellsBarred_r44 Ln I A v1 v2 v3 (Int32.toInt64 v4)) A v1 v2 v3 v4 (V_X8_cellsBarred_r44 Ln I A v1 v2 v3 (Int32.toInt64 v4)) 
    · try simp only [if_neg q10]
      refine B_X8_bank_r44_25 Ln I A v1 v2 v3 v4  (M_X8_refused_r44 Ln I A (-2) ) rfl ?_
      exact B_X8_bank_r44_31_s1 Ln (SI_X8_refused_r44 Ln I A (-2)) A v1 v2 v3 v4 (V_X8_refused_r44 Ln I A (-2)) 
  · try simp only [if_neg q4]
    refine B_X8_bank_r44_7 Ln I A v1 v2 v3 v4  (M_X8_refused_r44 Ln I A (-1) ) rfl ?_
    exact B_X8_bank_r44_12_s1 Ln (SI_X8_refused_r44 Ln I A (-1)) A v1 v2 v3 v4 (V_X8_refused_r44 Ln I A (-1)) 
def LA_X8_crossings_r44_136 : Nat → (Ln : Nat) → (I A : Nat → Nat → Int32) → Int32 → Int32 → Int32 → Int32 → Int32 → Int32 → Int32 → (Option Int32) → Int32 × (Nat → Nat → Int32)
  | 0, Ln, I, A, v1, v2, v3, v4, v5, v6, v7, j8 => (0, I)
  | m + 1, Ln, I, A, v1, v2, v3, v4, v5, v6, v7, j8 => if v4 ≤ v7 then ((V_X8_refused_r44 Ln I A (-9)), (SI_X8_refused_r44 Ln I A (-9))) else (if ((A 67 (((60 * v1) + v3) + v7).toNatClampNeg) &&& v6) ≠ 0 then ((V_X8_refused_r44 Ln I A v7), (SI_X8_refused_r44 Ln I A v7)) else (if ((A 67 (((60 * v1) + v3) + v7).toNatClampNeg) &&& ((V_X8_cameBy_r44 Ln I A v7) ^^^ ((-1)))) ≠ 0 then ((V_X8_refused_r44 Ln I A v7), (SI_X8_refused_r44 Ln I A v7)) else (if (V_X8_mayCross_r44 Ln I A (A 67 (((60 * v1) + v3) + v7).toNatClampNeg)) ≠ 0 then (LA_X8_crossings_r44_136 m Ln I A v1 v2 v3 v4 v5 (v6 ||| (A 67 (((60 * v1) + v3) + v7).toNatClampNeg)) (v7 + 1) (some (A 67 (((60 * v1) + v3) + v7).toNatClampNeg))) else ((V_X8_refused_r44 Ln I A v7), (SI_X8_refused_r44 Ln I A v7)))))
def PLA_X8_crossings_r44_136 : Nat → (Ln : Nat) → (I A : Nat → Nat → Int32) → Int32 → Int32 → Int32 → Int32 → Int32 → Int32 → Int32 → (Option Int32) → Prop
  | 0, Ln, I, A, v1, v2, v3, v4, v5, v6, v7, j8 => False
  | m + 1, Ln, I, A, v1, v2, v3, v4, v5, v6, v7, j8 => (v4 ≤ v7 → True) ∧ (¬ (v4 ≤ v7) → ((zin (((60 * v1) + v3) + v7) 240 = true) ∧ ((((A 67 (((60 * v1) + v3) + v7).toNatClampNeg) &&& v6) ≠ 0 → True) ∧ (¬ (((A 67 (((60 * v1) + v3) + v7).toNatClampNeg) &&& v6) ≠ 0) → ((P_X8_cameBy_r44 Ln I A v7) ∧ ((((A 67 (((60 * v1) + v3) + v7).toNatClampNeg) &&& ((V_X8_cameBy_r44 Ln I A v7) ^^^ ((-1)))) ≠ 0 → True) ∧ (¬ (((A 67 (((60 * v1) + v3) + v7).toNatClampNeg) &&& ((V_X8_cameBy_r44 Ln I A v7) ^^^ ((-1)))) ≠ 0) → ((P_X8_mayCross_r44 Ln I A (A 67 (((60 * v1) + v3) + v7).toNatClampNeg)) ∧ (((V_X8_mayCross_r44 Ln I A (A 67 (((60 * v1) + v3) + v7).toNatClampNeg)) ≠ 0 → (PLA_X8_crossings_r44_136 m Ln I A v1 v2 v3 v4 v5 (v6 ||| (A 67 (((60 * v1) + v3) + v7).toNatClampNeg)) (v7 + 1) (some (A 67 (((60 * v1) + v3) + v7).toNatClampNeg)))) ∧ (¬ ((V_X8_mayCross_r44 Ln I A (A 67 (((60 * v1) + v3) + v7).toNatClampNeg)) ≠ 0) → True))))))))))
set_option maxRecDepth 100000 in
theorem MLA_X8_crossings_r44_136 (m Ln : Nat) : ∀ (I A : Nat → Nat → Int32) (v1 : Int32) (v2 : Int32) (v3 : Int32) (v4 : Int32) (v5 : Int32) (v6 : Int32) (v7 : Int32) (j8 : Option Int32), PLA_X8_crossings_r44_136 m Ln I A v1 v2 v3 v4 v5 v6 v7 j8 → zEv 137 136 0 0 [some (.ref 44), some (.int v1), some (.int v2), some (.int v3), some (.int v4), some (.int v5), some (.int v6), some (.int v7), (Option.map Value.int j8)] [] (zGs Ln I A) (some (.int (LA_X8_crossings_r44_136 m Ln I A v1 v2 v3 v4 v5 v6 v7 j8).1), zGs Ln (LA_X8_crossings_r44_136 m Ln I A v1 v2 v3 v4 v5 v6 v7 j8).2 A) := by
  induction m with
  | zero => intro I A v1 v2 v3 v4 v5 v6 v7 j8 h; exact h.elim
  | succ m ih =>
    intro I A v1 v2 v3 v4 v5 v6 v7 j8 h
    simp only [PLA_X8_crossings_r44_136] at h
    simp only [LA_X8_crossings_r44_136]
    refine B_X8_crossings_r44_136 Ln I A v1 v2 v3 v4 v5 v6 v7 j8  (fun q2 => ?_) (fun q2 => ?_)
    · try simp only [if_pos q2]
      refine B_X8_crossings_r44_210 Ln I A v1 v2 v3 v4 v5 v6 v7 j8  (M_X8_refused_r44 Ln I A (-9) ) rfl ?_
      exact B_X8_crossings_r44_216_s1 Ln (SI_X8_refused_r44 Ln I A (-9)) A v1 v2 v3 v4 v5 v6 v7 j8 (V_X8_refused_r44 Ln I A (-9)) 
    · try simp only [if_neg q2]
      have h3 := h.2 q2
      obtain ⟨g4_0, r5_⟩ := h3
      refine B_X8_crossings_r44_143 Ln I A v1 v2 v3 v4 v5 v6 v7 j8 g4_0 (fun q6 => ?_) (fun q6 => ?_)
      · try simp only [if_pos q6]
        refine B_X8_crossings_r44_190 Ln I A v1 v2 v3 v4 v5 v6 v7 (A 67 (((60 * v1) + v3) + v7).toNatClampNeg)  (M_X8_refused_r44 Ln I A v7 ) rfl ?_
        exact B_X8_crossings_r44_196_s1 Ln (SI_X8_refused_r44 Ln I A v7) A v1 v2 v3 v4 v5 v6 v7 (A 67 (((60 * v1) + v3) + v7).toNatClampNeg) (V_X8_refused_r44 Ln I A v7) 
      · try simp only [if_neg q6]
        have h7 := r5_.2 q6
        obtain ⟨g8_0, r9_⟩ := h7
        refine B_X8_crossings_r44_167 Ln I A v1 v2 v3 v4 v5 v6 v7 (A 67 (((60 * v1) + v3) + v7).toNatClampNeg)  (M_X8_cameBy_r44 Ln I A v7 g8_0) rfl ?_
        refine B_X8_crossings_r44_175_s2 Ln I A v1 v2 v3 v4 v5 v6 v7 (A 67 (((60 * v1) + v3) + v7).toNatClampNeg) (A 67 (((60 * v1) + v3) + v7).toNatClampNeg) (V_X8_cameBy_r44 Ln I A v7)  (fun q12 => ?_) (fun q12 => ?_)
        · try simp only [if_pos q12]
          refine B_X8_crossings_r44_190 Ln I A v1 v2 v3 v4 v5 v6 v7 (A 67 (((60 * v1) + v3) + v7).toNatClampNeg)  (M_X8_refused_r44 Ln I A v7 ) rfl ?_
          exact B_X8_crossings_r44_196_s1 Ln (SI_X8_refused_r44 Ln I A v7) A v1 v2 v3 v4 v5 v6 v7 (A 67 (((60 * v1) + v3) + v7).toNatClampNeg) (V_X8_refused_r44 Ln I A v7) 
        · try simp only [if_neg q12]
          have h13 := r9_.2 q12
          obtain ⟨g14_0, r15_⟩ := h13
          refine B_X8_crossings_r44_181 Ln I A v1 v2 v3 v4 v5 v6 v7 (A 67 (((60 * v1) + v3) + v7).toNatClampNeg)  (M_X8_mayCross_r44 Ln I A (A 67 (((60 * v1) + v3) + v7).toNatClampNeg) g14_0) rfl ?_
          refine B_X8_crossings_r44_187_s1 Ln I A v1 v2 v3 v4 v5 v6 v7 (A 67 (((60 * v1) + v3) + v7).toNatClampNeg) (V_X8_mayCross_r44 Ln I A (A 67 (((60 * v1) + v3) + v7).toNatClampNeg))  (fun q18 => ?_) (fun q18 => ?_)
          · try simp only [if_pos q18]
            have h19 := r15_.1 q18
            refine B_X8_crossings_r44_197 Ln I A v1 v2 v3 v4 v5 v6 v7 (A 67 (((60 * v1) + v3) + v7).toNatClampNeg)  ?_
            exact ih I A v1 v2 v3 v4 v5 (v6 ||| (A 67 (((60 * v1) + v3) + v7).toNatClampNeg)) (v7 + 1) (some (A 67 (((60 * v1) + v3) + v7).toNatClampNeg)) h19
          · try simp only [if_neg q18]
            refine B_X8_crossings_r44_190 Ln I A v1 v2 v3 v4 v5 v6 v7 (A 67 (((60 * v1) + v3) + v7).toNatClampNeg)  (M_X8_refused_r44 Ln I A v7 ) rfl ?_
            exact B_X8_crossings_r44_196_s1 Ln (SI_X8_refused_r44 Ln I A v7) A v1 v2 v3 v4 v5 v6 v7 (A 67 (((60 * v1) + v3) + v7).toNatClampNeg) (V_X8_refused_r44 Ln I A v7) 
def LA_X8_crossings_r44_83 : Nat → (Ln : Nat) → (I A : Nat → Nat → Int32) → Int32 → Int32 → Int32 → Int32 → Int32 → Int32 → Int32 × (Nat → Nat → Int32)
  | 0, Ln, I, A, v1, v2, v3, v4, v5, v6 => (0, I)
  | m + 1, Ln, I, A, v1, v2, v3, v4, v5, v6 => if v4 ≤ v6 then (LA_X8_crossings_r44_136 1000 Ln I A v1 v2 v3 v4 v5 0 0 none) else (if (V_X8_in Ln I A (Int32.toInt64 (A 67 (((60 * v1) + v3) + v6).toNatClampNeg)) 0 (Int32.toInt64 (V_X8_all_r44 Ln I A ))) ≠ 0 then (LA_X8_crossings_r44_83 m Ln I A v1 v2 v3 v4 v5 (v6 + 1)) else ((V_X8_refused_r44 Ln I A (-2)), (SI_X8_refused_r44 Ln I A (-2))))
def PLA_X8_crossings_r44_83 : Nat → (Ln : Nat) → (I A : Nat → Nat → Int32) → Int32 → Int32 → Int32 → Int32 → Int32 → Int32 → Prop
  | 0, Ln, I, A, v1, v2, v3, v4, v5, v6 => False
  | m + 1, Ln, I, A, v1, v2, v3, v4, v5, v6 => (v4 ≤ v6 → (PLA_X8_crossings_r44_136 1000 Ln I A v1 v2 v3 v4 v5 0 0 none)) ∧ (¬ (v4 ≤ v6) → ((zin (((60 * v1) + v3) + v6) 240 = true) ∧ (((V_X8_in Ln I A (Int32.toInt64 (A 67 (((60 * v1) + v3) + v6).toNatClampNeg)) 0 (Int32.toInt64 (V_X8_all_r44 Ln I A ))) ≠ 0 → (PLA_X8_crossings_r44_83 m Ln I A v1 v2 v3 v4 v5 (v6 + 1))) ∧ (¬ ((V_X8_in Ln I A (Int32.toInt64 (A 67 (((60 * v1) + v3) + v6).toNatClampNeg)) 0 (Int32.toInt64 (V_X8_all_r44 Ln I A ))) ≠ 0) → True))))
set_option maxRecDepth 100000 in
theorem MLA_X8_crossings_r44_83 (m Ln : Nat) : ∀ (I A : Nat → Nat → Int32) (v1 : Int32) (v2 : Int32) (v3 : Int32) (v4 : Int32) (v5 : Int32) (v6 : Int32), PLA_X8_crossings_r44_83 m Ln I A v1 v2 v3 v4 v5 v6 → zEv 137 83 0 0 [some (.ref 44), some (.int v1), some (.int v2), some (.int v3), some (.int v4), some (.int v5), some (.int v6), none, none] [] (zGs Ln I A) (some (.int (LA_X8_crossings_r44_83 m Ln I A v1 v2 v3 v4 v5 v6).1), zGs Ln (LA_X8_crossings_r44_83 m Ln I A v1 v2 v3 v4 v5 v6).2 A) := by
  induction m with
  | zero => intro I A v1 v2 v3 v4 v5 v6 h; exact h.elim
  | succ m ih =>
    intro I A v1 v2 v3 v4 v5 v6 h
    simp only [PLA_X8_crossings_r44_83] at h
    simp only [LA_X8_crossings_r44_83]
    refine B_X8_crossings_r44_83 Ln I A v1 v2 v3 v4 v5 v6  (fun q2 => ?_) (fun q2 => ?_)
    · try simp only [if_pos q2]
      have h3 := h.1 q2
      refine B_X8_crossings_r44_130 Ln I A v1 v2 v3 v4 v5 v6  ?_
      exact MLA_X8_crossings_r44_136 1000 Ln I A v1 v2 v3 v4 v5 0 0 none h3
    · try simp only [if_neg q2]
      have h6 := h.2 q2
      obtain ⟨g7_0, r8_⟩ := h6
      refine B_X8_crossings_r44_90 Ln I A v1 v2 v3 v4 v5 v6 g7_0 (M_X8_all_r44 Ln I A  ) rfl ?_
      refine B_X8_crossings_r44_110_s3 Ln I A v1 v2 v3 v4 v5 v6 (Int32.toInt64 (A 67 (((60 * v1) + v3) + v6).toNatClampNeg)) 0 (V_X8_all_r44 Ln I A )  (M_X8_in Ln I A (Int32.toInt64 (A 67 (((60 * v1) + v3) + v6).toNatClampNeg)) 0 (Int32.toInt64 (V_X8_all_r44 Ln I A )) ) rfl ?_
      refine B_X8_crossings_r44_114_s1 Ln I A v1 v2 v3 v4 v5 v6 (V_X8_in Ln I A (Int32.toInt64 (A 67 (((60 * v1) + v3) + v6).toNatClampNeg)) 0 (Int32.toInt64 (V_X8_all_r44 Ln I A )))  (fun q13 => ?_) (fun q13 => ?_)
      · try simp only [if_pos q13]
        have h14 := r8_.1 q13
        refine B_X8_crossings_r44_124 Ln I A v1 v2 v3 v4 v5 v6  ?_
        exact ih I A v1 v2 v3 v4 v5 (v6 + 1) h14
      · try simp only [if_neg q13]
        refine B_X8_crossings_r44_117 Ln I A v1 v2 v3 v4 v5 v6  (M_X8_refused_r44 Ln I A (-2) ) rfl ?_
        exact B_X8_crossings_r44_123_s1 Ln (SI_X8_refused_r44 Ln I A (-2)) A v1 v2 v3 v4 v5 v6 (V_X8_refused_r44 Ln I A (-2)) 
def V_X8_crossings_r44 (Ln : Nat) (I A : Nat → Nat → Int32) (v1 : Int32) (v2 : Int32) (v3 : Int32) (v4 : Int32) : Int32 := if (V_X8_noSheet Ln I A v1) = 0 then (if (V_X8_in Ln I A (Int32.toInt64 v2) 0 2) ≠ 0 then (if (I 44 4) ≠ 0 then (if 0 ≤ (V_X8_cellsBarred_r44 Ln I A v1 v2 v3 (Int32.toInt64 v4)) then (if v4 ≤ 20 then ((LA_X8_crossings_r44_83 1000 Ln (SI_X8_cellsBarred_r44 Ln I A v1 v2 v3 (Int32.toInt64 v4)) A v1 v2 v3 v4 (V_X8_cellsBarred_r44 Ln I A v1 v2 v3 (Int32.toInt64 v4)) 0).1) else (V_X8_refused_r44 Ln (SI_X8_cellsBarred_r44 Ln I A v1 v2 v3 (Int32.toInt64 v4)) A (-2))) else (V_X8_cellsBarred_r44 Ln I A v1 v2 v3 (Int32.toInt64 v4))) else (V_X8_refused_r44 Ln I A (-3))) else (V_X8_refused_r44 Ln I A (-2))) else (V_X8_refused_r44 Ln I A (-1))
def SI_X8_crossings_r44 (Ln : Nat) (I A : Nat → Nat → Int32) (v1 : Int32) (v2 : Int32) (v3 : Int32) (v4 : Int32) : Nat → Nat → Int32 := if (V_X8_noSheet Ln I A v1) = 0 then (if (V_X8_in Ln I A (Int32.toInt64 v2) 0 2) ≠ 0 then (if (I 44 4) ≠ 0 then (if 0 ≤ (V_X8_cellsBarred_r44 Ln I A v1 v2 v3 (Int32.toInt64 v4)) then (if v4 ≤ 20 then ((LA_X8_crossings_r44_83 1000 Ln (SI_X8_cellsBarred_r44 Ln I A v1 v2 v3 (Int32.toInt64 v4)) A v1 v2 v3 v4 (V_X8_cellsBarred_r44 Ln I A v1 v2 v3 (Int32.toInt64 v4)) 0).2) else (SI_X8_refused_r44 Ln (SI_X8_cellsBarred_r44 Ln I A v1 v2 v3 (Int32.toInt64 v4)) A (-2))) else (SI_X8_cellsBarred_r44 Ln I A v1 v2 v3 (Int32.toInt64 v4))) else (SI_X8_refused_r44 Ln I A (-3))) else (SI_X8_refused_r44 Ln I A (-2))) else (SI_X8_refused_r44 Ln I A (-1))
def P_X8_crossings_r44 (Ln : Nat) (I A : Nat → Nat → Int32) (v1 : Int32) (v2 : Int32) (v3 : Int32) (v4 : Int32) : Prop := ((V_X8_noSheet Ln I A v1) = 0 → (((V_X8_in Ln I A (Int32.toInt64 v2) 0 2) ≠ 0 → (((I 44 4) ≠ 0 → ((P_X8_cellsBarred_r44 Ln I A v1 v2 v3 (Int32.toInt64 v4)) ∧ ((0 ≤ (V_X8_cellsBarred_r44 Ln I A v1 v2 v3 (Int32.toInt64 v4)) → ((v4 ≤ 20 → (PLA_X8_crossings_r44_83 1000 Ln (SI_X8_cellsBarred_r44 Ln I A v1 v2 v3 (Int32.toInt64 v4)) A v1 v2 v3 v4 (V_X8_cellsBarred_r44 Ln I A v1 v2 v3 (Int32.toInt64 v4)) 0)) ∧ (¬ (v4 ≤ 20) → True))) ∧ (¬ (0 ≤ (V_X8_cellsBarred_r44 Ln I A v1 v2 v3 (Int32.toInt64 v4))) → True)))) ∧ (¬ ((I 44 4) ≠ 0) → True))) ∧ (¬ ((V_X8_in Ln I A (Int32.toInt64 v2) 0 2) ≠ 0) → True))) ∧ (¬ ((V_X8_noSheet Ln I A v1) = 0) → True)
set_option maxRecDepth 100000 in
theorem M_X8_crossings_r44 (Ln : Nat) (I A : Nat → Nat → Int32) (v1 : Int32) (v2 : Int32) (v3 : Int32) (v4 : Int32) (h : P_X8_crossings_r44 Ln I A v1 v2 v3 v4) : zEv 137 0 0 0 [some (.ref 44), some (.int v1), some (.int v2), some (.int v3), some (.int v4), none, none, none, none] [] (zGs Ln I A) (some (.int (V_X8_crossings_r44 Ln I A v1 v2 v3 v4)), zGs Ln (SI_X8_crossings_r44 Ln I A v1 v2 v3 v4) (A)) := by
  unfold P_X8_crossings_r44 at h
  unfold V_X8_crossings_r44 SI_X8_crossings_r44
  refine B_X8_crossings_r44_0 Ln I A v1 v2 v3 v4  (M_X8_noSheet Ln I A v1 ) rfl ?_
  refine B_X8_crossings_r44_4_s1 Ln I A v1 v2 v3 v4 (V_X8_noSheet Ln I A v1)  (fun q4 => ?_) (fun q4 => ?_)
  · try simp only [if_pos q4]
    have h5 := h.1 q4
    refine B_X8_crossings_r44_13 Ln I A v1 v2 v3 v4  (M_X8_in Ln I A (Int32.toInt64 v2) 0 2 ) rfl ?_
    refine B_X8_crossings_r44_22_s1 Ln I A v1 v2 v3 v4 (V_X8_in Ln I A (Int32.toInt64 v2) 0 2)  (fun q10 => ?_) (fun q10 => ?_)
    · try simp only [if_pos q10]
      have h11 := h5.1 q10
      refine B_X8_crossings_r44_32 Ln I A v1 v2 v3 v4  (fun q14 => ?_) (fun q14 => ?_)
      · try simp only [if_pos q14]
        have h15 := h11.1 q14
        obtain ⟨g16_0, r17_⟩ := h15
        refine B_X8_crossings_r44_46 Ln I A v1 v2 v3 v4  (M_X8_cellsBarred_r44 Ln I A v1 v2 v3 (Int32.toInt64 v4) g16_0) rfl ?_
        refine B_X8_crossings_r44_56_s1 Ln (SI_X8_cellsBarred_r44 Ln I A v1 v2 v3 (Int32.toInt64 v4)) A v1 v2 v3 v4 (V_X8_cellsBarred_r44 Ln I A v1 v2 v3 (Int32.toInt64 v4))  (fun q20 => ?_) (fun q20 => ?_)
        · try simp only [if_pos q20]
          have h21 := r17_.1 q20
          refine B_X8_crossings_r44_66 Ln (SI_X8_cellsBarred_r44 Ln I A v1 v2 v3 (Int32.toInt64 v4)) A v1 v2 v3 v4 (V_X8_cellsBarred_r44 Ln I A v1 v2 v3 (Int32.toInt64 v4))  (fun q24 => ?_) (fun q24 => ?_)
          · try simp only [if_pos q24]
            have h25 := h21.1 q24
            refine B_X8_crossings_r44_80 Ln (SI_X8_cellsBarred_r44 Ln I A v1 v2 v3 (Int32.toInt64 v4)) A v1 v2 v3 v4 (V_X8_cellsBarred_r44 Ln I A v1 v2 v3 (Int32.toInt64 v4))  ?_
            exact MLA_X8_crossings_r44_83 1000 Ln (SI_X8_cellsBarred_r44 Ln I A v1 v2 v3 (Int32.toInt64 v4)) A v1 v2 v3 v4 (V_X8_cellsBarred_r44 Ln I A v1 v2 v3 (Int32.toInt64 v4)) 0 h25
          · try simp only [if_neg q24]
            refine B_X8_crossings_r44_73 Ln (SI_X8_cellsBarred_r44 Ln I A v1 v2 v3 (Int32.toInt64 v4)) A v1 v2 v3 v4 (V_X8_cellsBarred_r44 Ln I A v1 v2 v3 (Int32.toInt64 v4))  (M_X8_refused_r44 Ln (SI_X8_cellsBarred_r44 Ln I A v1 v2 v3 (Int32.toInt64 v4)) A (-2) ) rfl ?_
            exact B_X8_crossings_r44_79_s1 Ln (SI_X8_refused_r44 Ln (SI_X8_cellsBarred_r44 Ln I A v1 v2 v3 (Int32.toInt64 v4)) A (-2)) A v1 v2 v3 v4 (V_X8_cellsBarred_r44 Ln I A v1 v2 v3 (Int32.toInt64 v4)) (V_X8_refused_r44 Ln (SI_X8_cellsBarred_r44 Ln I A v1 v2 v3 (Int32.toInt64 v4)) A (-2)) 
        · try simp only [if_neg q20]
          exact B_X8_crossings_r44_63 Ln (SI_X8_cellsBarred_r44 Ln I A v1 v2 v3 (Int32.toInt64 v4)) A v1 v2 v3 v4 (V_X8_cellsBarred_r44 Ln I A v1 v2 v3 (Int32.toInt64 v4)) 
      · try simp only [if_neg q14]
        refine B_X8_crossings_r44_39 Ln I A v1 v2 v3 v4  (M_X8_refused_r44 Ln I A (-3) ) rfl ?_
        exact B_X8_crossings_r44_45_s1 Ln (SI_X8_refused_r44 Ln I A (-3)) A v1 v2 v3 v4 (V_X8_refused_r44 Ln I A (-3)) 
    · try simp only [if_neg q10]
      refine B_X8_crossings_r44_25 Ln I A v1 v2 v3 v4  (M_X8_refused_r44 Ln I A (-2) ) rfl ?_
      exact B_X8_crossings_r44_31_s1 Ln (SI_X8_refused_r44 Ln I A (-2)) A v1 v2 v3 v4 (V_X8_refused_r44 Ln I A (-2)) 
  · try simp only [if_neg q4]
    refine B_X8_crossings_r44_7 Ln I A v1 v2 v3 v4  (M_X8_refused_r44 Ln I A (-1) ) rfl ?_
    exact B_X8_crossings_r44_12_s1 Ln (SI_X8_refused_r44 Ln I A (-1)) A v1 v2 v3 v4 (V_X8_refused_r44 Ln I A (-1)) 
def V_X7_sheet_r1_c0 (Ln : Nat) (I A : Nat → Nat → Int32) (v2 : Int32) (v3 : Int32) : Int32 := if (V_X7_isSheet Ln I A 0) ≠ 0 then (if (V_X7_isLane Ln I A v2) = 0 then (V_X7_faultless_r1 Ln I A (-2)) else (if v3 ≤ 60 then (if 0 ≤ v3 then (V_X7_faultless_r1 Ln (SI_X4_renew_r3 Ln I A v2 v3) (SA_X4_renew_r3 Ln I A v2 v3) 1) else (V_X7_faulted_r1 Ln I A 4)) else (V_X7_faultless_r1 Ln I A (-2)))) else (V_X7_faultless_r1 Ln I A (-1))
def SI_X7_sheet_r1_c0 (Ln : Nat) (I A : Nat → Nat → Int32) (v2 : Int32) (v3 : Int32) : Nat → Nat → Int32 := if (V_X7_isSheet Ln I A 0) ≠ 0 then (if (V_X7_isLane Ln I A v2) = 0 then (SI_X7_faultless_r1 Ln I A (-2)) else (if v3 ≤ 60 then (if 0 ≤ v3 then (SI_X7_faultless_r1 Ln (SI_X4_renew_r3 Ln I A v2 v3) (SA_X4_renew_r3 Ln I A v2 v3) 1) else (SI_X7_faulted_r1 Ln I A 4)) else (SI_X7_faultless_r1 Ln I A (-2)))) else (SI_X7_faultless_r1 Ln I A (-1))
def SA_X7_sheet_r1_c0 (Ln : Nat) (I A : Nat → Nat → Int32) (v2 : Int32) (v3 : Int32) : Nat → Nat → Int32 := if (V_X7_isSheet Ln I A 0) ≠ 0 then (if (V_X7_isLane Ln I A v2) = 0 then A else (if v3 ≤ 60 then (if 0 ≤ v3 then (SA_X4_renew_r3 Ln I A v2 v3) else A) else A)) else A
def P_X7_sheet_r1_c0 (Ln : Nat) (I A : Nat → Nat → Int32) (v2 : Int32) (v3 : Int32) : Prop := ((V_X7_isSheet Ln I A 0) ≠ 0 → (((V_X7_isLane Ln I A v2) = 0 → True) ∧ (¬ ((V_X7_isLane Ln I A v2) = 0) → ((v3 ≤ 60 → ((0 ≤ v3 → (P_X4_renew_r3 Ln I A v2 v3)) ∧ (¬ (0 ≤ v3) → True))) ∧ (¬ (v3 ≤ 60) → True))))) ∧ (¬ ((V_X7_isSheet Ln I A 0) ≠ 0) → True)
set_option maxRecDepth 100000 in
theorem M_X7_sheet_r1_c0 (Ln : Nat) (I A : Nat → Nat → Int32) (v2 : Int32) (v3 : Int32) (h : P_X7_sheet_r1_c0 Ln I A v2 v3) : zEv 66 0 0 0 [some (.ref 1), some (.int 0), some (.int v2), some (.int v3)] [] (zGs Ln I A) (some (.int (V_X7_sheet_r1_c0 Ln I A v2 v3)), zGs Ln (SI_X7_sheet_r1_c0 Ln I A v2 v3) (SA_X7_sheet_r1_c0 Ln I A v2 v3)) := by
  unfold P_X7_sheet_r1_c0 at h
  unfold V_X7_sheet_r1_c0 SI_X7_sheet_r1_c0 SA_X7_sheet_r1_c0
  refine B_X7_sheet_r1_c0_0 Ln I A v2 v3  (M_X7_isSheet Ln I A 0 ) rfl ?_
  refine B_X7_sheet_r1_c0_4_s1 Ln I A v2 v3 (V_X7_isSheet Ln I A 0)  (fun q4 => ?_) (fun q4 => ?_)
  · try simp only [if_pos q4]
    have h5 := h.1 q4
    refine B_X7_sheet_r1_c0_13 Ln I A v2 v3  (M_X7_isLane Ln I A v2 ) rfl ?_
    refine B_X7_sheet_r1_c0_17_s1 Ln I A v2 v3 (V_X7_isLane Ln I A v2)  (fun q10 => ?_) (fun q10 => ?_)
    · try simp only [if_pos q10]
      refine B_X7_sheet_r1_c0_26 Ln I A v2 v3  (M_X7_faultless_r1 Ln I A (-2) ) rfl ?_
      exact B_X7_sheet_r1_c0_32_s1 Ln (SI_X7_faultless_r1 Ln I A (-2)) A v2 v3 (V_X7_faultless_r1 Ln I A (-2)) 
    · try simp only [if_neg q10]
      have h11 := h5.2 q10
      refine B_X7_sheet_r1_c0_20 Ln I A v2 v3  (fun q14 => ?_) (fun q14 => ?_)
      · try simp only [if_pos q14]
        have h15 := h11.1 q14
        refine B_X7_sheet_r1_c0_33 Ln I A v2 v3  (fun q18 => ?_) (fun q18 => ?_)
        · try simp only [if_pos q18]
          have h19 := h15.1 q18
          refine B_X7_sheet_r1_c0_43 Ln I A v2 v3  (M_X4_renew_r3 Ln I A v2 v3 h19) rfl ?_
          refine B_X7_sheet_r1_c0_54 Ln (SI_X4_renew_r3 Ln I A v2 v3) (SA_X4_renew_r3 Ln I A v2 v3) v2 v3  (M_X7_faultless_r1 Ln (SI_X4_renew_r3 Ln I A v2 v3) (SA_X4_renew_r3 Ln I A v2 v3) 1 ) rfl ?_
          exact B_X7_sheet_r1_c0_59_s1 Ln (SI_X7_faultless_r1 Ln (SI_X4_renew_r3 Ln I A v2 v3) (SA_X4_renew_r3 Ln I A v2 v3) 1) (SA_X4_renew_r3 Ln I A v2 v3) v2 v3 (V_X7_faultless_r1 Ln (SI_X4_renew_r3 Ln I A v2 v3) (SA_X4_renew_r3 Ln I A v2 v3) 1) 
        · try simp only [if_neg q18]
          refine B_X7_sheet_r1_c0_37 Ln I A v2 v3  (M_X7_faulted_r1 Ln I A 4 ) rfl ?_
          exact B_X7_sheet_r1_c0_42_s1 Ln (SI_X7_faulted_r1 Ln I A 4) A v2 v3 (V_X7_faulted_r1 Ln I A 4) 
      · try simp only [if_neg q14]
        refine B_X7_sheet_r1_c0_26 Ln I A v2 v3  (M_X7_faultless_r1 Ln I A (-2) ) rfl ?_
        exact B_X7_sheet_r1_c0_32_s1 Ln (SI_X7_faultless_r1 Ln I A (-2)) A v2 v3 (V_X7_faultless_r1 Ln I A (-2)) 
  · try simp only [if_neg q4]
    refine B_X7_sheet_r1_c0_7 Ln I A v2 v3  (M_X7_faultless_r1 Ln I A (-1) ) rfl ?_
    exact B_X7_sheet_r1_c0_12_s1 Ln (SI_X7_faultless_r1 Ln I A (-1)) A v2 v3 (V_X7_faultless_r1 Ln I A (-1)) 
def V_X7_sheet_r1_c1 (Ln : Nat) (I A : Nat → Nat → Int32) (v2 : Int32) (v3 : Int32) : Int32 := if (V_X7_isSheet Ln I A 1) ≠ 0 then (if (V_X7_isLane Ln I A v2) = 0 then (V_X7_faultless_r1 Ln I A (-2)) else (if v3 ≤ 60 then (if 0 ≤ v3 then (V_X7_faultless_r1 Ln (SI_X4_renew_r5 Ln I A v2 v3) (SA_X4_renew_r5 Ln I A v2 v3) 1) else (V_X7_faulted_r1 Ln I A 4)) else (V_X7_faultless_r1 Ln I A (-2)))) else (V_X7_faultless_r1 Ln I A (-1))
def SI_X7_sheet_r1_c1 (Ln : Nat) (I A : Nat → Nat → Int32) (v2 : Int32) (v3 : Int32) : Nat → Nat → Int32 := if (V_X7_isSheet Ln I A 1) ≠ 0 then (if (V_X7_isLane Ln I A v2) = 0 then (SI_X7_faultless_r1 Ln I A (-2)) else (if v3 ≤ 60 then (if 0 ≤ v3 then (SI_X7_faultless_r1 Ln (SI_X4_renew_r5 Ln I A v2 v3) (SA_X4_renew_r5 Ln I A v2 v3) 1) else (SI_X7_faulted_r1 Ln I A 4)) else (SI_X7_faultless_r1 Ln I A (-2)))) else (SI_X7_faultless_r1 Ln I A (-1))
def SA_X7_sheet_r1_c1 (Ln : Nat) (I A : Nat → Nat → Int32) (v2 : Int32) (v3 : Int32) : Nat → Nat → Int32 := if (V_X7_isSheet Ln I A 1) ≠ 0 then (if (V_X7_isLane Ln I A v2) = 0 then A else (if v3 ≤ 60 then (if 0 ≤ v3 then (SA_X4_renew_r5 Ln I A v2 v3) else A) else A)) else A
def P_X7_sheet_r1_c1 (Ln : Nat) (I A : Nat → Nat → Int32) (v2 : Int32) (v3 : Int32) : Prop := ((V_X7_isSheet Ln I A 1) ≠ 0 → (((V_X7_isLane Ln I A v2) = 0 → True) ∧ (¬ ((V_X7_isLane Ln I A v2) = 0) → ((v3 ≤ 60 → ((0 ≤ v3 → (P_X4_renew_r5 Ln I A v2 v3)) ∧ (¬ (0 ≤ v3) → True))) ∧ (¬ (v3 ≤ 60) → True))))) ∧ (¬ ((V_X7_isSheet Ln I A 1) ≠ 0) → True)
set_option maxRecDepth 100000 in
theorem M_X7_sheet_r1_c1 (Ln : Nat) (I A : Nat → Nat → Int32) (v2 : Int32) (v3 : Int32) (h : P_X7_sheet_r1_c1 Ln I A v2 v3) : zEv 66 0 0 0 [some (.ref 1), some (.int 1), some (.int v2), some (.int v3)] [] (zGs Ln I A) (some (.int (V_X7_sheet_r1_c1 Ln I A v2 v3)), zGs Ln (SI_X7_sheet_r1_c1 Ln I A v2 v3) (SA_X7_sheet_r1_c1 Ln I A v2 v3)) := by
  unfold P_X7_sheet_r1_c1 at h
  unfold V_X7_sheet_r1_c1 SI_X7_sheet_r1_c1 SA_X7_sheet_r1_c1
  refine B_X7_sheet_r1_c1_0 Ln I A v2 v3  (M_X7_isSheet Ln I A 1 ) rfl ?_
  refine B_X7_sheet_r1_c1_4_s1 Ln I A v2 v3 (V_X7_isSheet Ln I A 1)  (fun q4 => ?_) (fun q4 => ?_)
  · try simp only [if_pos q4]
    have h5 := h.1 q4
    refine B_X7_sheet_r1_c1_13 Ln I A v2 v3  (M_X7_isLane Ln I A v2 ) rfl ?_
    refine B_X7_sheet_r1_c1_17_s1 Ln I A v2 v3 (V_X7_isLane Ln I A v2)  (fun q10 => ?_) (fun q10 => ?_)
    · try simp only [if_pos q10]
      refine B_X7_sheet_r1_c1_26 Ln I A v2 v3  (M_X7_faultless_r1 Ln I A (-2) ) rfl ?_
      exact B_X7_sheet_r1_c1_32_s1 Ln (SI_X7_faultless_r1 Ln I A (-2)) A v2 v3 (V_X7_faultless_r1 Ln I A (-2)) 
    · try simp only [if_neg q10]
      have h11 := h5.2 q10
      refine B_X7_sheet_r1_c1_20 Ln I A v2 v3  (fun q14 => ?_) (fun q14 => ?_)
      · try simp only [if_pos q14]
        have h15 := h11.1 q14
        refine B_X7_sheet_r1_c1_33 Ln I A v2 v3  (fun q18 => ?_) (fun q18 => ?_)
        · try simp only [if_pos q18]
          have h19 := h15.1 q18
          refine B_X7_sheet_r1_c1_43 Ln I A v2 v3  (M_X4_renew_r5 Ln I A v2 v3 h19) rfl ?_
          refine B_X7_sheet_r1_c1_54 Ln (SI_X4_renew_r5 Ln I A v2 v3) (SA_X4_renew_r5 Ln I A v2 v3) v2 v3  (M_X7_faultless_r1 Ln (SI_X4_renew_r5 Ln I A v2 v3) (SA_X4_renew_r5 Ln I A v2 v3) 1 ) rfl ?_
          exact B_X7_sheet_r1_c1_59_s1 Ln (SI_X7_faultless_r1 Ln (SI_X4_renew_r5 Ln I A v2 v3) (SA_X4_renew_r5 Ln I A v2 v3) 1) (SA_X4_renew_r5 Ln I A v2 v3) v2 v3 (V_X7_faultless_r1 Ln (SI_X4_renew_r5 Ln I A v2 v3) (SA_X4_renew_r5 Ln I A v2 v3) 1) 
        · try simp only [if_neg q18]
          refine B_X7_sheet_r1_c1_37 Ln I A v2 v3  (M_X7_faulted_r1 Ln I A 4 ) rfl ?_
          exact B_X7_sheet_r1_c1_42_s1 Ln (SI_X7_faulted_r1 Ln I A 4) A v2 v3 (V_X7_faulted_r1 Ln I A 4) 
      · try simp only [if_neg q14]
        refine B_X7_sheet_r1_c1_26 Ln I A v2 v3  (M_X7_faultless_r1 Ln I A (-2) ) rfl ?_
        exact B_X7_sheet_r1_c1_32_s1 Ln (SI_X7_faultless_r1 Ln I A (-2)) A v2 v3 (V_X7_faultless_r1 Ln I A (-2)) 
  · try simp only [if_neg q4]
    refine B_X7_sheet_r1_c1_7 Ln I A v2 v3  (M_X7_faultless_r1 Ln I A (-1) ) rfl ?_
    exact B_X7_sheet_r1_c1_12_s1 Ln (SI_X7_faultless_r1 Ln I A (-1)) A v2 v3 (V_X7_faultless_r1 Ln I A (-1)) 
def V_X7_sheet_r1_c2 (Ln : Nat) (I A : Nat → Nat → Int32) (v2 : Int32) (v3 : Int32) : Int32 := if (V_X7_isSheet Ln I A 2) ≠ 0 then (if (V_X7_isLane Ln I A v2) = 0 then (V_X7_faultless_r1 Ln I A (-2)) else (if v3 ≤ 60 then (if 0 ≤ v3 then (V_X7_faultless_r1 Ln (SI_X4_renew_r7 Ln I A v2 v3) (SA_X4_renew_r7 Ln I A v2 v3) 1) else (V_X7_faulted_r1 Ln I A 4)) else (V_X7_faultless_r1 Ln I A (-2)))) else (V_X7_faultless_r1 Ln I A (-1))
def SI_X7_sheet_r1_c2 (Ln : Nat) (I A : Nat → Nat → Int32) (v2 : Int32) (v3 : Int32) : Nat → Nat → Int32 := if (V_X7_isSheet Ln I A 2) ≠ 0 then (if (V_X7_isLane Ln I A v2) = 0 then (SI_X7_faultless_r1 Ln I A (-2)) else (if v3 ≤ 60 then (if 0 ≤ v3 then (SI_X7_faultless_r1 Ln (SI_X4_renew_r7 Ln I A v2 v3) (SA_X4_renew_r7 Ln I A v2 v3) 1) else (SI_X7_faulted_r1 Ln I A 4)) else (SI_X7_faultless_r1 Ln I A (-2)))) else (SI_X7_faultless_r1 Ln I A (-1))
def SA_X7_sheet_r1_c2 (Ln : Nat) (I A : Nat → Nat → Int32) (v2 : Int32) (v3 : Int32) : Nat → Nat → Int32 := if (V_X7_isSheet Ln I A 2) ≠ 0 then (if (V_X7_isLane Ln I A v2) = 0 then A else (if v3 ≤ 60 then (if 0 ≤ v3 then (SA_X4_renew_r7 Ln I A v2 v3) else A) else A)) else A
def P_X7_sheet_r1_c2 (Ln : Nat) (I A : Nat → Nat → Int32) (v2 : Int32) (v3 : Int32) : Prop := ((V_X7_isSheet Ln I A 2) ≠ 0 → (((V_X7_isLane Ln I A v2) = 0 → True) ∧ (¬ ((V_X7_isLane Ln I A v2) = 0) → ((v3 ≤ 60 → ((0 ≤ v3 → (P_X4_renew_r7 Ln I A v2 v3)) ∧ (¬ (0 ≤ v3) → True))) ∧ (¬ (v3 ≤ 60) → True))))) ∧ (¬ ((V_X7_isSheet Ln I A 2) ≠ 0) → True)
set_option maxRecDepth 100000 in
theorem M_X7_sheet_r1_c2 (Ln : Nat) (I A : Nat → Nat → Int32) (v2 : Int32) (v3 : Int32) (h : P_X7_sheet_r1_c2 Ln I A v2 v3) : zEv 66 0 0 0 [some (.ref 1), some (.int 2), some (.int v2), some (.int v3)] [] (zGs Ln I A) (some (.int (V_X7_sheet_r1_c2 Ln I A v2 v3)), zGs Ln (SI_X7_sheet_r1_c2 Ln I A v2 v3) (SA_X7_sheet_r1_c2 Ln I A v2 v3)) := by
  unfold P_X7_sheet_r1_c2 at h
  unfold V_X7_sheet_r1_c2 SI_X7_sheet_r1_c2 SA_X7_sheet_r1_c2
  refine B_X7_sheet_r1_c2_0 Ln I A v2 v3  (M_X7_isSheet Ln I A 2 ) rfl ?_
  refine B_X7_sheet_r1_c2_4_s1 Ln I A v2 v3 (V_X7_isSheet Ln I A 2)  (fun q4 => ?_) (fun q4 => ?_)
  · try simp only [if_pos q4]
    have h5 := h.1 q4
    refine B_X7_sheet_r1_c2_13 Ln I A v2 v3  (M_X7_isLane Ln I A v2 ) rfl ?_
    refine B_X7_sheet_r1_c2_17_s1 Ln I A v2 v3 (V_X7_isLane Ln I A v2)  (fun q10 => ?_) (fun q10 => ?_)
    · try simp only [if_pos q10]
      refine B_X7_sheet_r1_c2_26 Ln I A v2 v3  (M_X7_faultless_r1 Ln I A (-2) ) rfl ?_
      exact B_X7_sheet_r1_c2_32_s1 Ln (SI_X7_faultless_r1 Ln I A (-2)) A v2 v3 (V_X7_faultless_r1 Ln I A (-2)) 
    · try simp only [if_neg q10]
      have h11 := h5.2 q10
      refine B_X7_sheet_r1_c2_20 Ln I A v2 v3  (fun q14 => ?_) (fun q14 => ?_)
      · try simp only [if_pos q14]
        have h15 := h11.1 q14
        refine B_X7_sheet_r1_c2_33 Ln I A v2 v3  (fun q18 => ?_) (fun q18 => ?_)
        · try simp only [if_pos q18]
          have h19 := h15.1 q18
          refine B_X7_sheet_r1_c2_43 Ln I A v2 v3  (M_X4_renew_r7 Ln I A v2 v3 h19) rfl ?_
          refine B_X7_sheet_r1_c2_54 Ln (SI_X4_renew_r7 Ln I A v2 v3) (SA_X4_renew_r7 Ln I A v2 v3) v2 v3  (M_X7_faultless_r1 Ln (SI_X4_renew_r7 Ln I A v2 v3) (SA_X4_renew_r7 Ln I A v2 v3) 1 ) rfl ?_
          exact B_X7_sheet_r1_c2_59_s1 Ln (SI_X7_faultless_r1 Ln (SI_X4_renew_r7 Ln I A v2 v3) (SA_X4_renew_r7 Ln I A v2 v3) 1) (SA_X4_renew_r7 Ln I A v2 v3) v2 v3 (V_X7_faultless_r1 Ln (SI_X4_renew_r7 Ln I A v2 v3) (SA_X4_renew_r7 Ln I A v2 v3) 1) 
        · try simp only [if_neg q18]
          refine B_X7_sheet_r1_c2_37 Ln I A v2 v3  (M_X7_faulted_r1 Ln I A 4 ) rfl ?_
          exact B_X7_sheet_r1_c2_42_s1 Ln (SI_X7_faulted_r1 Ln I A 4) A v2 v3 (V_X7_faulted_r1 Ln I A 4) 
      · try simp only [if_neg q14]
        refine B_X7_sheet_r1_c2_26 Ln I A v2 v3  (M_X7_faultless_r1 Ln I A (-2) ) rfl ?_
        exact B_X7_sheet_r1_c2_32_s1 Ln (SI_X7_faultless_r1 Ln I A (-2)) A v2 v3 (V_X7_faultless_r1 Ln I A (-2)) 
  · try simp only [if_neg q4]
    refine B_X7_sheet_r1_c2_7 Ln I A v2 v3  (M_X7_faultless_r1 Ln I A (-1) ) rfl ?_
    exact B_X7_sheet_r1_c2_12_s1 Ln (SI_X7_faultless_r1 Ln I A (-1)) A v2 v3 (V_X7_faultless_r1 Ln I A (-1)) 
