/-! methods, by program (wip/whole/gen_fun.py, gen_loop.py) -/
def LA_X8_gain_r44_34 : Nat → (Ln : Nat) → (I A : Nat → Nat → Int32) → Int32 → Int32 → Int32 → Int32 → (Option Int32) → (Option Int32) → (Option Int32) → Int32 × (Nat → Nat → Int32) × (Nat → Nat → Int32)
  | 0, Ln, I, A, v1, v2, v3, v4, j5, j6, j7 => (0, I, A)
  | m + 1, Ln, I, A, v1, v2, v3, v4, j5, j6, j7 => if ((I 44 4) * (I 44 4)) ≤ v4 then (if v1 ≠ 0 then (v3, I, A) else (v2, I, A)) else (if (v4 / (I 44 4)) = (v4 - v4 / (I 44 4) * (I 44 4)) then (LA_X8_gain_r44_34 m Ln I A v1 v2 v3 (v4 + 1) (some (v4 / (I 44 4))) (some (v4 - v4 / (I 44 4) * (I 44 4))) j7) else (if (A 49 ((v4 / (I 44 4))).toNatClampNeg) ≤ 0 then (LA_X8_gain_r44_34 m Ln I A v1 v2 v3 (v4 + 1) (some (v4 / (I 44 4))) (some (v4 - v4 / (I 44 4) * (I 44 4))) j7) else (if v3 ≤ (V_X8_waitsOfAll_r44 Ln I (SA_X8_lend_r44 Ln I A (v4 / (I 44 4)) (v4 - v4 / (I 44 4) * (I 44 4)) 1) ) then (if v3 ≤ (V_X8_waitsOfAll_r44 Ln I (SA_X8_lend_r44 Ln I A (v4 / (I 44 4)) (v4 - v4 / (I 44 4) * (I 44 4)) 1) ) then (LA_X8_gain_r44_34 m Ln (SI_X8_waitsOfAll_r44 Ln I (SA_X8_lend_r44 Ln I A (v4 / (I 44 4)) (v4 - v4 / (I 44 4) * (I 44 4)) 1) ) (SA_X8_lend_r44 Ln (SI_X8_waitsOfAll_r44 Ln I (SA_X8_lend_r44 Ln I A (v4 / (I 44 4)) (v4 - v4 / (I 44 4) * (I 44 4)) 1) ) (SA_X8_waitsOfAll_r44 Ln I (SA_X8_lend_r44 Ln I A (v4 / (I 44 4)) (v4 - v4 / (I 44 4) * (I 44 4)) 1) ) (v4 - v4 / (I 44 4) * (I 44 4)) (v4 / (I 44 4)) 1) v1 v2 v3 (v4 + 1) (some (v4 / (I 44 4))) (some (v4 - v4 / (I 44 4) * (I 44 4))) (some (V_X8_waitsOfAll_r44 Ln I (SA_X8_lend_r44 Ln I A (v4 / (I 44 4)) (v4 - v4 / (I 44 4) * (I 44 4)) 1) ))) else (LA_X8_gain_r44_34 m Ln (SI_X8_waitsOfAll_r44 Ln I (SA_X8_lend_r44 Ln I A (v4 / (I 44 4)) (v4 - v4 / (I 44 4) * (I 44 4)) 1) ) (SA_X8_lend_r44 Ln (SI_X8_waitsOfAll_r44 Ln I (SA_X8_lend_r44 Ln I A (v4 / (I 44 4)) (v4 - v4 / (I 44 4) * (I 44 4)) 1) ) (SA_X8_waitsOfAll_r44 Ln I (SA_X8_lend_r44 Ln I A (v4 / (I 44 4)) (v4 - v4 / (I 44 4) * (I 44 4)) 1) ) (v4 - v4 / (I 44 4) * (I 44 4)) (v4 / (I 44 4)) 1) v1 v2 (V_X8_waitsOfAll_r44 Ln I (SA_X8_lend_r44 Ln I A (v4 / (I 44 4)) (v4 - v4 / (I 44 4) * (I 44 4)) 1) ) (v4 + 1) (some (v4 / (I 44 4))) (some (v4 - v4 / (I 44 4) * (I 44 4))) (some (V_X8_waitsOfAll_r44 Ln I (SA_X8_lend_r44 Ln I A (v4 / (I 44 4)) (v4 - v4 / (I 44 4) * (I 44 4)) 1) )))) else (if v3 ≤ (V_X8_waitsOfAll_r44 Ln I (SA_X8_lend_r44 Ln I A (v4 / (I 44 4)) (v4 - v4 / (I 44 4) * (I 44 4)) 1) ) then (LA_X8_gain_r44_34 m Ln (SI_X8_waitsOfAll_r44 Ln I (SA_X8_lend_r44 Ln I A (v4 / (I 44 4)) (v4 - v4 / (I 44 4) * (I 44 4)) 1) ) (SA_X8_lend_r44 Ln (SI_X8_waitsOfAll_r44 Ln I (SA_X8_lend_r44 Ln I A (v4 / (I 44 4)) (v4 - v4 / (I 44 4) * (I 44 4)) 1) ) (SA_X8_waitsOfAll_r44 Ln I (SA_X8_lend_r44 Ln I A (v4 / (I 44 4)) (v4 - v4 / (I 44 4) * (I 44 4)) 1) ) (v4 - v4 / (I 44 4) * (I 44 4)) (v4 / (I 44 4)) 1) v1 ((10 * (v4 / (I 44 4))) + (v4 - v4 / (I 44 4) * (I 44 4))) v3 (v4 + 1) (some (v4 / (I 44 4))) (some (v4 - v4 / (I 44 4) * (I 44 4))) (some (V_X8_waitsOfAll_r44 Ln I (SA_X8_lend_r44 Ln I A (v4 / (I 44 4)) (v4 - v4 / (I 44 4) * (I 44 4)) 1) ))) else (LA_X8_gain_r44_34 m Ln (SI_X8_waitsOfAll_r44 Ln I (SA_X8_lend_r44 Ln I A (v4 / (I 44 4)) (v4 - v4 / (I 44 4) * (I 44 4)) 1) ) (SA_X8_lend_r44 Ln (SI_X8_waitsOfAll_r44 Ln I (SA_X8_lend_r44 Ln I A (v4 / (I 44 4)) (v4 - v4 / (I 44 4) * (I 44 4)) 1) ) (SA_X8_waitsOfAll_r44 Ln I (SA_X8_lend_r44 Ln I A (v4 / (I 44 4)) (v4 - v4 / (I 44 4) * (I 44 4)) 1) ) (v4 - v4 / (I 44 4) * (I 44 4)) (v4 / (I 44 4)) 1) v1 ((10 * (v4 / (I 44 4))) + (v4 - v4 / (I 44 4) * (I 44 4))) (V_X8_waitsOfAll_r44 Ln I (SA_X8_lend_r44 Ln I A (v4 / (I 44 4)) (v4 - v4 / (I 44 4) * (I 44 4)) 1) ) (v4 + 1) (some (v4 / (I 44 4))) (some (v4 - v4 / (I 44 4) * (I 44 4))) (some (V_X8_waitsOfAll_r44 Ln I (SA_X8_lend_r44 Ln I A (v4 / (I 44 4)) (v4 - v4 / (I 44 4) * (I 44 4)) 1) )))))))
def PLA_X8_gain_r44_34 : Nat → (Ln : Nat) → (I A : Nat → Nat → Int32) → Int32 → Int32 → Int32 → Int32 → (Option Int32) → (Option Int32) → (Option Int32) → Prop
  | 0, Ln, I, A, v1, v2, v3, v4, j5, j6, j7 => False
  | m + 1, Ln, I, A, v1, v2, v3, v4, j5, j6, j7 => (((I 44 4) * (I 44 4)) ≤ v4 → True) ∧ (¬ (((I 44 4) * (I 44 4)) ≤ v4) → ((¬ (I 44 4) = 0) ∧ (¬ (I 44 4) = 0) ∧ (((v4 / (I 44 4)) = (v4 - v4 / (I 44 4) * (I 44 4)) → (PLA_X8_gain_r44_34 m Ln I A v1 v2 v3 (v4 + 1) (some (v4 / (I 44 4))) (some (v4 - v4 / (I 44 4) * (I 44 4))) j7)) ∧ (¬ ((v4 / (I 44 4)) = (v4 - v4 / (I 44 4) * (I 44 4))) → ((zin (v4 / (I 44 4)) 6 = true) ∧ (((A 49 ((v4 / (I 44 4))).toNatClampNeg) ≤ 0 → (PLA_X8_gain_r44_34 m Ln I A v1 v2 v3 (v4 + 1) (some (v4 / (I 44 4))) (some (v4 - v4 / (I 44 4) * (I 44 4))) j7)) ∧ (¬ ((A 49 ((v4 / (I 44 4))).toNatClampNeg) ≤ 0) → ((P_X8_lend_r44 Ln I A (v4 / (I 44 4)) (v4 - v4 / (I 44 4) * (I 44 4)) 1) ∧ ((P_X8_waitsOfAll_r44 Ln I (SA_X8_lend_r44 Ln I A (v4 / (I 44 4)) (v4 - v4 / (I 44 4) * (I 44 4)) 1) ) ∧ ((v3 ≤ (V_X8_waitsOfAll_r44 Ln I (SA_X8_lend_r44 Ln I A (v4 / (I 44 4)) (v4 - v4 / (I 44 4) * (I 44 4)) 1) ) → ((v3 ≤ (V_X8_waitsOfAll_r44 Ln I (SA_X8_lend_r44 Ln I A (v4 / (I 44 4)) (v4 - v4 / (I 44 4) * (I 44 4)) 1) ) → ((P_X8_lend_r44 Ln (SI_X8_waitsOfAll_r44 Ln I (SA_X8_lend_r44 Ln I A (v4 / (I 44 4)) (v4 - v4 / (I 44 4) * (I 44 4)) 1) ) (SA_X8_waitsOfAll_r44 Ln I (SA_X8_lend_r44 Ln I A (v4 / (I 44 4)) (v4 - v4 / (I 44 4) * (I 44 4)) 1) ) (v4 - v4 / (I 44 4) * (I 44 4)) (v4 / (I 44 4)) 1) ∧ (PLA_X8_gain_r44_34 m Ln (SI_X8_waitsOfAll_r44 Ln I (SA_X8_lend_r44 Ln I A (v4 / (I 44 4)) (v4 - v4 / (I 44 4) * (I 44 4)) 1) ) (SA_X8_lend_r44 Ln (SI_X8_waitsOfAll_r44 Ln I (SA_X8_lend_r44 Ln I A (v4 / (I 44 4)) (v4 - v4 / (I 44 4) * (I 44 4)) 1) ) (SA_X8_waitsOfAll_r44 Ln I (SA_X8_lend_r44 Ln I A (v4 / (I 44 4)) (v4 - v4 / (I 44 4) * (I 44 4)) 1) ) (v4 - v4 / (I 44 4) * (I 44 4)) (v4 / (I 44 4)) 1) v1 v2 v3 (v4 + 1) (some (v4 / (I 44 4))) (some (v4 - v4 / (I 44 4) * (I 44 4))) (some (V_X8_waitsOfAll_r44 Ln I (SA_X8_lend_r44 Ln I A (v4 / (I 44 4)) (v4 - v4 / (I 44 4) * (I 44 4)) 1) ))))) ∧ (¬ (v3 ≤ (V_X8_waitsOfAll_r44 Ln I (SA_X8_lend_r44 Ln I A (v4 / (I 44 4)) (v4 - v4 / (I 44 4) * (I 44 4)) 1) )) → ((P_X8_lend_r44 Ln (SI_X8_waitsOfAll_r44 Ln I (SA_X8_lend_r44 Ln I A (v4 / (I 44 4)) (v4 - v4 / (I 44 4) * (I 44 4)) 1) ) (SA_X8_waitsOfAll_r44 Ln I (SA_X8_lend_r44 Ln I A (v4 / (I 44 4)) (v4 - v4 / (I 44 4) * (I 44 4)) 1) ) (v4 - v4 / (I 44 4) * (I 44 4)) (v4 / (I 44 4)) 1) ∧ (PLA_X8_gain_r44_34 m Ln (SI_X8_waitsOfAll_r44 Ln I (SA_X8_lend_r44 Ln I A (v4 / (I 44 4)) (v4 - v4 / (I 44 4) * (I 44 4)) 1) ) (SA_X8_lend_r44 Ln (SI_X8_waitsOfAll_r44 Ln I (SA_X8_lend_r44 Ln I A (v4 / (I 44 4)) (v4 - v4 / (I 44 4) * (I 44 4)) 1) ) (SA_X8_waitsOfAll_r44 Ln I (SA_X8_lend_r44 Ln I A (v4 / (I 44 4)) (v4 - v4 / (I 44 4) * (I 44 4)) 1) ) (v4 - v4 / (I 44 4) * (I 44 4)) (v4 / (I 44 4)) 1) v1 v2 (V_X8_waitsOfAll_r44 Ln I (SA_X8_lend_r44 Ln I A (v4 / (I 44 4)) (v4 - v4 / (I 44 4) * (I 44 4)) 1) ) (v4 + 1) (some (v4 / (I 44 4))) (some (v4 - v4 / (I 44 4) * (I 44 4))) (some (V_X8_waitsOfAll_r44 Ln I (SA_X8_lend_r44 Ln I A (v4 / (I 44 4)) (v4 - v4 / (I 44 4) * (I 44 4)) 1) ))))))) ∧ (¬ (v3 ≤ (V_X8_waitsOfAll_r44 Ln I (SA_X8_lend_r44 Ln I A (v4 / (I 44 4)) (v4 - v4 / (I 44 4) * (I 44 4)) 1) )) → ((v3 ≤ (V_X8_waitsOfAll_r44 Ln I (SA_X8_lend_r44 Ln I A (v4 / (I 44 4)) (v4 - v4 / (I 44 4) * (I 44 4)) 1) ) → ((P_X8_lend_r44 Ln (SI_X8_waitsOfAll_r44 Ln I (SA_X8_lend_r44 Ln I A (v4 / (I 44 4)) (v4 - v4 / (I 44 4) * (I 44 4)) 1) ) (SA_X8_waitsOfAll_r44 Ln I (SA_X8_lend_r44 Ln I A (v4 / (I 44 4)) (v4 - v4 / (I 44 4) * (I 44 4)) 1) ) (v4 - v4 / (I 44 4) * (I 44 4)) (v4 / (I 44 4)) 1) ∧ (PLA_X8_gain_r44_34 m Ln (SI_X8_waitsOfAll_r44 Ln I (SA_X8_lend_r44 Ln I A (v4 / (I 44 4)) (v4 - v4 / (I 44 4) * (I 44 4)) 1) ) (SA_X8_lend_r44 Ln (SI_X8_waitsOfAll_r44 Ln I (SA_X8_lend_r44 Ln I A (v4 / (I 44 4)) (v4 - v4 / (I 44 4) * (I 44 4)) 1) ) (SA_X8_waitsOfAll_r44 Ln I (SA_X8_lend_r44 Ln I A (v4 / (I 44 4)) (v4 - v4 / (I 44 4) * (I 44 4)) 1) ) (v4 - v4 / (I 44 4) * (I 44 4)) (v4 / (I 44 4)) 1) v1 ((10 * (v4 / (I 44 4))) + (v4 - v4 / (I 44 4) * (I 44 4))) v3 (v4 + 1) (some (v4 / (I 44 4))) (some (v4 - v4 / (I 44 4) * (I 44 4))) (some (V_X8_waitsOfAll_r44 Ln I (SA_X8_lend_r44 Ln I A (v4 / (I 44 4)) (v4 - v4 / (I 44 4) * (I 44 4)) 1) ))))) ∧ (¬ (v3 ≤ (V_X8_waitsOfAll_r44 Ln I (SA_X8_lend_r44 Ln I A (v4 / (I 44 4)) (v4 - v4 / (I 44 4) * (I 44 4)) 1) )) → ((P_X8_lend_r44 Ln (SI_X8_waitsOfAll_r44 Ln I (SA_X8_lend_r44 Ln I A (v4 / (I 44 4)) (v4 - v4 / (I 44 4) * (I 44 4)) 1) ) (SA_X8_waitsOfAll_r44 Ln I (SA_X8_lend_r44 Ln I A (v4 / (I 44 4)) (v4 - v4 / (I 44 4) * (I 44 4)) 1) ) (v4 - v4 / (I 44 4) * (I 44 4)) (v4 / (I 44 4)) 1) ∧ (PLA_X8_gain_r44_34 m Ln (SI_X8_waitsOfAll_r44 Ln I (SA_X8_lend_r44 Ln I A (v4 / (I 44 4)) (v4 - v4 / (I 44 4) * (I 44 4)) 1) ) (SA_X8_lend_r44 Ln (SI_X8_waitsOfAll_r44 Ln I (SA_X8_lend_r44 Ln I A (v4 / (I 44 4)) (v4 - v4 / (I 44 4) * (I 44 4)) 1) ) (SA_X8_waitsOfAll_r44 Ln I (SA_X8_lend_r44 Ln I A (v4 / (I 44 4)) (v4 - v4 / (I 44 4) * (I 44 4)) 1) ) (v4 - v4 / (I 44 4) * (I 44 4)) (v4 / (I 44 4)) 1) v1 ((10 * (v4 / (I 44 4))) + (v4 - v4 / (I 44 4) * (I 44 4))) (V_X8_waitsOfAll_r44 Ln I (SA_X8_lend_r44 Ln I A (v4 / (I 44 4)) (v4 - v4 / (I 44 4) * (I 44 4)) 1) ) (v4 + 1) (some (v4 / (I 44 4))) (some (v4 - v4 / (I 44 4) * (I 44 4))) (some (V_X8_waitsOfAll_r44 Ln I (SA_X8_lend_r44 Ln I A (v4 / (I 44 4)) (v4 - v4 / (I 44 4) * (I 44 4)) 1) )))))))))))))))))
set_option maxRecDepth 100000 in
theorem MLA_X8_gain_r44_34 (m Ln : Nat) : ∀ (I A : Nat → Nat → Int32) (v1 : Int32) (v2 : Int32) (v3 : Int32) (v4 : Int32) (j5 : Option Int32) (j6 : Option Int32) (j7 : Option Int32), PLA_X8_gain_r44_34 m Ln I A v1 v2 v3 v4 j5 j6 j7 → zEv 140 34 0 0 [some (.ref 44), some (.int v1), some (.int v2), some (.int v3), some (.int v4), (Option.map Value.int j5), (Option.map Value.int j6), (Option.map Value.int j7)] [] (zGs Ln I A) (some (.int (LA_X8_gain_r44_34 m Ln I A v1 v2 v3 v4 j5 j6 j7).1), zGs Ln (LA_X8_gain_r44_34 m Ln I A v1 v2 v3 v4 j5 j6 j7).2.1 (LA_X8_gain_r44_34 m Ln I A v1 v2 v3 v4 j5 j6 j7).2.2) := by
  induction m with
  | zero => intro I A v1 v2 v3 v4 j5 j6 j7 h; exact h.elim
  | succ m ih =>
    intro I A v1 v2 v3 v4 j5 j6 j7 h
    simp only [PLA_X8_gain_r44_34] at h
    simp only [LA_X8_gain_r44_34]
    refine B_X8_gain_r44_34 Ln I A v1 v2 v3 v4 j5 j6 j7  (fun q2 => ?_) (fun q2 => ?_)
    · try simp only [if_pos q2]
      refine B_X8_gain_r44_145 Ln I A v1 v2 v3 v4 j5 j6 j7  (fun q3 => ?_) (fun q3 => ?_)
      · try simp only [if_pos q3]
        refine B_X8_gain_r44_153 Ln I A v1 v2 v3 v4 j5 j6 j7  ?_
        exact B_X8_gain_r44_154_s1 Ln I A v1 v2 v3 v4 j5 j6 j7 v3 
      · try simp only [if_neg q3]
        refine B_X8_gain_r44_149 Ln I A v1 v2 v3 v4 j5 j6 j7  ?_
        exact B_X8_gain_r44_154_s1 Ln I A v1 v2 v3 v4 j5 j6 j7 v2 
    · try simp only [if_neg q2]
      have h4 := h.2 q2
      obtain ⟨g5_0, g5_1, r6_⟩ := h4
      refine B_X8_gain_r44_48 Ln I A v1 v2 v3 v4 j5 j6 j7 g5_0 g5_1 (fun q7 => ?_) (fun q7 => ?_)
      · try simp only [if_pos q7]
        have h8 := r6_.1 q7
        refine B_X8_gain_r44_139 Ln I A v1 v2 v3 v4 (v4 / (I 44 4)) (v4 - v4 / (I 44 4) * (I 44 4)) j7  ?_
        exact ih I A v1 v2 v3 (v4 + 1) (some (v4 / (I 44 4))) (some (v4 - v4 / (I 44 4) * (I 44 4))) j7 h8
      · try simp only [if_neg q7]
        have h11 := r6_.2 q7
        obtain ⟨g12_0, r13_⟩ := h11
        refine B_X8_gain_r44_73 Ln I A v1 v2 v3 v4 (v4 / (I 44 4)) (v4 - v4 / (I 44 4) * (I 44 4)) j7 g12_0 (fun q14 => ?_) (fun q14 => ?_)
        · try simp only [if_pos q14]
          have h15 := r13_.1 q14
          refine B_X8_gain_r44_139 Ln I A v1 v2 v3 v4 (v4 / (I 44 4)) (v4 - v4 / (I 44 4) * (I 44 4)) j7  ?_
          exact ih I A v1 v2 v3 (v4 + 1) (some (v4 / (I 44 4))) (some (v4 - v4 / (I 44 4) * (I 44 4))) j7 h15
        · try simp only [if_neg q14]
          have h18 := r13_.2 q14
          obtain ⟨g19_0, r20_⟩ := h18
          refine B_X8_gain_r44_83 Ln I A v1 v2 v3 v4 (v4 / (I 44 4)) (v4 - v4 / (I 44 4) * (I 44 4)) j7  (M_X8_lend_r44 Ln I A (v4 / (I 44 4)) (v4 - v4 / (I 44 4) * (I 44 4)) 1 g19_0) rfl ?_
          obtain ⟨g21_0, r22_⟩ := r20_
          refine B_X8_gain_r44_92 Ln I (SA_X8_lend_r44 Ln I A (v4 / (I 44 4)) (v4 - v4 / (I 44 4) * (I 44 4)) 1) v1 v2 v3 v4 (v4 / (I 44 4)) (v4 - v4 / (I 44 4) * (I 44 4)) j7  (M_X8_waitsOfAll_r44 Ln I (SA_X8_lend_r44 Ln I A (v4 / (I 44 4)) (v4 - v4 / (I 44 4) * (I 44 4)) 1)  g21_0) rfl ?_
          refine B_X8_gain_r44_96_s1 Ln (SI_X8_waitsOfAll_r44 Ln I (SA_X8_lend_r44 Ln I A (v4 / (I 44 4)) (v4 - v4 / (I 44 4) * (I 44 4)) 1) ) (SA_X8_waitsOfAll_r44 Ln I (SA_X8_lend_r44 Ln I A (v4 / (I 44 4)) (v4 - v4 / (I 44 4) * (I 44 4)) 1) ) v1 v2 v3 v4 (v4 / (I 44 4)) (v4 - v4 / (I 44 4) * (I 44 4)) j7 (V_X8_waitsOfAll_r44 Ln I (SA_X8_lend_r44 Ln I A (v4 / (I 44 4)) (v4 - v4 / (I 44 4) * (I 44 4)) 1) )  (fun q25 => ?_) (fun q25 => ?_)
          · try simp only [if_pos q25]
            have h26 := r22_.1 q25
            refine B_X8_gain_r44_115 Ln (SI_X8_waitsOfAll_r44 Ln I (SA_X8_lend_r44 Ln I A (v4 / (I 44 4)) (v4 - v4 / (I 44 4) * (I 44 4)) 1) ) (SA_X8_waitsOfAll_r44 Ln I (SA_X8_lend_r44 Ln I A (v4 / (I 44 4)) (v4 - v4 / (I 44 4) * (I 44 4)) 1) ) v1 v2 v3 v4 (v4 / (I 44 4)) (v4 - v4 / (I 44 4) * (I 44 4)) (V_X8_waitsOfAll_r44 Ln I (SA_X8_lend_r44 Ln I A (v4 / (I 44 4)) (v4 - v4 / (I 44 4) * (I 44 4)) 1) )  ?_
            refine B_X8_gain_r44_116_s1 Ln (SI_X8_waitsOfAll_r44 Ln I (SA_X8_lend_r44 Ln I A (v4 / (I 44 4)) (v4 - v4 / (I 44 4) * (I 44 4)) 1) ) (SA_X8_waitsOfAll_r44 Ln I (SA_X8_lend_r44 Ln I A (v4 / (I 44 4)) (v4 - v4 / (I 44 4) * (I 44 4)) 1) ) v1 v2 v3 v4 (v4 / (I 44 4)) (v4 - v4 / (I 44 4) * (I 44 4)) (V_X8_waitsOfAll_r44 Ln I (SA_X8_lend_r44 Ln I A (v4 / (I 44 4)) (v4 - v4 / (I 44 4) * (I 44 4)) 1) ) v2  (fun q31 => ?_) (fun q31 => ?_)
            · try simp only [if_pos q31]
              have h32 := h26.1 q31
              refine B_X8_gain_r44_128 Ln (SI_X8_waitsOfAll_r44 Ln I (SA_X8_lend_r44 Ln I A (v4 / (I 44 4)) (v4 - v4 / (I 44 4) * (I 44 4)) 1) ) (SA_X8_waitsOfAll_r44 Ln I (SA_X8_lend_r44 Ln I A (v4 / (I 44 4)) (v4 - v4 / (I 44 4) * (I 44 4)) 1) ) v1 v2 v3 v4 (v4 / (I 44 4)) (v4 - v4 / (I 44 4) * (I 44 4)) (V_X8_waitsOfAll_r44 Ln I (SA_X8_lend_r44 Ln I A (v4 / (I 44 4)) (v4 - v4 / (I 44 4) * (I 44 4)) 1) )  ?_
              obtain ⟨g35_0, r36_⟩ := h32
              refine B_X8_gain_r44_129_s1 Ln (SI_X8_waitsOfAll_r44 Ln I (SA_X8_lend_r44 Ln I A (v4 / (I 44 4)) (v4 - v4 / (I 44 4) * (I 44 4)) 1) ) (SA_X8_waitsOfAll_r44 Ln I (SA_X8_lend_r44 Ln I A (v4 / (I 44 4)) (v4 - v4 / (I 44 4) * (I 44 4)) 1) ) v1 v2 v3 v4 (v4 / (I 44 4)) (v4 - v4 / (I 44 4) * (I 44 4)) (V_X8_waitsOfAll_r44 Ln I (SA_X8_lend_r44 Ln I A (v4 / (I 44 4)) (v4 - v4 / (I 44 4) * (I 44 4)) 1) ) v3  (M_X8_lend_r44 Ln (SI_X8_waitsOfAll_r44 Ln I (SA_X8_lend_r44 Ln I A (v4 / (I 44 4)) (v4 - v4 / (I 44 4) * (I 44 4)) 1) ) (SA_X8_waitsOfAll_r44 Ln I (SA_X8_lend_r44 Ln I A (v4 / (I 44 4)) (v4 - v4 / (I 44 4) * (I 44 4)) 1) ) (v4 - v4 / (I 44 4) * (I 44 4)) (v4 / (I 44 4)) 1 g35_0) rfl ?_
              refine B_X8_gain_r44_139 Ln (SI_X8_waitsOfAll_r44 Ln I (SA_X8_lend_r44 Ln I A (v4 / (I 44 4)) (v4 - v4 / (I 44 4) * (I 44 4)) 1) ) (SA_X8_lend_r44 Ln (SI_X8_waitsOfAll_r44 Ln I (SA_X8_lend_r44 Ln I A (v4 / (I 44 4)) (v4 - v4 / (I 44 4) * (I 44 4)) 1) ) (SA_X8_waitsOfAll_r44 Ln I (SA_X8_lend_r44 Ln I A (v4 / (I 44 4)) (v4 - v4 / (I 44 4) * (I 44 4)) 1) ) (v4 - v4 / (I 44 4) * (I 44 4)) (v4 / (I 44 4)) 1) v1 v2 v3 v4 (v4 / (I 44 4)) (v4 - v4 / (I 44 4) * (I 44 4)) (some (V_X8_waitsOfAll_r44 Ln I (SA_X8_lend_r44 Ln I A (v4 / (I 44 4)) (v4 - v4 / (I 44 4) * (I 44 4)) 1) ))  ?_
              exact ih (SI_X8_waitsOfAll_r44 Ln I (SA_X8_lend_r44 Ln I A (v4 / (I 44 4)) (v4 - v4 / (I 44 4) * (I 44 4)) 1) ) (SA_X8_lend_r44 Ln (SI_X8_waitsOfAll_r44 Ln I (SA_X8_lend_r44 Ln I A (v4 / (I 44 4)) (v4 - v4 / (I 44 4) * (I 44 4)) 1) ) (SA_X8_waitsOfAll_r44 Ln I (SA_X8_lend_r44 Ln I A (v4 / (I 44 4)) (v4 - v4 / (I 44 4) * (I 44 4)) 1) ) (v4 - v4 / (I 44 4) * (I 44 4)) (v4 / (I 44 4)) 1) v1 v2 v3 (v4 + 1) (some (v4 / (I 44 4))) (some (v4 - v4 / (I 44 4) * (I 44 4))) (some (V_X8_waitsOfAll_r44 Ln I (SA_X8_lend_r44 Ln I A (v4 / (I 44 4)) (v4 - v4 / (I 44 4) * (I 44 4)) 1) )) r36_
            · try simp only [if_neg q31]
              have h39 := h26.2 q31
              refine B_X8_gain_r44_123 Ln (SI_X8_waitsOfAll_r44 Ln I (SA_X8_lend_r44 Ln I A (v4 / (I 44 4)) (v4 - v4 / (I 44 4) * (I 44 4)) 1) ) (SA_X8_waitsOfAll_r44 Ln I (SA_X8_lend_r44 Ln I A (v4 / (I 44 4)) (v4 - v4 / (I 44 4) * (I 44 4)) 1) ) v1 v2 v3 v4 (v4 / (I 44 4)) (v4 - v4 / (I 44 4) * (I 44 4)) (V_X8_waitsOfAll_r44 Ln I (SA_X8_lend_r44 Ln I A (v4 / (I 44 4)) (v4 - v4 / (I 44 4) * (I 44 4)) 1) )  ?_
              obtain ⟨g42_0, r43_⟩ := h39
              refine B_X8_gain_r44_129_s1 Ln (SI_X8_waitsOfAll_r44 Ln I (SA_X8_lend_r44 Ln I A (v4 / (I 44 4)) (v4 - v4 / (I 44 4) * (I 44 4)) 1) ) (SA_X8_waitsOfAll_r44 Ln I (SA_X8_lend_r44 Ln I A (v4 / (I 44 4)) (v4 - v4 / (I 44 4) * (I 44 4)) 1) ) v1 v2 v3 v4 (v4 / (I 44 4)) (v4 - v4 / (I 44 4) * (I 44 4)) (V_X8_waitsOfAll_r44 Ln I (SA_X8_lend_r44 Ln I A (v4 / (I 44 4)) (v4 - v4 / (I 44 4) * (I 44 4)) 1) ) (V_X8_waitsOfAll_r44 Ln I (SA_X8_lend_r44 Ln I A (v4 / (I 44 4)) (v4 - v4 / (I 44 4) * (I 44 4)) 1) )  (M_X8_lend_r44 Ln (SI_X8_waitsOfAll_r44 Ln I (SA_X8_lend_r44 Ln I A (v4 / (I 44 4)) (v4 - v4 / (I 44 4) * (I 44 4)) 1) ) (SA_X8_waitsOfAll_r44 Ln I (SA_X8_lend_r44 Ln I A (v4 / (I 44 4)) (v4 - v4 / (I 44 4) * (I 44 4)) 1) ) (v4 - v4 / (I 44 4) * (I 44 4)) (v4 / (I 44 4)) 1 g42_0) rfl ?_
              refine B_X8_gain_r44_139 Ln (SI_X8_waitsOfAll_r44 Ln I (SA_X8_lend_r44 Ln I A (v4 / (I 44 4)) (v4 - v4 / (I 44 4) * (I 44 4)) 1) ) (SA_X8_lend_r44 Ln (SI_X8_waitsOfAll_r44 Ln I (SA_X8_lend_r44 Ln I A (v4 / (I 44 4)) (v4 - v4 / (I 44 4) * (I 44 4)) 1) ) (SA_X8_waitsOfAll_r44 Ln I (SA_X8_lend_r44 Ln I A (v4 / (I 44 4)) (v4 - v4 / (I 44 4) * (I 44 4)) 1) ) (v4 - v4 / (I 44 4) * (I 44 4)) (v4 / (I 44 4)) 1) v1 v2 (V_X8_waitsOfAll_r44 Ln I (SA_X8_lend_r44 Ln I A (v4 / (I 44 4)) (v4 - v4 / (I 44 4) * (I 44 4)) 1) ) v4 (v4 / (I 44 4)) (v4 - v4 / (I 44 4) * (I 44 4)) (some (V_X8_waitsOfAll_r44 Ln I (SA_X8_lend_r44 Ln I A (v4 / (I 44 4)) (v4 - v4 / (I 44 4) * (I 44 4)) 1) ))  ?_
              exact ih (SI_X8_waitsOfAll_r44 Ln I (SA_X8_lend_r44 Ln I A (v4 / (I 44 4)) (v4 - v4 / (I 44 4) * (I 44 4)) 1) ) (SA_X8_lend_r44 Ln (SI_X8_waitsOfAll_r44 Ln I (SA_X8_lend_r44 Ln I A (v4 / (I 44 4)) (v4 - v4 / (I 44 4) * (I 44 4)) 1) ) (SA_X8_waitsOfAll_r44 Ln I (SA_X8_lend_r44 Ln I A (v4 / (I 44 4)) (v4 - v4 / (I 44 4) * (I 44 4)) 1) ) (v4 - v4 / (I 44 4) * (I 44 4)) (v4 / (I 44 4)) 1) v1 v2 (V_X8_waitsOfAll_r44 Ln I (SA_X8_lend_r44 Ln I A (v4 / (I 44 4)) (v4 - v4 / (I 44 4) * (I 44 4)) 1) ) (v4 + 1) (some (v4 / (I 44 4))) (some (v4 - v4 / (I 44 4) * (I 44 4))) (some (V_X8_waitsOfAll_r44 Ln I (SA_X8_lend_r44 Ln I A (v4 / (I 44 4)) (v4 - v4 / (I 44 4) * (I 44 4)) 1) )) r43_
          · try simp only [if_neg q25]
            have h46 := r22_.2 q25
            refine B_X8_gain_r44_104 Ln (SI_X8_waitsOfAll_r44 Ln I (SA_X8_lend_r44 Ln I A (v4 / (I 44 4)) (v4 - v4 / (I 44 4) * (I 44 4)) 1) ) (SA_X8_waitsOfAll_r44 Ln I (SA_X8_lend_r44 Ln I A (v4 / (I 44 4)) (v4 - v4 / (I 44 4) * (I 44 4)) 1) ) v1 v2 v3 v4 (v4 / (I 44 4)) (v4 - v4 / (I 44 4) * (I 44 4)) (V_X8_waitsOfAll_r44 Ln I (SA_X8_lend_r44 Ln I A (v4 / (I 44 4)) (v4 - v4 / (I 44 4) * (I 44 4)) 1) )  ?_
            refine B_X8_gain_r44_116_s1 Ln (SI_X8_waitsOfAll_r44 Ln I (SA_X8_lend_r44 Ln I A (v4 / (I 44 4)) (v4 - v4 / (I 44 4) * (I 44 4)) 1) ) (SA_X8_waitsOfAll_r44 Ln I (SA_X8_lend_r44 Ln I A (v4 / (I 44 4)) (v4 - v4 / (I 44 4) * (I 44 4)) 1) ) v1 v2 v3 v4 (v4 / (I 44 4)) (v4 - v4 / (I 44 4) * (I 44 4)) (V_X8_waitsOfAll_r44 Ln I (SA_X8_lend_r44 Ln I A (v4 / (I 44 4)) (v4 - v4 / (I 44 4) * (I 44 4)) 1) ) ((10 * (v4 / (I 44 4))) + (v4 - v4 / (I 44 4) * (I 44 4)))  (fun q51 => ?_) (fun q51 => ?_)
            · try simp only [if_pos q51]
              have h52 := h46.1 q51
              refine B_X8_gain_r44_128 Ln (SI_X8_waitsOfAll_r44 Ln I (SA_X8_lend_r44 Ln I A (v4 / (I 44 4)) (v4 - v4 / (I 44 4) * (I 44 4)) 1) ) (SA_X8_waitsOfAll_r44 Ln I (SA_X8_lend_r44 Ln I A (v4 / (I 44 4)) (v4 - v4 / (I 44 4) * (I 44 4)) 1) ) v1 ((10 * (v4 / (I 44 4))) + (v4 - v4 / (I 44 4) * (I 44 4))) v3 v4 (v4 / (I 44 4)) (v4 - v4 / (I 44 4) * (I 44 4)) (V_X8_waitsOfAll_r44 Ln I (SA_X8_lend_r44 Ln I A (v4 / (I 44 4)) (v4 - v4 / (I 44 4) * (I 44 4)) 1) )  ?_
              obtain ⟨g55_0, r56_⟩ := h52
              refine B_X8_gain_r44_129_s1 Ln (SI_X8_waitsOfAll_r44 Ln I (SA_X8_lend_r44 Ln I A (v4 / (I 44 4)) (v4 - v4 / (I 44 4) * (I 44 4)) 1) ) (SA_X8_waitsOfAll_r44 Ln I (SA_X8_lend_r44 Ln I A (v4 / (I 44 4)) (v4 - v4 / (I 44 4) * (I 44 4)) 1) ) v1 ((10 * (v4 / (I 44 4))) + (v4 - v4 / (I 44 4) * (I 44 4))) v3 v4 (v4 / (I 44 4)) (v4 - v4 / (I 44 4) * (I 44 4)) (V_X8_waitsOfAll_r44 Ln I (SA_X8_lend_r44 Ln I A (v4 / (I 44 4)) (v4 - v4 / (I 44 4) * (I 44 4)) 1) ) v3  (M_X8_lend_r44 Ln (SI_X8_waitsOfAll_r44 Ln I (SA_X8_lend_r44 Ln I A (v4 / (I 44 4)) (v4 - v4 / (I 44 4) * (I 44 4)) 1) ) (SA_X8_waitsOfAll_r44 Ln I (SA_X8_lend_r44 Ln I A (v4 / (I 44 4)) (v4 - v4 / (I 44 4) * (I 44 4)) 1) ) (v4 - v4 / (I 44 4) * (I 44 4)) (v4 / (I 44 4)) 1 g55_0) rfl ?_
              refine B_X8_gain_r44_139 Ln (SI_X8_waitsOfAll_r44 Ln I (SA_X8_lend_r44 Ln I A (v4 / (I 44 4)) (v4 - v4 / (I 44 4) * (I 44 4)) 1) ) (SA_X8_lend_r44 Ln (SI_X8_waitsOfAll_r44 Ln I (SA_X8_lend_r44 Ln I A (v4 / (I 44 4)) (v4 - v4 / (I 44 4) * (I 44 4)) 1) ) (SA_X8_waitsOfAll_r44 Ln I (SA_X8_lend_r44 Ln I A (v4 / (I 44 4)) (v4 - v4 / (I 44 4) * (I 44 4)) 1) ) (v4 - v4 / (I 44 4) * (I 44 4)) (v4 / (I 44 4)) 1) v1 ((10 * (v4 / (I 44 4))) + (v4 - v4 / (I 44 4) * (I 44 4))) v3 v4 (v4 / (I 44 4)) (v4 - v4 / (I 44 4) * (I 44 4)) (some (V_X8_waitsOfAll_r44 Ln I (SA_X8_lend_r44 Ln I A (v4 / (I 44 4)) (v4 - v4 / (I 44 4) * (I 44 4)) 1) ))  ?_
              exact ih (SI_X8_waitsOfAll_r44 Ln I (SA_X8_lend_r44 Ln I A (v4 / (I 44 4)) (v4 - v4 / (I 44 4) * (I 44 4)) 1) ) (SA_X8_lend_r44 Ln (SI_X8_waitsOfAll_r44 Ln I (SA_X8_lend_r44 Ln I A (v4 / (I 44 4)) (v4 - v4 / (I 44 4) * (I 44 4)) 1) ) (SA_X8_waitsOfAll_r44 Ln I (SA_X8_lend_r44 Ln I A (v4 / (I 44 4)) (v4 - v4 / (I 44 4) * (I 44 4)) 1) ) (v4 - v4 / (I 44 4) * (I 44 4)) (v4 / (I 44 4)) 1) v1 ((10 * (v4 / (I 44 4))) + (v4 - v4 / (I 44 4) * (I 44 4))) v3 (v4 + 1) (some (v4 / (I 44 4))) (some (v4 - v4 / (I 44 4) * (I 44 4))) (some (V_X8_waitsOfAll_r44 Ln I (SA_X8_lend_r44 Ln I A (v4 / (I 44 4)) (v4 - v4 / (I 44 4) * (I 44 4)) 1) )) r56_
            · try simp only [if_neg q51]
              have h59 := h46.2 q51
              refine B_X8_gain_r44_123 Ln (SI_X8_waitsOfAll_r44 Ln I (SA_X8_lend_r44 Ln I A (v4 / (I 44 4)) (v4 - v4 / (I 44 4) * (I 44 4)) 1) ) (SA_X8_waitsOfAll_r44 Ln I (SA_X8_lend_r44 Ln I A (v4 / (I 44 4)) (v4 - v4 / (I 44 4) * (I 44 4)) 1) ) v1 ((10 * (v4 / (I 44 4))) + (v4 - v4 / (I 44 4) * (I 44 4))) v3 v4 (v4 / (I 44 4)) (v4 - v4 / (I 44 4) * (I 44 4)) (V_X8_waitsOfAll_r44 Ln I (SA_X8_lend_r44 Ln I A (v4 / (I 44 4)) (v4 - v4 / (I 44 4) * (I 44 4)) 1) )  ?_
              obtain ⟨g62_0, r63_⟩ := h59
              refine B_X8_gain_r44_129_s1 Ln (SI_X8_waitsOfAll_r44 Ln I (SA_X8_lend_r44 Ln I A (v4 / (I 44 4)) (v4 - v4 / (I 44 4) * (I 44 4)) 1) ) (SA_X8_waitsOfAll_r44 Ln I (SA_X8_lend_r44 Ln I A (v4 / (I 44 4)) (v4 - v4 / (I 44 4) * (I 44 4)) 1) ) v1 ((10 * (v4 / (I 44 4))) + (v4 - v4 / (I 44 4) * (I 44 4))) v3 v4 (v4 / (I 44 4)) (v4 - v4 / (I 44 4) * (I 44 4)) (V_X8_waitsOfAll_r44 Ln I (SA_X8_lend_r44 Ln I A (v4 / (I 44 4)) (v4 - v4 / (I 44 4) * (I 44 4)) 1) ) (V_X8_waitsOfAll_r44 Ln I (SA_X8_lend_r44 Ln I A (v4 / (I 44 4)) (v4 - v4 / (I 44 4) * (I 44 4)) 1) )  (M_X8_lend_r44 Ln (SI_X8_waitsOfAll_r44 Ln I (SA_X8_lend_r44 Ln I A (v4 / (I 44 4)) (v4 - v4 / (I 44 4) * (I 44 4)) 1) ) (SA_X8_waitsOfAll_r44 Ln I (SA_X8_lend_r44 Ln I A (v4 / (I 44 4)) (v4 - v4 / (I 44 4) * (I 44 4)) 1) ) (v4 - v4 / (I 44 4) * (I 44 4)) (v4 / (I 44 4)) 1 g62_0) rfl ?_
              refine B_X8_gain_r44_139 Ln (SI_X8_waitsOfAll_r44 Ln I (SA_X8_lend_r44 Ln I A (v4 / (I 44 4)) (v4 - v4 / (I 44 4) * (I 44 4)) 1) ) (SA_X8_lend_r44 Ln (SI_X8_waitsOfAll_r44 Ln I (SA_X8_lend_r44 Ln I A (v4 / (I 44 4)) (v4 - v4 / (I 44 4) * (I 44 4)) 1) ) (SA_X8_waitsOfAll_r44 Ln I (SA_X8_lend_r44 Ln I A (v4 / (I 44 4)) (v4 - v4 / (I 44 4) * (I 44 4)) 1) ) (v4 - v4 / (I 44 4) * (I 44 4)) (v4 / (I 44 4)) 1) v1 ((10 * (v4 / (I 44 4))) + (v4 - v4 / (I 44 4) * (I 44 4))) (V_X8_waitsOfAll_r44 Ln I (SA_X8_lend_r44 Ln I A (v4 / (I 44 4)) (v4 - v4 / (I 44 4) * (I 44 4)) 1) ) v4 (v4 / (I 44 4)) (v4 - v4 / (I 44 4) * (I 44 4)) (some (V_X8_waitsOfAll_r44 Ln I (SA_X8_lend_r44 Ln I A (v4 / (I 44 4)) (v4 - v4 / (I 44 4) * (I 44 4)) 1) ))  ?_
              exact ih (SI_X8_waitsOfAll_r44 Ln I (SA_X8_lend_r44 Ln I A (v4 / (I 44 4)) (v4 - v4 / (I 44 4) * (I 44 4)) 1) ) (SA_X8_lend_r44 Ln (SI_X8_waitsOfAll_r44 Ln I (SA_X8_lend_r44 Ln I A (v4 / (I 44 4)) (v4 - v4 / (I 44 4) * (I 44 4)) 1) ) (SA_X8_waitsOfAll_r44 Ln I (SA_X8_lend_r44 Ln I A (v4 / (I 44 4)) (v4 - v4 / (I 44 4) * (I 44 4)) 1) ) (v4 - v4 / (I 44 4) * (I 44 4)) (v4 / (I 44 4)) 1) v1 ((10 * (v4 / (I 44 4))) + (v4 - v4 / (I 44 4) * (I 44 4))) (V_X8_waitsOfAll_r44 Ln I (SA_X8_lend_r44 Ln I A (v4 / (I 44 4)) (v4 - v4 / (I 44 4) * (I 44 4)) 1) ) (v4 + 1) (some (v4 / (I 44 4))) (some (v4 - v4 / (I 44 4) * (I 44 4))) (some (V_X8_waitsOfAll_r44 Ln I (SA_X8_lend_r44 Ln I A (v4 / (I 44 4)) (v4 - v4 / (I 44 4) * (I 44 4)) 1) )) r63_
def V_X8_gain_r44 (Ln : Nat) (I A : Nat → Nat → Int32) (v1 : Int32) : Int32 := if (V_X8_in Ln I A (Int32.toInt64 v1) 0 1) ≠ 0 then (if (I 44 4) ≠ 0 then ((LA_X8_gain_r44_34 1000 Ln (SI_X8_waitsOfAll_r44 Ln I A ) (SA_X8_waitsOfAll_r44 Ln I A ) v1 (-9) (V_X8_waitsOfAll_r44 Ln I A ) 0 none none none).1) else (-3)) else (-2)
def SI_X8_gain_r44 (Ln : Nat) (I A : Nat → Nat → Int32) (v1 : Int32) : Nat → Nat → Int32 := if (V_X8_in Ln I A (Int32.toInt64 v1) 0 1) ≠ 0 then (if (I 44 4) ≠ 0 then ((LA_X8_gain_r44_34 1000 Ln (SI_X8_waitsOfAll_r44 Ln I A ) (SA_X8_waitsOfAll_r44 Ln I A ) v1 (-9) (V_X8_waitsOfAll_r44 Ln I A ) 0 none none none).2.1) else I) else I
def SA_X8_gain_r44 (Ln : Nat) (I A : Nat → Nat → Int32) (v1 : Int32) : Nat → Nat → Int32 := if (V_X8_in Ln I A (Int32.toInt64 v1) 0 1) ≠ 0 then (if (I 44 4) ≠ 0 then ((LA_X8_gain_r44_34 1000 Ln (SI_X8_waitsOfAll_r44 Ln I A ) (SA_X8_waitsOfAll_r44 Ln I A ) v1 (-9) (V_X8_waitsOfAll_r44 Ln I A ) 0 none none none).2.2) else A) else A
def P_X8_gain_r44 (Ln : Nat) (I A : Nat → Nat → Int32) (v1 : Int32) : Prop := ((V_X8_in Ln I A (Int32.toInt64 v1) 0 1) ≠ 0 → (((I 44 4) ≠ 0 → ((P_X8_waitsOfAll_r44 Ln I A ) ∧ (PLA_X8_gain_r44_34 1000 Ln (SI_X8_waitsOfAll_r44 Ln I A ) (SA_X8_waitsOfAll_r44 Ln I A ) v1 (-9) (V_X8_waitsOfAll_r44 Ln I A ) 0 none none none))) ∧ (¬ ((I 44 4) ≠ 0) → True))) ∧ (¬ ((V_X8_in Ln I A (Int32.toInt64 v1) 0 1) ≠ 0) → True)
set_option maxRecDepth 100000 in
theorem M_X8_gain_r44 (Ln : Nat) (I A : Nat → Nat → Int32) (v1 : Int32) (h : P_X8_gain_r44 Ln I A v1) : zEv 140 0 0 0 [some (.ref 44), some (.int v1), none, none, none, none, none, none] [] (zGs Ln I A) (some (.int (V_X8_gain_r44 Ln I A v1)), zGs Ln (SI_X8_gain_r44 Ln I A v1) (SA_X8_gain_r44 Ln I A v1)) := by
  unfold P_X8_gain_r44 at h
  unfold V_X8_gain_r44 SI_X8_gain_r44 SA_X8_gain_r44
  refine B_X8_gain_r44_0 Ln I A v1  (M_X8_in Ln I A (Int32.toInt64 v1) 0 1 ) rfl ?_
  refine B_X8_gain_r44_7_s1 Ln I A v1 (V_X8_in Ln I A (Int32.toInt64 v1) 0 1)  (fun q4 => ?_) (fun q4 => ?_)
  · try simp only [if_pos q4]
    have h5 := h.1 q4
    refine B_X8_gain_r44_13 Ln I A v1  (fun q8 => ?_) (fun q8 => ?_)
    · try simp only [if_pos q8]
      have h9 := h5.1 q8
      obtain ⟨g10_0, r11_⟩ := h9
      refine B_X8_gain_r44_23 Ln I A v1  (M_X8_waitsOfAll_r44 Ln I A  g10_0) rfl ?_
      refine B_X8_gain_r44_30_s1 Ln (SI_X8_waitsOfAll_r44 Ln I A ) (SA_X8_waitsOfAll_r44 Ln I A ) v1 (-9) (V_X8_waitsOfAll_r44 Ln I A )  ?_
      exact MLA_X8_gain_r44_34 1000 Ln (SI_X8_waitsOfAll_r44 Ln I A ) (SA_X8_waitsOfAll_r44 Ln I A ) v1 (-9) (V_X8_waitsOfAll_r44 Ln I A ) 0 none none none r11_
    · try simp only [if_neg q8]
      exact B_X8_gain_r44_20 Ln I A v1 
  · try simp only [if_neg q4]
    exact B_X8_gain_r44_10 Ln I A v1 
def LA_X8_favours_r44_83 : Nat → (Ln : Nat) → (I A : Nat → Nat → Int32) → Int32 → Int32 → Int32 → Int32 → Int32 → Int32 × (Nat → Nat → Int32) × (Nat → Nat → Int32)
  | 0, Ln, I, A, v1, v2, v3, v4, v5 => (0, I, A)
  | m + 1, Ln, I, A, v1, v2, v3, v4, v5 => if v5 < 0 then (v4, I, zw A 49 ((v1).toNatClampNeg) v2) else (if 99 ≤ ((SA_X8_goAll_r44 Ln I (zw A 49 ((v1).toNatClampNeg) (v3 + v5)) ) 57 (v1).toNatClampNeg) then (LA_X8_favours_r44_83 m Ln (SI_X8_goAll_r44 Ln I (zw A 49 ((v1).toNatClampNeg) (v3 + v5)) ) (SA_X8_goAll_r44 Ln I (zw A 49 ((v1).toNatClampNeg) (v3 + v5)) ) v1 v2 v3 v4 (v5 + (Int32.ofInt (-1)))) else (LA_X8_favours_r44_83 m Ln (SI_X8_goAll_r44 Ln I (zw A 49 ((v1).toNatClampNeg) (v3 + v5)) ) (SA_X8_goAll_r44 Ln I (zw A 49 ((v1).toNatClampNeg) (v3 + v5)) ) v1 v2 v3 v5 (v5 + (Int32.ofInt (-1)))))
def PLA_X8_favours_r44_83 : Nat → (Ln : Nat) → (I A : Nat → Nat → Int32) → Int32 → Int32 → Int32 → Int32 → Int32 → Prop
  | 0, Ln, I, A, v1, v2, v3, v4, v5 => False
  | m + 1, Ln, I, A, v1, v2, v3, v4, v5 => (v5 < 0 → (zin v1 6 = true)) ∧ (¬ (v5 < 0) → ((zin v1 6 = true) ∧ (P_X8_goAll_r44 Ln I (zw A 49 ((v1).toNatClampNeg) (v3 + v5)) ) ∧ ((zin v1 6 = true) ∧ ((99 ≤ ((SA_X8_goAll_r44 Ln I (zw A 49 ((v1).toNatClampNeg) (v3 + v5)) ) 57 (v1).toNatClampNeg) → (PLA_X8_favours_r44_83 m Ln (SI_X8_goAll_r44 Ln I (zw A 49 ((v1).toNatClampNeg) (v3 + v5)) ) (SA_X8_goAll_r44 Ln I (zw A 49 ((v1).toNatClampNeg) (v3 + v5)) ) v1 v2 v3 v4 (v5 + (Int32.ofInt (-1))))) ∧ (¬ (99 ≤ ((SA_X8_goAll_r44 Ln I (zw A 49 ((v1).toNatClampNeg) (v3 + v5)) ) 57 (v1).toNatClampNeg)) → (PLA_X8_favours_r44_83 m Ln (SI_X8_goAll_r44 Ln I (zw A 49 ((v1).toNatClampNeg) (v3 + v5)) ) (SA_X8_goAll_r44 Ln I (zw A 49 ((v1).toNatClampNeg) (v3 + v5)) ) v1 v2 v3 v5 (v5 + (Int32.ofInt (-1)))))))))
set_option maxRecDepth 100000 in
theorem MLA_X8_favours_r44_83 (m Ln : Nat) : ∀ (I A : Nat → Nat → Int32) (v1 : Int32) (v2 : Int32) (v3 : Int32) (v4 : Int32) (v5 : Int32), PLA_X8_favours_r44_83 m Ln I A v1 v2 v3 v4 v5 → zEv 141 83 0 0 [some (.ref 44), some (.int v1), some (.int v2), some (.int v3), some (.int v4), some (.int v5)] [] (zGs Ln I A) (some (.int (LA_X8_favours_r44_83 m Ln I A v1 v2 v3 v4 v5).1), zGs Ln (LA_X8_favours_r44_83 m Ln I A v1 v2 v3 v4 v5).2.1 (LA_X8_favours_r44_83 m Ln I A v1 v2 v3 v4 v5).2.2) := by
  induction m with
  | zero => intro I A v1 v2 v3 v4 v5 h; exact h.elim
  | succ m ih =>
    intro I A v1 v2 v3 v4 v5 h
    simp only [PLA_X8_favours_r44_83] at h
    simp only [LA_X8_favours_r44_83]
    refine B_X8_favours_r44_83 Ln I A v1 v2 v3 v4 v5  (fun q2 => ?_) (fun q2 => ?_)
    · try simp only [if_pos q2]
      have h3 := h.1 q2
      exact B_X8_favours_r44_128 Ln I A v1 v2 v3 v4 v5 h3
    · try simp only [if_neg q2]
      have h5 := h.2 q2
      obtain ⟨g6_0, g6_1, r7_⟩ := h5
      refine B_X8_favours_r44_88 Ln I A v1 v2 v3 v4 v5 g6_0 (M_X8_goAll_r44 Ln I (zw A 49 ((v1).toNatClampNeg) (v3 + v5))  g6_1) rfl ?_
      obtain ⟨g8_0, r9_⟩ := r7_
      refine B_X8_favours_r44_102 Ln (SI_X8_goAll_r44 Ln I (zw A 49 ((v1).toNatClampNeg) (v3 + v5)) ) (SA_X8_goAll_r44 Ln I (zw A 49 ((v1).toNatClampNeg) (v3 + v5)) ) v1 v2 v3 v4 v5 g8_0 (fun q10 => ?_) (fun q10 => ?_)
      · try simp only [if_pos q10]
        have h11 := r9_.1 q10
        refine B_X8_favours_r44_118 Ln (SI_X8_goAll_r44 Ln I (zw A 49 ((v1).toNatClampNeg) (v3 + v5)) ) (SA_X8_goAll_r44 Ln I (zw A 49 ((v1).toNatClampNeg) (v3 + v5)) ) v1 v2 v3 v4 v5  ?_
        refine B_X8_favours_r44_120_s1 Ln (SI_X8_goAll_r44 Ln I (zw A 49 ((v1).toNatClampNeg) (v3 + v5)) ) (SA_X8_goAll_r44 Ln I (zw A 49 ((v1).toNatClampNeg) (v3 + v5)) ) v1 v2 v3 v4 v5 v4  ?_
        exact ih (SI_X8_goAll_r44 Ln I (zw A 49 ((v1).toNatClampNeg) (v3 + v5)) ) (SA_X8_goAll_r44 Ln I (zw A 49 ((v1).toNatClampNeg) (v3 + v5)) ) v1 v2 v3 v4 (v5 + (Int32.ofInt (-1))) h11
      · try simp only [if_neg q10]
        have h16 := r9_.2 q10
        refine B_X8_favours_r44_113 Ln (SI_X8_goAll_r44 Ln I (zw A 49 ((v1).toNatClampNeg) (v3 + v5)) ) (SA_X8_goAll_r44 Ln I (zw A 49 ((v1).toNatClampNeg) (v3 + v5)) ) v1 v2 v3 v4 v5  ?_
        refine B_X8_favours_r44_120_s1 Ln (SI_X8_goAll_r44 Ln I (zw A 49 ((v1).toNatClampNeg) (v3 + v5)) ) (SA_X8_goAll_r44 Ln I (zw A 49 ((v1).toNatClampNeg) (v3 + v5)) ) v1 v2 v3 v4 v5 v5  ?_
        exact ih (SI_X8_goAll_r44 Ln I (zw A 49 ((v1).toNatClampNeg) (v3 + v5)) ) (SA_X8_goAll_r44 Ln I (zw A 49 ((v1).toNatClampNeg) (v3 + v5)) ) v1 v2 v3 v5 (v5 + (Int32.ofInt (-1))) h16
def LA_X8_favours_r44_35 : Nat → (Ln : Nat) → (I A : Nat → Nat → Int32) → Int32 → Int32 → Int32 → Int32 → Int32 × (Nat → Nat → Int32) × (Nat → Nat → Int32)
  | 0, Ln, I, A, v1, v2, v3, v4 => (0, I, A)
  | m + 1, Ln, I, A, v1, v2, v3, v4 => if (I 44 20) ≤ v4 then (LA_X8_favours_r44_83 1000 Ln I A v1 v2 v3 (-9) 9) else (if (A 55 (v4).toNatClampNeg) ≠ v1 then (LA_X8_favours_r44_35 m Ln I A v1 v2 (v3 - 0) (v4 + 1)) else (LA_X8_favours_r44_35 m Ln I A v1 v2 (v3 - (A 56 (v4).toNatClampNeg)) (v4 + 1)))
def PLA_X8_favours_r44_35 : Nat → (Ln : Nat) → (I A : Nat → Nat → Int32) → Int32 → Int32 → Int32 → Int32 → Prop
  | 0, Ln, I, A, v1, v2, v3, v4 => False
  | m + 1, Ln, I, A, v1, v2, v3, v4 => ((I 44 20) ≤ v4 → (PLA_X8_favours_r44_83 1000 Ln I A v1 v2 v3 (-9) 9)) ∧ (¬ ((I 44 20) ≤ v4) → ((zin v4 6 = true) ∧ (((A 55 (v4).toNatClampNeg) ≠ v1 → (PLA_X8_favours_r44_35 m Ln I A v1 v2 (v3 - 0) (v4 + 1))) ∧ (¬ ((A 55 (v4).toNatClampNeg) ≠ v1) → ((zin v4 6 = true) ∧ (PLA_X8_favours_r44_35 m Ln I A v1 v2 (v3 - (A 56 (v4).toNatClampNeg)) (v4 + 1)))))))
set_option maxRecDepth 100000 in
theorem MLA_X8_favours_r44_35 (m Ln : Nat) : ∀ (I A : Nat → Nat → Int32) (v1 : Int32) (v2 : Int32) (v3 : Int32) (v4 : Int32), PLA_X8_favours_r44_35 m Ln I A v1 v2 v3 v4 → zEv 141 35 0 0 [some (.ref 44), some (.int v1), some (.int v2), some (.int v3), some (.int v4), none] [] (zGs Ln I A) (some (.int (LA_X8_favours_r44_35 m Ln I A v1 v2 v3 v4).1), zGs Ln (LA_X8_favours_r44_35 m Ln I A v1 v2 v3 v4).2.1 (LA_X8_favours_r44_35 m Ln I A v1 v2 v3 v4).2.2) := by
  induction m with
  | zero => intro I A v1 v2 v3 v4 h; exact h.elim
  | succ m ih =>
    intro I A v1 v2 v3 v4 h
    simp only [PLA_X8_favours_r44_35] at h
    simp only [LA_X8_favours_r44_35]
    refine B_X8_favours_r44_35 Ln I A v1 v2 v3 v4  (fun q2 => ?_) (fun q2 => ?_)
    · try simp only [if_pos q2]
      have h3 := h.1 q2
      refine B_X8_favours_r44_75 Ln I A v1 v2 v3 v4  ?_
      exact MLA_X8_favours_r44_83 1000 Ln I A v1 v2 v3 (-9) 9 h3
    · try simp only [if_neg q2]
      have h6 := h.2 q2
      obtain ⟨g7_0, r8_⟩ := h6
      refine B_X8_favours_r44_44 Ln I A v1 v2 v3 v4 g7_0 (fun q9 => ?_) (fun q9 => ?_)
      · try simp only [if_pos q9]
        have h10 := r8_.1 q9
        refine B_X8_favours_r44_66_s1 Ln I A v1 v2 v3 v4 v3  ?_
        refine B_X8_favours_r44_67_s2 Ln I A v1 v2 v3 v4 v3 0  ?_
        exact ih I A v1 v2 (v3 - 0) (v4 + 1) h10
      · try simp only [if_neg q9]
        have h15 := r8_.2 q9
        obtain ⟨g16_0, r17_⟩ := h15
        refine B_X8_favours_r44_56_s1 Ln I A v1 v2 v3 v4 v3 g16_0 ?_
        refine B_X8_favours_r44_67_s2 Ln I A v1 v2 v3 v4 v3 (A 56 (v4).toNatClampNeg)  ?_
        exact ih I A v1 v2 (v3 - (A 56 (v4).toNatClampNeg)) (v4 + 1) r17_
def V_X8_favours_r44 (Ln : Nat) (I A : Nat → Nat → Int32) (v1 : Int32) : Int32 := if (V_X8_noShade_r44 Ln I A v1) = 0 then (if (A 45 (v1).toNatClampNeg) = 2 then ((LA_X8_favours_r44_35 1000 Ln I A v1 (A 49 (v1).toNatClampNeg) (A 49 (v1).toNatClampNeg) 0).1) else (-3)) else (-1)
def SI_X8_favours_r44 (Ln : Nat) (I A : Nat → Nat → Int32) (v1 : Int32) : Nat → Nat → Int32 := if (V_X8_noShade_r44 Ln I A v1) = 0 then (if (A 45 (v1).toNatClampNeg) = 2 then ((LA_X8_favours_r44_35 1000 Ln I A v1 (A 49 (v1).toNatClampNeg) (A 49 (v1).toNatClampNeg) 0).2.1) else I) else I
def SA_X8_favours_r44 (Ln : Nat) (I A : Nat → Nat → Int32) (v1 : Int32) : Nat → Nat → Int32 := if (V_X8_noShade_r44 Ln I A v1) = 0 then (if (A 45 (v1).toNatClampNeg) = 2 then ((LA_X8_favours_r44_35 1000 Ln I A v1 (A 49 (v1).toNatClampNeg) (A 49 (v1).toNatClampNeg) 0).2.2) else A) else A
def P_X8_favours_r44 (Ln : Nat) (I A : Nat → Nat → Int32) (v1 : Int32) : Prop := ((V_X8_noShade_r44 Ln I A v1) = 0 → ((zin v1 6 = true) ∧ (((A 45 (v1).toNatClampNeg) = 2 → ((zin v1 6 = true) ∧ (PLA_X8_favours_r44_35 1000 Ln I A v1 (A 49 (v1).toNatClampNeg) (A 49 (v1).toNatClampNeg) 0))) ∧ (¬ ((A 45 (v1).toNatClampNeg) = 2) → True)))) ∧ (¬ ((V_X8_noShade_r44 Ln I A v1) = 0) → True)
set_option maxRecDepth 100000 in
theorem M_X8_favours_r44 (Ln : Nat) (I A : Nat → Nat → Int32) (v1 : Int32) (h : P_X8_favours_r44 Ln I A v1) : zEv 141 0 0 0 [some (.ref 44), some (.int v1), none, none, none, none] [] (zGs Ln I A) (some (.int (V_X8_favours_r44 Ln I A v1)), zGs Ln (SI_X8_favours_r44 Ln I A v1) (SA_X8_favours_r44 Ln I A v1)) := by
  unfold P_X8_favours_r44 at h
  unfold V_X8_favours_r44 SI_X8_favours_r44 SA_X8_favours_r44
  refine B_X8_favours_r44_0 Ln I A v1  (M_X8_noShade_r44 Ln I A v1 ) rfl ?_
  refine B_X8_favours_r44_5_s1 Ln I A v1 (V_X8_noShade_r44 Ln I A v1)  (fun q4 => ?_) (fun q4 => ?_)
  · try simp only [if_pos q4]
    have h5 := h.1 q4
    obtain ⟨g6_0, r7_⟩ := h5
    refine B_X8_favours_r44_10 Ln I A v1 g6_0 (fun q8 => ?_) (fun q8 => ?_)
    · try simp only [if_pos q8]
      have h9 := r7_.1 q8
      obtain ⟨g10_0, r11_⟩ := h9
      refine B_X8_favours_r44_23 Ln I A v1 g10_0 ?_
      exact MLA_X8_favours_r44_35 1000 Ln I A v1 (A 49 (v1).toNatClampNeg) (A 49 (v1).toNatClampNeg) 0 r11_
    · try simp only [if_neg q8]
      exact B_X8_favours_r44_20 Ln I A v1 
  · try simp only [if_neg q4]
    exact B_X8_favours_r44_8 Ln I A v1 
def V_X8_reading_r44 (Ln : Nat) (I A : Nat → Nat → Int32) (v1 : Int32) (v2 : Int32) (v3 : Int32) : Int32 := if (V_X8_noShade_r44 Ln I A v1) ≠ 0 then (-1) else (if (V_X8_noNight Ln I A v2) = 0 then (if (I 44 31) ≠ 6 then (((I 44 31) + 1) - 1) else (-4)) else (-1))
def SI_X8_reading_r44 (Ln : Nat) (I A : Nat → Nat → Int32) (v1 : Int32) (v2 : Int32) (v3 : Int32) : Nat → Nat → Int32 := if (V_X8_noShade_r44 Ln I A v1) ≠ 0 then I else (if (V_X8_noNight Ln I A v2) = 0 then (if (I 44 31) ≠ 6 then (zp I 44 31 ((I 44 31) + 1)) else I) else I)
def SA_X8_reading_r44 (Ln : Nat) (I A : Nat → Nat → Int32) (v1 : Int32) (v2 : Int32) (v3 : Int32) : Nat → Nat → Int32 := if (V_X8_noShade_r44 Ln I A v1) ≠ 0 then A else (if (V_X8_noNight Ln I A v2) = 0 then (if (I 44 31) ≠ 6 then (zw (zw (zw A 62 ((I 44 31).toNatClampNeg) v1) 63 ((I 44 31).toNatClampNeg) v2) 64 ((I 44 31).toNatClampNeg) (vp_nar .boolean v3)) else A) else A)
def P_X8_reading_r44 (Ln : Nat) (I A : Nat → Nat → Int32) (v1 : Int32) (v2 : Int32) (v3 : Int32) : Prop := ((V_X8_noShade_r44 Ln I A v1) ≠ 0 → True) ∧ (¬ ((V_X8_noShade_r44 Ln I A v1) ≠ 0) → (((V_X8_noNight Ln I A v2) = 0 → (((I 44 31) ≠ 6 → ((zin (I 44 31) 6 = true) ∧ (zin (I 44 31) 6 = true) ∧ (zin (I 44 31) 6 = true))) ∧ (¬ ((I 44 31) ≠ 6) → True))) ∧ (¬ ((V_X8_noNight Ln I A v2) = 0) → True)))
set_option maxRecDepth 100000 in
theorem M_X8_reading_r44 (Ln : Nat) (I A : Nat → Nat → Int32) (v1 : Int32) (v2 : Int32) (v3 : Int32) (h : P_X8_reading_r44 Ln I A v1 v2 v3) : zEv 142 0 0 0 [some (.ref 44), some (.int v1), some (.int v2), some (.int v3)] [] (zGs Ln I A) (some (.int (V_X8_reading_r44 Ln I A v1 v2 v3)), zGs Ln (SI_X8_reading_r44 Ln I A v1 v2 v3) (SA_X8_reading_r44 Ln I A v1 v2 v3)) := by
  unfold P_X8_reading_r44 at h
  unfold V_X8_reading_r44 SI_X8_reading_r44 SA_X8_reading_r44
  refine B_X8_reading_r44_0 Ln I A v1 v2 v3  (M_X8_noShade_r44 Ln I A v1 ) rfl ?_
  refine B_X8_reading_r44_5_s1 Ln I A v1 v2 v3 (V_X8_noShade_r44 Ln I A v1)  (fun q4 => ?_) (fun q4 => ?_)
  · try simp only [if_pos q4]
    exact B_X8_reading_r44_15 Ln I A v1 v2 v3 
  · try simp only [if_neg q4]
    have h5 := h.2 q4
    refine B_X8_reading_r44_8 Ln I A v1 v2 v3  (M_X8_noNight Ln I A v2 ) rfl ?_
    refine B_X8_reading_r44_12_s1 Ln I A v1 v2 v3 (V_X8_noNight Ln I A v2)  (fun q10 => ?_) (fun q10 => ?_)
    · try simp only [if_pos q10]
      have h11 := h5.1 q10
      refine B_X8_reading_r44_17 Ln I A v1 v2 v3  (fun q14 => ?_) (fun q14 => ?_)
      · try simp only [if_pos q14]
        have h15 := h11.1 q14
        obtain ⟨g16_0, g16_1, g16_2⟩ := h15
        exact B_X8_reading_r44_29 Ln I A v1 v2 v3 g16_0 g16_1 g16_2
      · try simp only [if_neg q14]
        exact B_X8_reading_r44_26 Ln I A v1 v2 v3 
    · try simp only [if_neg q10]
      exact B_X8_reading_r44_15 Ln I A v1 v2 v3 
def V_X8_back_r44 (Ln : Nat) (I A : Nat → Nat → Int32) (v1 : Int32) : Int32 := if (V_X8_in Ln I A (Int32.toInt64 v1) 0 (Int32.toInt64 (I 44 31))) ≠ 0 then ((I 44 31) - v1) else (-2)
def SI_X8_back_r44 (Ln : Nat) (I A : Nat → Nat → Int32) (v1 : Int32) : Nat → Nat → Int32 := if (V_X8_in Ln I A (Int32.toInt64 v1) 0 (Int32.toInt64 (I 44 31))) ≠ 0 then (zp I 44 31 ((I 44 31) - v1)) else I
set_option maxRecDepth 100000 in
theorem M_X8_back_r44 (Ln : Nat) (I A : Nat → Nat → Int32) (v1 : Int32) : zEv 143 0 0 0 [some (.ref 44), some (.int v1)] [] (zGs Ln I A) (some (.int (V_X8_back_r44 Ln I A v1)), zGs Ln (SI_X8_back_r44 Ln I A v1) (A)) := by
  unfold V_X8_back_r44 SI_X8_back_r44
  refine B_X8_back_r44_0 Ln I A v1  (M_X8_in Ln I A (Int32.toInt64 v1) 0 (Int32.toInt64 (I 44 31)) ) rfl ?_
  refine B_X8_back_r44_11_s1 Ln I A v1 (V_X8_in Ln I A (Int32.toInt64 v1) 0 (Int32.toInt64 (I 44 31)))  (fun q0 => ?_) (fun q0 => ?_)
  · try simp only [if_pos q0]
    exact B_X8_back_r44_17 Ln I A v1 
  · try simp only [if_neg q0]
    exact B_X8_back_r44_14 Ln I A v1 
