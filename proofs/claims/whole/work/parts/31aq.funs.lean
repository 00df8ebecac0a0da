/-! methods, by program (wip/whole/gen_fun.py, gen_loop.py) -/
def LA_X0_become_r11_r10_46 : Nat → (Ln : Nat) → (I A : Nat → Nat → Int32) → Int32 → Int32 → Int32 → (Option Int32) → (Nat → Nat → Int32)
  | 0, Ln, I, A, v2, v3, v4, j5 => A
  | m + 1, Ln, I, A, v2, v3, v4, j5 => if (I 11 0) ≤ v4 then (SA_X0_findLoads_r11 Ln I (SA_X0_findComing_r11 Ln I A ) ) else (LA_X0_become_r11_r10_46 m Ln I (zw (zw (zw (zw A 12 ((v4).toNatClampNeg) (V_X5_kindOf Ln I A (A 10 (((v2 + 5) + (v4 * 6)) + 1).toNatClampNeg))) 13 ((v4).toNatClampNeg) (V_X5_digit_r10 Ln I (zw A 12 ((v4).toNatClampNeg) (V_X5_kindOf Ln I A (A 10 (((v2 + 5) + (v4 * 6)) + 1).toNatClampNeg))) (((v2 + 5) + (v4 * 6)) + 2))) 14 ((v4).toNatClampNeg) (V_X5_digit_r10 Ln I (zw (zw A 12 ((v4).toNatClampNeg) (V_X5_kindOf Ln I A (A 10 (((v2 + 5) + (v4 * 6)) + 1).toNatClampNeg))) 13 ((v4).toNatClampNeg) (V_X5_digit_r10 Ln I (zw A 12 ((v4).toNatClampNeg) (V_X5_kindOf Ln I A (A 10 (((v2 + 5) + (v4 * 6)) + 1).toNatClampNeg))) (((v2 + 5) + (v4 * 6)) + 2))) (((v2 + 5) + (v4 * 6)) + 3))) 15 ((v4).toNatClampNeg) (V_X5_twoDigits_r10 Ln I (zw (zw (zw A 12 ((v4).toNatClampNeg) (V_X5_kindOf Ln I A (A 10 (((v2 + 5) + (v4 * 6)) + 1).toNatClampNeg))) 13 ((v4).toNatClampNeg) (V_X5_digit_r10 Ln I (zw A 12 ((v4).toNatClampNeg) (V_X5_kindOf Ln I A (A 10 (((v2 + 5) + (v4 * 6)) + 1).toNatClampNeg))) (((v2 + 5) + (v4 * 6)) + 2))) 14 ((v4).toNatClampNeg) (V_X5_digit_r10 Ln I (zw (zw A 12 ((v4).toNatClampNeg) (V_X5_kindOf Ln I A (A 10 (((v2 + 5) + (v4 * 6)) + 1).toNatClampNeg))) 13 ((v4).toNatClampNeg) (V_X5_digit_r10 Ln I (zw A 12 ((v4).toNatClampNeg) (V_X5_kindOf Ln I A (A 10 (((v2 + 5) + (v4 * 6)) + 1).toNatClampNeg))) (((v2 + 5) + (v4 * 6)) + 2))) (((v2 + 5) + (v4 * 6)) + 3))) (((v2 + 5) + (v4 * 6)) + 4))) v2 v3 (v4 + 1) (some ((v2 + 5) + (v4 * 6))))
def PLA_X0_become_r11_r10_46 : Nat → (Ln : Nat) → (I A : Nat → Nat → Int32) → Int32 → Int32 → Int32 → (Option Int32) → Prop
  | 0, Ln, I, A, v2, v3, v4, j5 => False
  | m + 1, Ln, I, A, v2, v3, v4, j5 => ((I 11 0) ≤ v4 → ((P_X0_findComing_r11 Ln I A ) ∧ (P_X0_findLoads_r11 Ln I (SA_X0_findComing_r11 Ln I A ) ))) ∧ (¬ ((I 11 0) ≤ v4) → ((zin (((v2 + 5) + (v4 * 6)) + 1) 60 = true) ∧ ((zin v4 6 = true) ∧ (P_X5_digit_r10 Ln I (zw A 12 ((v4).toNatClampNeg) (V_X5_kindOf Ln I A (A 10 (((v2 + 5) + (v4 * 6)) + 1).toNatClampNeg))) (((v2 + 5) + (v4 * 6)) + 2)) ∧ ((zin v4 6 = true) ∧ (P_X5_digit_r10 Ln I (zw (zw A 12 ((v4).toNatClampNeg) (V_X5_kindOf Ln I A (A 10 (((v2 + 5) + (v4 * 6)) + 1).toNatClampNeg))) 13 ((v4).toNatClampNeg) (V_X5_digit_r10 Ln I (zw A 12 ((v4).toNatClampNeg) (V_X5_kindOf Ln I A (A 10 (((v2 + 5) + (v4 * 6)) + 1).toNatClampNeg))) (((v2 + 5) + (v4 * 6)) + 2))) (((v2 + 5) + (v4 * 6)) + 3)) ∧ ((zin v4 6 = true) ∧ (P_X5_twoDigits_r10 Ln I (zw (zw (zw A 12 ((v4).toNatClampNeg) (V_X5_kindOf Ln I A (A 10 (((v2 + 5) + (v4 * 6)) + 1).toNatClampNeg))) 13 ((v4).toNatClampNeg) (V_X5_digit_r10 Ln I (zw A 12 ((v4).toNatClampNeg) (V_X5_kindOf Ln I A (A 10 (((v2 + 5) + (v4 * 6)) + 1).toNatClampNeg))) (((v2 + 5) + (v4 * 6)) + 2))) 14 ((v4).toNatClampNeg) (V_X5_digit_r10 Ln I (zw (zw A 12 ((v4).toNatClampNeg) (V_X5_kindOf Ln I A (A 10 (((v2 + 5) + (v4 * 6)) + 1).toNatClampNeg))) 13 ((v4).toNatClampNeg) (V_X5_digit_r10 Ln I (zw A 12 ((v4).toNatClampNeg) (V_X5_kindOf Ln I A (A 10 (((v2 + 5) + (v4 * 6)) + 1).toNatClampNeg))) (((v2 + 5) + (v4 * 6)) + 2))) (((v2 + 5) + (v4 * 6)) + 3))) (((v2 + 5) + (v4 * 6)) + 4)) ∧ ((zin v4 6 = true) ∧ (PLA_X0_become_r11_r10_46 m Ln I (zw (zw (zw (zw A 12 ((v4).toNatClampNeg) (V_X5_kindOf Ln I A (A 10 (((v2 + 5) + (v4 * 6)) + 1).toNatClampNeg))) 13 ((v4).toNatClampNeg) (V_X5_digit_r10 Ln I (zw A 12 ((v4).toNatClampNeg) (V_X5_kindOf Ln I A (A 10 (((v2 + 5) + (v4 * 6)) + 1).toNatClampNeg))) (((v2 + 5) + (v4 * 6)) + 2))) 14 ((v4).toNatClampNeg) (V_X5_digit_r10 Ln I (zw (zw A 12 ((v4).toNatClampNeg) (V_X5_kindOf Ln I A (A 10 (((v2 + 5) + (v4 * 6)) + 1).toNatClampNeg))) 13 ((v4).toNatClampNeg) (V_X5_digit_r10 Ln I (zw A 12 ((v4).toNatClampNeg) (V_X5_kindOf Ln I A (A 10 (((v2 + 5) + (v4 * 6)) + 1).toNatClampNeg))) (((v2 + 5) + (v4 * 6)) + 2))) (((v2 + 5) + (v4 * 6)) + 3))) 15 ((v4).toNatClampNeg) (V_X5_twoDigits_r10 Ln I (zw (zw (zw A 12 ((v4).toNatClampNeg) (V_X5_kindOf Ln I A (A 10 (((v2 + 5) + (v4 * 6)) + 1).toNatClampNeg))) 13 ((v4).toNatClampNeg) (V_X5_digit_r10 Ln I (zw A 12 ((v4).toNatClampNeg) (V_X5_kindOf Ln I A (A 10 (((v2 + 5) + (v4 * 6)) + 1).toNatClampNeg))) (((v2 + 5) + (v4 * 6)) + 2))) 14 ((v4).toNatClampNeg) (V_X5_digit_r10 Ln I (zw (zw A 12 ((v4).toNatClampNeg) (V_X5_kindOf Ln I A (A 10 (((v2 + 5) + (v4 * 6)) + 1).toNatClampNeg))) 13 ((v4).toNatClampNeg) (V_X5_digit_r10 Ln I (zw A 12 ((v4).toNatClampNeg) (V_X5_kindOf Ln I A (A 10 (((v2 + 5) + (v4 * 6)) + 1).toNatClampNeg))) (((v2 + 5) + (v4 * 6)) + 2))) (((v2 + 5) + (v4 * 6)) + 3))) (((v2 + 5) + (v4 * 6)) + 4))) v2 v3 (v4 + 1) (some ((v2 + 5) + (v4 * 6))))))))))
set_option maxRecDepth 100000 in
theorem MLA_X0_become_r11_r10_46 (m Ln : Nat) : ∀ (I A : Nat → Nat → Int32) (v2 : Int32) (v3 : Int32) (v4 : Int32) (j5 : Option Int32), PLA_X0_become_r11_r10_46 m Ln I A v2 v3 v4 j5 → zEv 1 46 0 0 [some (.ref 11), some (.ref 10), some (.int v2), some (.int v3), some (.int v4), (Option.map Value.int j5)] [] (zGs Ln I A) (none, zGs Ln I (LA_X0_become_r11_r10_46 m Ln I A v2 v3 v4 j5)) := by
  induction m with
  | zero => intro I A v2 v3 v4 j5 h; exact h.elim
  | succ m ih =>
    intro I A v2 v3 v4 j5 h
    simp only [PLA_X0_become_r11_r10_46] at h
    simp only [LA_X0_become_r11_r10_46]
    refine B_X0_become_r11_r10_46 Ln I A v2 v3 v4 j5  (fun q2 => ?_) (fun q2 => ?_)
    · try simp only [if_pos q2]
      have h3 := h.1 q2
      obtain ⟨g4_0, r5_⟩ := h3
      refine B_X0_become_r11_r10_133 Ln I A v2 v3 v4 j5  (M_X0_findComing_r11 Ln I A  g4_0) rfl ?_
      refine B_X0_become_r11_r10_137 Ln I (SA_X0_findComing_r11 Ln I A ) v2 v3 v4 j5  (M_X0_findLoads_r11 Ln I (SA_X0_findComing_r11 Ln I A )  r5_) rfl ?_
      exact B_X0_become_r11_r10_141 Ln I (SA_X0_findLoads_r11 Ln I (SA_X0_findComing_r11 Ln I A ) ) v2 v3 v4 j5 
    · try simp only [if_neg q2]
      have h7 := h.2 q2
      obtain ⟨g8_0, r9_⟩ := h7
      refine B_X0_become_r11_r10_55 Ln I A v2 v3 v4 j5 g8_0 (M_X5_kindOf Ln I A (A 10 (((v2 + 5) + (v4 * 6)) + 1).toNatClampNeg) ) rfl ?_
      obtain ⟨g10_0, g10_1, r11_⟩ := r9_
      refine B_X0_become_r11_r10_81_s3 Ln I A v2 v3 v4 ((v2 + 5) + (v4 * 6)) v4 (V_X5_kindOf Ln I A (A 10 (((v2 + 5) + (v4 * 6)) + 1).toNatClampNeg)) g10_0 (M_X5_digit_r10 Ln I (zw A 12 ((v4).toNatClampNeg) (V_X5_kindOf Ln I A (A 10 (((v2 + 5) + (v4 * 6)) + 1).toNatClampNeg))) (((v2 + 5) + (v4 * 6)) + 2) g10_1) rfl ?_
      obtain ⟨g12_0, g12_1, r13_⟩ := r11_
      refine B_X0_become_r11_r10_96_s3 Ln I (zw A 12 ((v4).toNatClampNeg) (V_X5_kindOf Ln I A (A 10 (((v2 + 5) + (v4 * 6)) + 1).toNatClampNeg))) v2 v3 v4 ((v2 + 5) + (v4 * 6)) v4 (V_X5_digit_r10 Ln I (zw A 12 ((v4).toNatClampNeg) (V_X5_kindOf Ln I A (A 10 (((v2 + 5) + (v4 * 6)) + 1).toNatClampNeg))) (((v2 + 5) + (v4 * 6)) + 2)) g12_0 (M_X5_digit_r10 Ln I (zw (zw A 12 ((v4).toNatClampNeg) (V_X5_kindOf Ln I A (A 10 (((v2 + 5) + (v4 * 6)) + 1).toNatClampNeg))) 13 ((v4).toNatClampNeg) (V_X5_digit_r10 Ln I (zw A 12 ((v4).toNatClampNeg) (V_X5_kindOf Ln I A (A 10 (((v2 + 5) + (v4 * 6)) + 1).toNatClampNeg))) (((v2 + 5) + (v4 * 6)) + 2))) (((v2 + 5) + (v4 * 6)) + 3) g12_1) rfl ?_
      obtain ⟨g14_0, g14_1, r15_⟩ := r13_
      refine B_X0_become_r11_r10_111_s3 Ln I (zw (zw A 12 ((v4).toNatClampNeg) (V_X5_kindOf Ln I A (A 10 (((v2 + 5) + (v4 * 6)) + 1).toNatClampNeg))) 13 ((v4).toNatClampNeg) (V_X5_digit_r10 Ln I (zw A 12 ((v4).toNatClampNeg) (V_X5_kindOf Ln I A (A 10 (((v2 + 5) + (v4 * 6)) + 1).toNatClampNeg))) (((v2 + 5) + (v4 * 6)) + 2))) v2 v3 v4 ((v2 + 5) + (v4 * 6)) v4 (V_X5_digit_r10 Ln I (zw (zw A 12 ((v4).toNatClampNeg) (V_X5_kindOf Ln I A (A 10 (((v2 + 5) + (v4 * 6)) + 1).toNatClampNeg))) 13 ((v4).toNatClampNeg) (V_X5_digit_r10 Ln I (zw A 12 ((v4).toNatClampNeg) (V_X5_kindOf Ln I A (A 10 (((v2 + 5) + (v4 * 6)) + 1).toNatClampNeg))) (((v2 + 5) + (v4 * 6)) + 2))) (((v2 + 5) + (v4 * 6)) + 3)) g14_0 (M_X5_twoDigits_r10 Ln I (zw (zw (zw A 12 ((v4).toNatClampNeg) (V_X5_kindOf Ln I A (A 10 (((v2 + 5) + (v4 * 6)) + 1).toNatClampNeg))) 13 ((v4).toNatClampNeg) (V_X5_digit_r10 Ln I (zw A 12 ((v4).toNatClampNeg) (V_X5_kindOf Ln I A (A 10 (((v2 + 5) + (v4 * 6)) + 1).toNatClampNeg))) (((v2 + 5) + (v4 * 6)) + 2))) 14 ((v4).toNatClampNeg) (V_X5_digit_r10 Ln I (zw (zw A 12 ((v4).toNatClampNeg) (V_X5_kindOf Ln I A (A 10 (((v2 + 5) + (v4 * 6)) + 1).toNatClampNeg))) 13 ((v4).toNatClampNeg) (V_X5_digit_r10 Ln I (zw A 12 ((v4).toNatClampNeg) (V_X5_kindOf Ln I A (A 10 (((v2 + 5) + (v4 * 6)) + 1).toNatClampNeg))) (((v2 + 5) + (v4 * 6)) + 2))) (((v2 + 5) + (v4 * 6)) + 3))) (((v2 + 5) + (v4 * 6)) + 4) g14_1) rfl ?_
      obtain ⟨g16_0, r17_⟩ := r15_
      refine B_X0_become_r11_r10_126_s3 Ln I (zw (zw (zw A 12 ((v4).toNatClampNeg) (V_X5_kindOf Ln I A (A 10 (((v2 + 5) + (v4 * 6)) + 1).toNatClampNeg))) 13 ((v4).toNatClampNeg) (V_X5_digit_r10 Ln I (zw A 12 ((v4).toNatClampNeg) (V_X5_kindOf Ln I A (A 10 (((v2 + 5) + (v4 * 6)) + 1).toNatClampNeg))) (((v2 + 5) + (v4 * 6)) + 2))) 14 ((v4).toNatClampNeg) (V_X5_digit_r10 Ln I (zw (zw A 12 ((v4).toNatClampNeg) (V_X5_kindOf Ln I A (A 10 (((v2 + 5) + (v4 * 6)) + 1).toNatClampNeg))) 13 ((v4).toNatClampNeg) (V_X5_digit_r10 Ln I (zw A 12 ((v4).toNatClampNeg) (V_X5_kindOf Ln I A (A 10 (((v2 + 5) + (v4 * 6)) + 1).toNatClampNeg))) (((v2 + 5) + (v4 * 6)) + 2))) (((v2 + 5) + (v4 * 6)) + 3))) v2 v3 v4 ((v2 + 5) + (v4 * 6)) v4 (V_X5_twoDigits_r10 Ln I (zw (zw (zw A 12 ((v4).toNatClampNeg) (V_X5_kindOf Ln I A (A 10 (((v2 + 5) + (v4 * 6)) + 1).toNatClampNeg))) 13 ((v4).toNatClampNeg) (V_X5_digit_r10 Ln I (zw A 12 ((v4).toNatClampNeg) (V_X5_kindOf Ln I A (A 10 (((v2 + 5) + (v4 * 6)) + 1).toNatClampNeg))) (((v2 + 5) + (v4 * 6)) + 2))) 14 ((v4).toNatClampNeg) (V_X5_digit_r10 Ln I (zw (zw A 12 ((v4).toNatClampNeg) (V_X5_kindOf Ln I A (A 10 (((v2 + 5) + (v4 * 6)) + 1).toNatClampNeg))) 13 ((v4).toNatClampNeg) (V_X5_digit_r10 Ln I (zw A 12 ((v4).toNatClampNeg) (V_X5_kindOf Ln I A (A 10 (((v2 + 5) + (v4 * 6)) + 1).toNatClampNeg))) (((v2 + 5) + (v4 * 6)) + 2))) (((v2 + 5) + (v4 * 6)) + 3))) (((v2 + 5) + (v4 * 6)) + 4)) g16_0 ?_
      exact ih I (zw (zw (zw (zw A 12 ((v4).toNatClampNeg) (V_X5_kindOf Ln I A (A 10 (((v2 + 5) + (v4 * 6)) + 1).toNatClampNeg))) 13 ((v4).toNatClampNeg) (V_X5_digit_r10 Ln I (zw A 12 ((v4).toNatClampNeg) (V_X5_kindOf Ln I A (A 10 (((v2 + 5) + (v4 * 6)) + 1).toNatClampNeg))) (((v2 + 5) + (v4 * 6)) + 2))) 14 ((v4).toNatClampNeg) (V_X5_digit_r10 Ln I (zw (zw A 12 ((v4).toNatClampNeg) (V_X5_kindOf Ln I A (A 10 (((v2 + 5) + (v4 * 6)) + 1).toNatClampNeg))) 13 ((v4).toNatClampNeg) (V_X5_digit_r10 Ln I (zw A 12 ((v4).toNatClampNeg) (V_X5_kindOf Ln I A (A 10 (((v2 + 5) + (v4 * 6)) + 1).toNatClampNeg))) (((v2 + 5) + (v4 * 6)) + 2))) (((v2 + 5) + (v4 * 6)) + 3))) 15 ((v4).toNatClampNeg) (V_X5_twoDigits_r10 Ln I (zw (zw (zw A 12 ((v4).toNatClampNeg) (V_X5_kindOf Ln I A (A 10 (((v2 + 5) + (v4 * 6)) + 1).toNatClampNeg))) 13 ((v4).toNatClampNeg) (V_X5_digit_r10 Ln I (zw A 12 ((v4).toNatClampNeg) (V_X5_kindOf Ln I A (A 10 (((v2 + 5) + (v4 * 6)) + 1).toNatClampNeg))) (((v2 + 5) + (v4 * 6)) + 2))) 14 ((v4).toNatClampNeg) (V_X5_digit_r10 Ln I (zw (zw A 12 ((v4).toNatClampNeg) (V_X5_kindOf Ln I A (A 10 (((v2 + 5) + (v4 * 6)) + 1).toNatClampNeg))) 13 ((v4).toNatClampNeg) (V_X5_digit_r10 Ln I (zw A 12 ((v4).toNatClampNeg) (V_X5_kindOf Ln I A (A 10 (((v2 + 5) + (v4 * 6)) + 1).toNatClampNeg))) (((v2 + 5) + (v4 * 6)) + 2))) (((v2 + 5) + (v4 * 6)) + 3))) (((v2 + 5) + (v4 * 6)) + 4))) v2 v3 (v4 + 1) (some ((v2 + 5) + (v4 * 6))) r17_
def SI_X0_become_r11_r10 (Ln : Nat) (I A : Nat → Nat → Int32) (v2 : Int32) (v3 : Int32) : Nat → Nat → Int32 := zp (zp (zp (zp I 11 1 (V_X5_digit_r10 Ln I A (v2 + 1))) 11 2 (V_X5_twoDigits_r10 Ln (zp I 11 1 (V_X5_digit_r10 Ln I A (v2 + 1))) A (v2 + 2))) 11 3 (V_X5_digit_r10 Ln (zp (zp I 11 1 (V_X5_digit_r10 Ln I A (v2 + 1))) 11 2 (V_X5_twoDigits_r10 Ln (zp I 11 1 (V_X5_digit_r10 Ln I A (v2 + 1))) A (v2 + 2))) A (v2 + 4))) 11 0 ((v3 - 5) / 6)
def SA_X0_become_r11_r10 (Ln : Nat) (I A : Nat → Nat → Int32) (v2 : Int32) (v3 : Int32) : Nat → Nat → Int32 := LA_X0_become_r11_r10_46 1000 Ln (zp (zp (zp (zp I 11 1 (V_X5_digit_r10 Ln I A (v2 + 1))) 11 2 (V_X5_twoDigits_r10 Ln (zp I 11 1 (V_X5_digit_r10 Ln I A (v2 + 1))) A (v2 + 2))) 11 3 (V_X5_digit_r10 Ln (zp (zp I 11 1 (V_X5_digit_r10 Ln I A (v2 + 1))) 11 2 (V_X5_twoDigits_r10 Ln (zp I 11 1 (V_X5_digit_r10 Ln I A (v2 + 1))) A (v2 + 2))) A (v2 + 4))) 11 0 ((v3 - 5) / 6)) A v2 v3 0 none
def P_X0_become_r11_r10 (Ln : Nat) (I A : Nat → Nat → Int32) (v2 : Int32) (v3 : Int32) : Prop := (P_X5_digit_r10 Ln I A (v2 + 1)) ∧ ((P_X5_twoDigits_r10 Ln (zp I 11 1 (V_X5_digit_r10 Ln I A (v2 + 1))) A (v2 + 2)) ∧ ((P_X5_digit_r10 Ln (zp (zp I 11 1 (V_X5_digit_r10 Ln I A (v2 + 1))) 11 2 (V_X5_twoDigits_r10 Ln (zp I 11 1 (V_X5_digit_r10 Ln I A (v2 + 1))) A (v2 + 2))) A (v2 + 4)) ∧ (PLA_X0_become_r11_r10_46 1000 Ln (zp (zp (zp (zp I 11 1 (V_X5_digit_r10 Ln I A (v2 + 1))) 11 2 (V_X5_twoDigits_r10 Ln (zp I 11 1 (V_X5_digit_r10 Ln I A (v2 + 1))) A (v2 + 2))) 11 3 (V_X5_digit_r10 Ln (zp (zp I 11 1 (V_X5_digit_r10 Ln I A (v2 + 1))) 11 2 (V_X5_twoDigits_r10 Ln (zp I 11 1 (V_X5_digit_r10 Ln I A (v2 + 1))) A (v2 + 2))) A (v2 + 4))) 11 0 ((v3 - 5) / 6)) A v2 v3 0 none)))
set_option maxRecDepth 100000 in
theorem M_X0_become_r11_r10 (Ln : Nat) (I A : Nat → Nat → Int32) (v2 : Int32) (v3 : Int32) (h : P_X0_become_r11_r10 Ln I A v2 v3) : zEv 1 0 0 0 [some (.ref 11), some (.ref 10), some (.int v2), some (.int v3), none, none] [] (zGs Ln I A) (none, zGs Ln (SI_X0_become_r11_r10 Ln I A v2 v3) (SA_X0_become_r11_r10 Ln I A v2 v3)) := by
  unfold P_X0_become_r11_r10 at h
  unfold SI_X0_become_r11_r10 SA_X0_become_r11_r10
  obtain ⟨g0_0, r1_⟩ := h
  refine B_X0_become_r11_r10_0 Ln I A v2 v3  (M_X5_digit_r10 Ln I A (v2 + 1) g0_0) rfl ?_
  obtain ⟨g2_0, r3_⟩ := r1_
  refine B_X0_become_r11_r10_8_s2 Ln I A v2 v3 (V_X5_digit_r10 Ln I A (v2 + 1))  (M_X5_twoDigits_r10 Ln (zp I 11 1 (V_X5_digit_r10 Ln I A (v2 + 1))) A (v2 + 2) g2_0) rfl ?_
  obtain ⟨g4_0, r5_⟩ := r3_
  refine B_X0_become_r11_r10_19_s2 Ln (zp I 11 1 (V_X5_digit_r10 Ln I A (v2 + 1))) A v2 v3 (V_X5_twoDigits_r10 Ln (zp I 11 1 (V_X5_digit_r10 Ln I A (v2 + 1))) A (v2 + 2))  (M_X5_digit_r10 Ln (zp (zp I 11 1 (V_X5_digit_r10 Ln I A (v2 + 1))) 11 2 (V_X5_twoDigits_r10 Ln (zp I 11 1 (V_X5_digit_r10 Ln I A (v2 + 1))) A (v2 + 2))) A (v2 + 4) g4_0) rfl ?_
  refine B_X0_become_r11_r10_30_s2 Ln (zp (zp I 11 1 (V_X5_digit_r10 Ln I A (v2 + 1))) 11 2 (V_X5_twoDigits_r10 Ln (zp I 11 1 (V_X5_digit_r10 Ln I A (v2 + 1))) A (v2 + 2))) A v2 v3 (V_X5_digit_r10 Ln (zp (zp I 11 1 (V_X5_digit_r10 Ln I A (v2 + 1))) 11 2 (V_X5_twoDigits_r10 Ln (zp I 11 1 (V_X5_digit_r10 Ln I A (v2 + 1))) A (v2 + 2))) A (v2 + 4))  ?_
  exact MLA_X0_become_r11_r10_46 1000 Ln (zp (zp (zp (zp I 11 1 (V_X5_digit_r10 Ln I A (v2 + 1))) 11 2 (V_X5_twoDigits_r10 Ln (zp I 11 1 (V_X5_digit_r10 Ln I A (v2 + 1))) A (v2 + 2))) 11 3 (V_X5_digit_r10 Ln (zp (zp I 11 1 (V_X5_digit_r10 Ln I A (v2 + 1))) 11 2 (V_X5_twoDigits_r10 Ln (zp I 11 1 (V_X5_digit_r10 Ln I A (v2 + 1))) A (v2 + 2))) A (v2 + 4))) 11 0 ((v3 - 5) / 6)) A v2 v3 0 none r5_
def SI_X4_renew_r3 (Ln : Nat) (I A : Nat → Nat → Int32) (v1 : Int32) (v2 : Int32) : Nat → Nat → Int32 := (zp (zp (zp I 3 1 1) 3 2 v1) 3 3 v2)
def SA_X4_renew_r3 (Ln : Nat) (I A : Nat → Nat → Int32) (v1 : Int32) (v2 : Int32) : Nat → Nat → Int32 := (SA_J7_fill_53178_r4 Ln (zp (zp (zp I 3 1 1) 3 2 v1) 3 3 v2) A 0)
def P_X4_renew_r3 (Ln : Nat) (I A : Nat → Nat → Int32) (v1 : Int32) (v2 : Int32) : Prop := (P_J7_fill_53178_r4 Ln (zp (zp (zp I 3 1 1) 3 2 v1) 3 3 v2) A 0)
set_option maxRecDepth 100000 in
theorem M_X4_renew_r3 (Ln : Nat) (I A : Nat → Nat → Int32) (v1 : Int32) (v2 : Int32) (h : P_X4_renew_r3 Ln I A v1 v2) : zEv 22 0 0 0 [some (.ref 3), some (.int v1), some (.int v2)] [] (zGs Ln I A) (none, zGs Ln (SI_X4_renew_r3 Ln I A v1 v2) (SA_X4_renew_r3 Ln I A v1 v2)) := by
  unfold P_X4_renew_r3 at h
  unfold SI_X4_renew_r3 SA_X4_renew_r3
  refine B_X4_renew_r3_0 Ln I A v1 v2  (M_J7_fill_53178_r4 Ln (zp (zp (zp I 3 1 1) 3 2 v1) 3 3 v2) A 0 h) rfl ?_
  exact B_X4_renew_r3_23 Ln (zp (zp (zp I 3 1 1) 3 2 v1) 3 3 v2) (SA_J7_fill_53178_r4 Ln (zp (zp (zp I 3 1 1) 3 2 v1) 3 3 v2) A 0) v1 v2 
def SI_X4_renew_r5 (Ln : Nat) (I A : Nat → Nat → Int32) (v1 : Int32) (v2 : Int32) : Nat → Nat → Int32 := (zp (zp (zp I 5 1 1) 5 2 v1) 5 3 v2)
def SA_X4_renew_r5 (Ln : Nat) (I A : Nat → Nat → Int32) (v1 : Int32) (v2 : Int32) : Nat → Nat → Int32 := (SA_J7_fill_53178_r6 Ln (zp (zp (zp I 5 1 1) 5 2 v1) 5 3 v2) A 0)
def P_X4_renew_r5 (Ln : Nat) (I A : Nat → Nat → Int32) (v1 : Int32) (v2 : Int32) : Prop := (P_J7_fill_53178_r6 Ln (zp (zp (zp I 5 1 1) 5 2 v1) 5 3 v2) A 0)
set_option maxRecDepth 100000 in
theorem M_X4_renew_r5 (Ln : Nat) (I A : Nat → Nat → Int32) (v1 : Int32) (v2 : Int32) (h : P_X4_renew_r5 Ln I A v1 v2) : zEv 22 0 0 0 [some (.ref 5), some (.int v1), some (.int v2)] [] (zGs Ln I A) (none, zGs Ln (SI_X4_renew_r5 Ln I A v1 v2) (SA_X4_renew_r5 Ln I A v1 v2)) := by
  unfold P_X4_renew_r5 at h
  unfold SI_X4_renew_r5 SA_X4_renew_r5
  refine B_X4_renew_r5_0 Ln I A v1 v2  (M_J7_fill_53178_r6 Ln (zp (zp (zp I 5 1 1) 5 2 v1) 5 3 v2) A 0 h) rfl ?_
  exact B_X4_renew_r5_23 Ln (zp (zp (zp I 5 1 1) 5 2 v1) 5 3 v2) (SA_J7_fill_53178_r6 Ln (zp (zp (zp I 5 1 1) 5 2 v1) 5 3 v2) A 0) v1 v2 
def SI_X4_renew_r7 (Ln : Nat) (I A : Nat → Nat → Int32) (v1 : Int32) (v2 : Int32) : Nat → Nat → Int32 := (zp (zp (zp I 7 1 1) 7 2 v1) 7 3 v2)
def SA_X4_renew_r7 (Ln : Nat) (I A : Nat → Nat → Int32) (v1 : Int32) (v2 : Int32) : Nat → Nat → Int32 := (SA_J7_fill_53178_r8 Ln (zp (zp (zp I 7 1 1) 7 2 v1) 7 3 v2) A 0)
def P_X4_renew_r7 (Ln : Nat) (I A : Nat → Nat → Int32) (v1 : Int32) (v2 : Int32) : Prop := (P_J7_fill_53178_r8 Ln (zp (zp (zp I 7 1 1) 7 2 v1) 7 3 v2) A 0)
set_option maxRecDepth 100000 in
theorem M_X4_renew_r7 (Ln : Nat) (I A : Nat → Nat → Int32) (v1 : Int32) (v2 : Int32) (h : P_X4_renew_r7 Ln I A v1 v2) : zEv 22 0 0 0 [some (.ref 7), some (.int v1), some (.int v2)] [] (zGs Ln I A) (none, zGs Ln (SI_X4_renew_r7 Ln I A v1 v2) (SA_X4_renew_r7 Ln I A v1 v2)) := by
  unfold P_X4_renew_r7 at h
  unfold SI_X4_renew_r7 SA_X4_renew_r7
  refine B_X4_renew_r7_0 Ln I A v1 v2  (M_J7_fill_53178_r8 Ln (zp (zp (zp I 7 1 1) 7 2 v1) 7 3 v2) A 0 h) rfl ?_
  exact B_X4_renew_r7_23 Ln (zp (zp (zp I 7 1 1) 7 2 v1) 7 3 v2) (SA_J7_fill_53178_r8 Ln (zp (zp (zp I 7 1 1) 7 2 v1) 7 3 v2) A 0) v1 v2 
def SI_X4_renew_r9 (Ln : Nat) (I A : Nat → Nat → Int32) (v1 : Int32) (v2 : Int32) : Nat → Nat → Int32 := (zp (zp (zp I 9 1 1) 9 2 v1) 9 3 v2)
def SA_X4_renew_r9 (Ln : Nat) (I A : Nat → Nat → Int32) (v1 : Int32) (v2 : Int32) : Nat → Nat → Int32 := (SA_J7_fill_53178_r10 Ln (zp (zp (zp I 9 1 1) 9 2 v1) 9 3 v2) A 0)
def P_X4_renew_r9 (Ln : Nat) (I A : Nat → Nat → Int32) (v1 : Int32) (v2 : Int32) : Prop := (P_J7_fill_53178_r10 Ln (zp (zp (zp I 9 1 1) 9 2 v1) 9 3 v2) A 0)
set_option maxRecDepth 100000 in
theorem M_X4_renew_r9 (Ln : Nat) (I A : Nat → Nat → Int32) (v1 : Int32) (v2 : Int32) (h : P_X4_renew_r9 Ln I A v1 v2) : zEv 22 0 0 0 [some (.ref 9), some (.int v1), some (.int v2)] [] (zGs Ln I A) (none, zGs Ln (SI_X4_renew_r9 Ln I A v1 v2) (SA_X4_renew_r9 Ln I A v1 v2)) := by
  unfold P_X4_renew_r9 at h
  unfold SI_X4_renew_r9 SA_X4_renew_r9
  refine B_X4_renew_r9_0 Ln I A v1 v2  (M_J7_fill_53178_r10 Ln (zp (zp (zp I 9 1 1) 9 2 v1) 9 3 v2) A 0 h) rfl ?_
  exact B_X4_renew_r9_23 Ln (zp (zp (zp I 9 1 1) 9 2 v1) 9 3 v2) (SA_J7_fill_53178_r10 Ln (zp (zp (zp I 9 1 1) 9 2 v1) 9 3 v2) A 0) v1 v2 
def V_X0_carries_r11 (Ln : Nat) (I A : Nat → Nat → Int32) (v1 : Int32) : Int32 := if (I 11 1) < (V_J6_bitCount_0f7a4 Ln I A v1) then 0 else (if (I 11 2) < (A 17 (v1).toNatClampNeg) then 0 else 1)
def P_X0_carries_r11 (Ln : Nat) (I A : Nat → Nat → Int32) (v1 : Int32) : Prop := ((I 11 1) < (V_J6_bitCount_0f7a4 Ln I A v1) → True) ∧ (¬ ((I 11 1) < (V_J6_bitCount_0f7a4 Ln I A v1)) → (zin v1 64 = true))
set_option maxRecDepth 100000 in
theorem M_X0_carries_r11 (Ln : Nat) (I A : Nat → Nat → Int32) (v1 : Int32) (h : P_X0_carries_r11 Ln I A v1) : zEv 8 0 0 0 [some (.ref 11), some (.int v1)] [] (zGs Ln I A) (some (.int (V_X0_carries_r11 Ln I A v1)), zGs Ln (I) (A)) := by
  unfold P_X0_carries_r11 at h
  unfold V_X0_carries_r11
  refine B_X0_carries_r11_0 Ln I A v1  (M_J6_bitCount_0f7a4 Ln I A v1 ) rfl ?_
  refine B_X0_carries_r11_4_s1 Ln I A v1 (V_J6_bitCount_0f7a4 Ln I A v1)  (fun q4 => ?_) (fun q4 => ?_)
  · try simp only [if_pos q4]
    refine B_X0_carries_r11_28 Ln I A v1  ?_
    exact B_X0_carries_r11_29_s1 Ln I A v1 0 
  · try simp only [if_neg q4]
    have h5 := h.2 q4
    refine B_X0_carries_r11_11 Ln I A v1 h5 (fun q7 => ?_) (fun q7 => ?_)
    · try simp only [if_pos q7]
      refine B_X0_carries_r11_28 Ln I A v1  ?_
      exact B_X0_carries_r11_29_s1 Ln I A v1 0 
    · try simp only [if_neg q7]
      refine B_X0_carries_r11_24 Ln I A v1  ?_
      exact B_X0_carries_r11_29_s1 Ln I A v1 1 
def LB_X1_cross_r26_60 : Nat → (Ln : Nat) → (I A : Nat → Nat → Int32) → Int32 → Int32 → Int32 → Int32 → Int32 → Int32 → Int32 → (Option Int32) → Option Int32 × Option Int32 × Option Int32 × Option Int32 × (Nat → Nat → Int32)
  | 0, Ln, I, A, v1, v2, v3, v4, v5, v6, v7, j8 => (none, none, none, none, A)
  | m + 1, Ln, I, A, v1, v2, v3, v4, v5, v6, v7, j8 => if v6 < v7 then ((some v5), (some v6), (some v7), j8, A) else (if (v7 &&& (v6 ^^^ ((-1)))) ≠ 0 then (LB_X1_cross_r26_60 m Ln I A v1 v2 v3 v4 v5 v6 (v7 + 1) j8) else (if (V_X0_carries_r11 Ln I A v7) ≠ 0 then (LB_X1_cross_r26_60 m Ln I (zw A 27 ((v3 ||| v7).toNatClampNeg) (if v4 + (V_J6_bitCount_0f7a4 Ln I A (v5 &&& (v7 ^^^ ((-1))))) < A 27 (v3 ||| v7).toNatClampNeg then v4 + (V_J6_bitCount_0f7a4 Ln I A (v5 &&& (v7 ^^^ ((-1))))) else A 27 (v3 ||| v7).toNatClampNeg)) v1 v2 v3 v4 v5 v6 (v7 + 1) (some (v4 + (V_J6_bitCount_0f7a4 Ln I A (v5 &&& (v7 ^^^ ((-1)))))))) else (LB_X1_cross_r26_60 m Ln I A v1 v2 v3 v4 v5 v6 (v7 + 1) j8)))
def PLB_X1_cross_r26_60 : Nat → (Ln : Nat) → (I A : Nat → Nat → Int32) → Int32 → Int32 → Int32 → Int32 → Int32 → Int32 → Int32 → (Option Int32) → Prop
  | 0, Ln, I, A, v1, v2, v3, v4, v5, v6, v7, j8 => False
  | m + 1, Ln, I, A, v1, v2, v3, v4, v5, v6, v7, j8 => (v6 < v7 → True) ∧ (¬ (v6 < v7) → (((v7 &&& (v6 ^^^ ((-1)))) ≠ 0 → (PLB_X1_cross_r26_60 m Ln I A v1 v2 v3 v4 v5 v6 (v7 + 1) j8)) ∧ (¬ ((v7 &&& (v6 ^^^ ((-1)))) ≠ 0) → ((P_X0_carries_r11 Ln I A v7) ∧ (((V_X0_carries_r11 Ln I A v7) ≠ 0 → ((zin (v3 ||| v7) 64 = true) ∧ (zin (v3 ||| v7) 64 = true) ∧ (PLB_X1_cross_r26_60 m Ln I (zw A 27 ((v3 ||| v7).toNatClampNeg) (if v4 + (V_J6_bitCount_0f7a4 Ln I A (v5 &&& (v7 ^^^ ((-1))))) < A 27 (v3 ||| v7).toNatClampNeg then v4 + (V_J6_bitCount_0f7a4 Ln I A (v5 &&& (v7 ^^^ ((-1))))) else A 27 (v3 ||| v7).toNatClampNeg)) v1 v2 v3 v4 v5 v6 (v7 + 1) (some (v4 + (V_J6_bitCount_0f7a4 Ln I A (v5 &&& (v7 ^^^ ((-1)))))))))) ∧ (¬ ((V_X0_carries_r11 Ln I A v7) ≠ 0) → (PLB_X1_cross_r26_60 m Ln I A v1 v2 v3 v4 v5 v6 (v7 + 1) j8)))))))
set_option maxRecDepth 100000 in
theorem MLB_X1_cross_r26_60 (m Ln : Nat) : ∀ (I A : Nat → Nat → Int32) (v1 : Int32) (v2 : Int32) (v3 : Int32) (v4 : Int32) (v5 : Int32) (v6 : Int32) (v7 : Int32) (j8 : Option Int32) {r : zRs}, PLB_X1_cross_r26_60 m Ln I A v1 v2 v3 v4 v5 v6 v7 j8 → zEv 12 136 0 0 [some (.ref 26), some (.int v1), some (.int v2), some (.int v3), some (.int v4), (Option.map Value.int (LB_X1_cross_r26_60 m Ln I A v1 v2 v3 v4 v5 v6 v7 j8).1), (Option.map Value.int (LB_X1_cross_r26_60 m Ln I A v1 v2 v3 v4 v5 v6 v7 j8).2.1), (Option.map Value.int (LB_X1_cross_r26_60 m Ln I A v1 v2 v3 v4 v5 v6 v7 j8).2.2.1), (Option.map Value.int (LB_X1_cross_r26_60 m Ln I A v1 v2 v3 v4 v5 v6 v7 j8).2.2.2.1)] [] (zGs Ln I (LB_X1_cross_r26_60 m Ln I A v1 v2 v3 v4 v5 v6 v7 j8).2.2.2.2) r → zEv 12 60 0 0 [some (.ref 26), some (.int v1), some (.int v2), some (.int v3), some (.int v4), some (.int v5), some (.int v6), some (.int v7), (Option.map Value.int j8)] [] (zGs Ln I A) r := by
  induction m with
  | zero => intro I A v1 v2 v3 v4 v5 v6 v7 j8 r h hk; exact h.elim
  | succ m ih =>
    intro I A v1 v2 v3 v4 v5 v6 v7 j8 r h hk
    simp only [PLB_X1_cross_r26_60] at h
    simp only [LB_X1_cross_r26_60] at hk
    refine B_X1_cross_r26_60 Ln I A v1 v2 v3 v4 v5 v6 v7 j8  (fun q2 => ?_) (fun q2 => ?_)
    · try simp only [if_pos q2] at hk ⊢
      exact hk
    · try simp only [if_neg q2] at hk ⊢
      have h3 := h.2 q2
      refine B_X1_cross_r26_67 Ln I A v1 v2 v3 v4 v5 v6 v7 j8  (fun q6 => ?_) (fun q6 => ?_)
      · try simp only [if_pos q6] at hk ⊢
        have h7 := h3.1 q6
        refine B_X1_cross_r26_130 Ln I A v1 v2 v3 v4 v5 v6 v7 j8  ?_
        exact ih I A v1 v2 v3 v4 v5 v6 (v7 + 1) j8 h7 hk
      · try simp only [if_neg q6] at hk ⊢
        have h10 := h3.2 q6
        obtain ⟨g11_0, r12_⟩ := h10
        refine B_X1_cross_r26_77 Ln I A v1 v2 v3 v4 v5 v6 v7 j8  (M_X0_carries_r11 Ln I A v7 g11_0) rfl ?_
        refine B_X1_cross_r26_86_s1 Ln I A v1 v2 v3 v4 v5 v6 v7 j8 (V_X0_carries_r11 Ln I A v7)  (fun q15 => ?_) (fun q15 => ?_)
        · try simp only [if_pos q15] at hk ⊢
          have h16 := r12_.1 q15
          refine B_X1_cross_r26_92 Ln I A v1 v2 v3 v4 v5 v6 v7 j8  (M_J6_bitCount_0f7a4 Ln I A (v5 &&& (v7 ^^^ ((-1)))) ) rfl ?_
          obtain ⟨g19_0, g19_1, r20_⟩ := h16
          refine B_X1_cross_r26_104_s2 Ln I A v1 v2 v3 v4 v5 v6 v7 j8 v4 (V_J6_bitCount_0f7a4 Ln I A (v5 &&& (v7 ^^^ ((-1))))) g19_0 g19_1 ?_
          refine B_X1_cross_r26_130 Ln I (zw A 27 ((v3 ||| v7).toNatClampNeg) (if v4 + (V_J6_bitCount_0f7a4 Ln I A (v5 &&& (v7 ^^^ ((-1))))) < A 27 (v3 ||| v7).toNatClampNeg then v4 + (V_J6_bitCount_0f7a4 Ln I A (v5 &&& (v7 ^^^ ((-1))))) else A 27 (v3 ||| v7).toNatClampNeg)) v1 v2 v3 v4 v5 v6 v7 (some (v4 + (V_J6_bitCount_0f7a4 Ln I A (v5 &&& (v7 ^^^ ((-1)))))))  ?_
          exact ih I (zw A 27 ((v3 ||| v7).toNatClampNeg) (if v4 + (V_J6_bitCount_0f7a4 Ln I A (v5 &&& (v7 ^^^ ((-1))))) < A 27 (v3 ||| v7).toNatClampNeg then v4 + (V_J6_bitCount_0f7a4 Ln I A (v5 &&& (v7 ^^^ ((-1))))) else A 27 (v3 ||| v7).toNatClampNeg)) v1 v2 v3 v4 v5 v6 (v7 + 1) (some (v4 + (V_J6_bitCount_0f7a4 Ln I A (v5 &&& (v7 ^^^ ((-1))))))) r20_ hk
        · try simp only [if_neg q15] at hk ⊢
          have h23 := r12_.2 q15
          refine B_X1_cross_r26_89 Ln I A v1 v2 v3 v4 v5 v6 v7 j8  ?_
          refine B_X1_cross_r26_130 Ln I A v1 v2 v3 v4 v5 v6 v7 j8  ?_
          exact ih I A v1 v2 v3 v4 v5 v6 (v7 + 1) j8 h23 hk
def LA_X1_cross_r26_3 : Nat → (Ln : Nat) → (I A : Nat → Nat → Int32) → Int32 → Int32 → Int32 → (Option Int32) → (Option Int32) → (Option Int32) → (Option Int32) → (Option Int32) → (Nat → Nat → Int32)
  | 0, Ln, I, A, v1, v2, v3, j4, j5, j6, j7, j8 => A
  | m + 1, Ln, I, A, v1, v2, v3, j4, j5, j6, j7, j8 => if v3 < 0 then A else (if (A 27 (v3).toNatClampNeg) ≠ 1000 then (if ((v1 &&& (v3 ^^^ ((-1)))) &&& v2) ≠ 0 then (LA_X1_cross_r26_3 m Ln I ((LB_X1_cross_r26_60 1000 Ln I (zw A 27 ((v3).toNatClampNeg) 1000) v1 v2 v3 (A 27 (v3).toNatClampNeg) (v1 &&& (v3 ^^^ ((-1)))) ((v1 &&& (v3 ^^^ ((-1)))) &&& v2) 1 j8).2.2.2.2) v1 v2 (v3 + (Int32.ofInt (-1))) (some (A 27 (v3).toNatClampNeg)) (LB_X1_cross_r26_60 1000 Ln I (zw A 27 ((v3).toNatClampNeg) 1000) v1 v2 v3 (A 27 (v3).toNatClampNeg) (v1 &&& (v3 ^^^ ((-1)))) ((v1 &&& (v3 ^^^ ((-1)))) &&& v2) 1 j8).1 (LB_X1_cross_r26_60 1000 Ln I (zw A 27 ((v3).toNatClampNeg) 1000) v1 v2 v3 (A 27 (v3).toNatClampNeg) (v1 &&& (v3 ^^^ ((-1)))) ((v1 &&& (v3 ^^^ ((-1)))) &&& v2) 1 j8).2.1 (LB_X1_cross_r26_60 1000 Ln I (zw A 27 ((v3).toNatClampNeg) 1000) v1 v2 v3 (A 27 (v3).toNatClampNeg) (v1 &&& (v3 ^^^ ((-1)))) ((v1 &&& (v3 ^^^ ((-1)))) &&& v2) 1 j8).2.2.1 (LB_X1_cross_r26_60 1000 Ln I (zw A 27 ((v3).toNatClampNeg) 1000) v1 v2 v3 (A 27 (v3).toNatClampNeg) (v1 &&& (v3 ^^^ ((-1)))) ((v1 &&& (v3 ^^^ ((-1)))) &&& v2) 1 j8).2.2.2.1) else (LA_X1_cross_r26_3 m Ln I ((LB_X1_cross_r26_60 1000 Ln I (zw A 27 ((v3).toNatClampNeg) 1000) v1 v2 v3 (A 27 (v3).toNatClampNeg) (v1 &&& (v3 ^^^ ((-1)))) ((v1 &&& (v3 ^^^ ((-1)))) &&& v2) 0 j8).2.2.2.2) v1 v2 (v3 + (Int32.ofInt (-1))) (some (A 27 (v3).toNatClampNeg)) (LB_X1_cross_r26_60 1000 Ln I (zw A 27 ((v3).toNatClampNeg) 1000) v1 v2 v3 (A 27 (v3).toNatClampNeg) (v1 &&& (v3 ^^^ ((-1)))) ((v1 &&& (v3 ^^^ ((-1)))) &&& v2) 0 j8).1 (LB_X1_cross_r26_60 1000 Ln I (zw A 27 ((v3).toNatClampNeg) 1000) v1 v2 v3 (A 27 (v3).toNatClampNeg) (v1 &&& (v3 ^^^ ((-1)))) ((v1 &&& (v3 ^^^ ((-1)))) &&& v2) 0 j8).2.1 (LB_X1_cross_r26_60 1000 Ln I (zw A 27 ((v3).toNatClampNeg) 1000) v1 v2 v3 (A 27 (v3).toNatClampNeg) (v1 &&& (v3 ^^^ ((-1)))) ((v1 &&& (v3 ^^^ ((-1)))) &&& v2) 0 j8).2.2.1 (LB_X1_cross_r26_60 1000 Ln I (zw A 27 ((v3).toNatClampNeg) 1000) v1 v2 v3 (A 27 (v3).toNatClampNeg) (v1 &&& (v3 ^^^ ((-1)))) ((v1 &&& (v3 ^^^ ((-1)))) &&& v2) 0 j8).2.2.2.1)) else (LA_X1_cross_r26_3 m Ln I A v1 v2 (v3 + (Int32.ofInt (-1))) (some (A 27 (v3).toNatClampNeg)) j5 j6 j7 j8))
def PLA_X1_cross_r26_3 : Nat → (Ln : Nat) → (I A : Nat → Nat → Int32) → Int32 → Int32 → Int32 → (Option Int32) → (Option Int32) → (Option Int32) → (Option Int32) → (Option Int32) → Prop
  | 0, Ln, I, A, v1, v2, v3, j4, j5, j6, j7, j8 => False
  | m + 1, Ln, I, A, v1, v2, v3, j4, j5, j6, j7, j8 => (v3 < 0 → True) ∧ (¬ (v3 < 0) → ((zin v3 64 = true) ∧ (((A 27 (v3).toNatClampNeg) ≠ 1000 → ((zin v3 64 = true) ∧ ((((v1 &&& (v3 ^^^ ((-1)))) &&& v2) ≠ 0 → ((PLB_X1_cross_r26_60 1000 Ln I (zw A 27 ((v3).toNatClampNeg) 1000) v1 v2 v3 (A 27 (v3).toNatClampNeg) (v1 &&& (v3 ^^^ ((-1)))) ((v1 &&& (v3 ^^^ ((-1)))) &&& v2) 1 j8) ∧ (PLA_X1_cross_r26_3 m Ln I ((LB_X1_cross_r26_60 1000 Ln I (zw A 27 ((v3).toNatClampNeg) 1000) v1 v2 v3 (A 27 (v3).toNatClampNeg) (v1 &&& (v3 ^^^ ((-1)))) ((v1 &&& (v3 ^^^ ((-1)))) &&& v2) 1 j8).2.2.2.2) v1 v2 (v3 + (Int32.ofInt (-1))) (some (A 27 (v3).toNatClampNeg)) (LB_X1_cross_r26_60 1000 Ln I (zw A 27 ((v3).toNatClampNeg) 1000) v1 v2 v3 (A 27 (v3).toNatClampNeg) (v1 &&& (v3 ^^^ ((-1)))) ((v1 &&& (v3 ^^^ ((-1)))) &&& v2) 1 j8).1 (LB_X1_cross_r26_60 1000 Ln I (zw A 27 ((v3).toNatClampNeg) 1000) v1 v2 v3 (A 27 (v3).toNatClampNeg) (v1 &&& (v3 ^^^ ((-1)))) ((v1 &&& (v3 ^^^ ((-1)))) &&& v2) 1 j8).2.1 (LB_X1_cross_r26_60 1000 Ln I (zw A 27 ((v3).toNatClampNeg) 1000) v1 v2 v3 (A 27 (v3).toNatClampNeg) (v1 &&& (v3 ^^^ ((-1)))) ((v1 &&& (v3 ^^^ ((-1)))) &&& v2) 1 j8).2.2.1 (LB_X1_cross_r26_60 1000 Ln I (zw A 27 ((v3).toNatClampNeg) 1000) v1 v2 v3 (A 27 (v3).toNatClampNeg) (v1 &&& (v3 ^^^ ((-1)))) ((v1 &&& (v3 ^^^ ((-1)))) &&& v2) 1 j8).2.2.2.1))) ∧ (¬ (((v1 &&& (v3 ^^^ ((-1)))) &&& v2) ≠ 0) → ((PLB_X1_cross_r26_60 1000 Ln I (zw A 27 ((v3).toNatClampNeg) 1000) v1 v2 v3 (A 27 (v3).toNatClampNeg) (v1 &&& (v3 ^^^ ((-1)))) ((v1 &&& (v3 ^^^ ((-1)))) &&& v2) 0 j8) ∧ (PLA_X1_cross_r26_3 m Ln I ((LB_X1_cross_r26_60 1000 Ln I (zw A 27 ((v3).toNatClampNeg) 1000) v1 v2 v3 (A 27 (v3).toNatClampNeg) (v1 &&& (v3 ^^^ ((-1)))) ((v1 &&& (v3 ^^^ ((-1)))) &&& v2) 0 j8).2.2.2.2) v1 v2 (v3 + (Int32.ofInt (-1))) (some (A 27 (v3).toNatClampNeg)) (LB_X1_cross_r26_60 1000 Ln I (zw A 27 ((v3).toNatClampNeg) 1000) v1 v2 v3 (A 27 (v3).toNatClampNeg) (v1 &&& (v3 ^^^ ((-1)))) ((v1 &&& (v3 ^^^ ((-1)))) &&& v2) 0 j8).1 (LB_X1_cross_r26_60 1000 Ln I (zw A 27 ((v3).toNatClampNeg) 1000) v1 v2 v3 (A 27 (v3).toNatClampNeg) (v1 &&& (v3 ^^^ ((-1)))) ((v1 &&& (v3 ^^^ ((-1)))) &&& v2) 0 j8).2.1 (LB_X1_cross_r26_60 1000 Ln I (zw A 27 ((v3).toNatClampNeg) 1000) v1 v2 v3 (A 27 (v3).toNatClampNeg) (v1 &&& (v3 ^^^ ((-1)))) ((v1 &&& (v3 ^^^ ((-1)))) &&& v2) 0 j8).2.2.1 (LB_X1_cross_r26_60 1000 Ln I (zw A 27 ((v3).toNatClampNeg) 1000) v1 v2 v3 (A 27 (v3).toNatClampNeg) (v1 &&& (v3 ^^^ ((-1)))) ((v1 &&& (v3 ^^^ ((-1)))) &&& v2) 0 j8).2.2.2.1)))))) ∧ (¬ ((A 27 (v3).toNatClampNeg) ≠ 1000) → (PLA_X1_cross_r26_3 m Ln I A v1 v2 (v3 + (Int32.ofInt (-1))) (some (A 27 (v3).toNatClampNeg)) j5 j6 j7 j8)))))
set_option maxRecDepth 100000 in
theorem MLA_X1_cross_r26_3 (m Ln : Nat) : ∀ (I A : Nat → Nat → Int32) (v1 : Int32) (v2 : Int32) (v3 : Int32) (j4 : Option Int32) (j5 : Option Int32) (j6 : Option Int32) (j7 : Option Int32) (j8 : Option Int32), PLA_X1_cross_r26_3 m Ln I A v1 v2 v3 j4 j5 j6 j7 j8 → zEv 12 3 0 0 [some (.ref 26), some (.int v1), some (.int v2), some (.int v3), (Option.map Value.int j4), (Option.map Value.int j5), (Option.map Value.int j6), (Option.map Value.int j7), (Option.map Value.int j8)] [] (zGs Ln I A) (none, zGs Ln I (LA_X1_cross_r26_3 m Ln I A v1 v2 v3 j4 j5 j6 j7 j8)) := by
  induction m with
  | zero => intro I A v1 v2 v3 j4 j5 j6 j7 j8 h; exact h.elim
  | succ m ih =>
    intro I A v1 v2 v3 j4 j5 j6 j7 j8 h
    simp only [PLA_X1_cross_r26_3] at h
    simp only [LA_X1_cross_r26_3]
    refine B_X1_cross_r26_3 Ln I A v1 v2 v3 j4 j5 j6 j7 j8  (fun q2 => ?_) (fun q2 => ?_)
    · try simp only [if_pos q2]
      exact B_X1_cross_r26_142 Ln I A v1 v2 v3 j4 j5 j6 j7 j8 
    · try simp only [if_neg q2]
      have h3 := h.2 q2
      obtain ⟨g4_0, r5_⟩ := h3
      refine B_X1_cross_r26_7 Ln I A v1 v2 v3 j4 j5 j6 j7 j8 g4_0 (fun q6 => ?_) (fun q6 => ?_)
      · try simp only [if_pos q6]
        have h7 := r5_.1 q6
        obtain ⟨g8_0, r9_⟩ := h7
        refine B_X1_cross_r26_26 Ln I A v1 v2 v3 (A 27 (v3).toNatClampNeg) j5 j6 j7 j8 g8_0 (fun q10 => ?_) (fun q10 => ?_)
        · try simp only [if_pos q10]
          have h11 := r9_.1 q10
          refine B_X1_cross_r26_57 Ln I (zw A 27 ((v3).toNatClampNeg) 1000) v1 v2 v3 (A 27 (v3).toNatClampNeg) (v1 &&& (v3 ^^^ ((-1)))) ((v1 &&& (v3 ^^^ ((-1)))) &&& v2) j7 j8  ?_
          refine B_X1_cross_r26_58_s1 Ln I (zw A 27 ((v3).toNatClampNeg) 1000) v1 v2 v3 (A 27 (v3).toNatClampNeg) (v1 &&& (v3 ^^^ ((-1)))) ((v1 &&& (v3 ^^^ ((-1)))) &&& v2) j7 j8 1  ?_
          obtain ⟨b16, c16_⟩ := h11
          refine MLB_X1_cross_r26_60 1000 Ln I (zw A 27 ((v3).toNatClampNeg) 1000) v1 v2 v3 (A 27 (v3).toNatClampNeg) (v1 &&& (v3 ^^^ ((-1)))) ((v1 &&& (v3 ^^^ ((-1)))) &&& v2) 1 j8 b16 ?_
          refine B_X1_cross_r26_136 Ln I ((LB_X1_cross_r26_60 1000 Ln I (zw A 27 ((v3).toNatClampNeg) 1000) v1 v2 v3 (A 27 (v3).toNatClampNeg) (v1 &&& (v3 ^^^ ((-1)))) ((v1 &&& (v3 ^^^ ((-1)))) &&& v2) 1 j8).2.2.2.2) v1 v2 v3 (A 27 (v3).toNatClampNeg) ((LB_X1_cross_r26_60 1000 Ln I (zw A 27 ((v3).toNatClampNeg) 1000) v1 v2 v3 (A 27 (v3).toNatClampNeg) (v1 &&& (v3 ^^^ ((-1)))) ((v1 &&& (v3 ^^^ ((-1)))) &&& v2) 1 j8).1) ((LB_X1_cross_r26_60 1000 Ln I (zw A 27 ((v3).toNatClampNeg) 1000) v1 v2 v3 (A 27 (v3).toNatClampNeg) (v1 &&& (v3 ^^^ ((-1)))) ((v1 &&& (v3 ^^^ ((-1)))) &&& v2) 1 j8).2.1) ((LB_X1_cross_r26_60 1000 Ln I (zw A 27 ((v3).toNatClampNeg) 1000) v1 v2 v3 (A 27 (v3).toNatClampNeg) (v1 &&& (v3 ^^^ ((-1)))) ((v1 &&& (v3 ^^^ ((-1)))) &&& v2) 1 j8).2.2.1) ((LB_X1_cross_r26_60 1000 Ln I (zw A 27 ((v3).toNatClampNeg) 1000) v1 v2 v3 (A 27 (v3).toNatClampNeg) (v1 &&& (v3 ^^^ ((-1)))) ((v1 &&& (v3 ^^^ ((-1)))) &&& v2) 1 j8).2.2.2.1)  ?_
          exact ih I ((LB_X1_cross_r26_60 1000 Ln I (zw A 27 ((v3).toNatClampNeg) 1000) v1 v2 v3 (A 27 (v3).toNatClampNeg) (v1 &&& (v3 ^^^ ((-1)))) ((v1 &&& (v3 ^^^ ((-1)))) &&& v2) 1 j8).2.2.2.2) v1 v2 (v3 + (Int32.ofInt (-1))) (some (A 27 (v3).toNatClampNeg)) (LB_X1_cross_r26_60 1000 Ln I (zw A 27 ((v3).toNatClampNeg) 1000) v1 v2 v3 (A 27 (v3).toNatClampNeg) (v1 &&& (v3 ^^^ ((-1)))) ((v1 &&& (v3 ^^^ ((-1)))) &&& v2) 1 j8).1 (LB_X1_cross_r26_60 1000 Ln I (zw A 27 ((v3).toNatClampNeg) 1000) v1 v2 v3 (A 27 (v3).toNatClampNeg) (v1 &&& (v3 ^^^ ((-1)))) ((v1 &&& (v3 ^^^ ((-1)))) &&& v2) 1 j8).2.1 (LB_X1_cross_r26_60 1000 Ln I (zw A 27 ((v3).toNatClampNeg) 1000) v1 v2 v3 (A 27 (v3).toNatClampNeg) (v1 &&& (v3 ^^^ ((-1)))) ((v1 &&& (v3 ^^^ ((-1)))) &&& v2) 1 j8).2.2.1 (LB_X1_cross_r26_60 1000 Ln I (zw A 27 ((v3).toNatClampNeg) 1000) v1 v2 v3 (A 27 (v3).toNatClampNeg) (v1 &&& (v3 ^^^ ((-1)))) ((v1 &&& (v3 ^^^ ((-1)))) &&& v2) 1 j8).2.2.2.1 c16_
        · try simp only [if_neg q10]
          have h19 := r9_.2 q10
          refine B_X1_cross_r26_53 Ln I (zw A 27 ((v3).toNatClampNeg) 1000) v1 v2 v3 (A 27 (v3).toNatClampNeg) (v1 &&& (v3 ^^^ ((-1)))) ((v1 &&& (v3 ^^^ ((-1)))) &&& v2) j7 j8  ?_
          refine B_X1_cross_r26_58_s1 Ln I (zw A 27 ((v3).toNatClampNeg) 1000) v1 v2 v3 (A 27 (v3).toNatClampNeg) (v1 &&& (v3 ^^^ ((-1)))) ((v1 &&& (v3 ^^^ ((-1)))) &&& v2) j7 j8 0  ?_
          obtain ⟨b24, c24_⟩ := h19
          refine MLB_X1_cross_r26_60 1000 Ln I (zw A 27 ((v3).toNatClampNeg) 1000) v1 v2 v3 (A 27 (v3).toNatClampNeg) (v1 &&& (v3 ^^^ ((-1)))) ((v1 &&& (v3 ^^^ ((-1)))) &&& v2) 0 j8 b24 ?_
          refine B_X1_cross_r26_136 Ln I ((LB_X1_cross_r26_60 1000 Ln I (zw A 27 ((v3).toNatClampNeg) 1000) v1 v2 v3 (A 27 (v3).toNatClampNeg) (v1 &&& (v3 ^^^ ((-1)))) ((v1 &&& (v3 ^^^ ((-1)))) &&& v2) 0 j8).2.2.2.2) v1 v2 v3 (A 27 (v3).toNatClampNeg) ((LB_X1_cross_r26_60 1000 Ln I (zw A 27 ((v3).toNatClampNeg) 1000) v1 v2 v3 (A 27 (v3).toNatClampNeg) (v1 &&& (v3 ^^^ ((-1)))) ((v1 &&& (v3 ^^^ ((-1)))) &&& v2) 0 j8).1) ((LB_X1_cross_r26_60 1000 Ln I (zw A 27 ((v3).toNatClampNeg) 1000) v1 v2 v3 (A 27 (v3).toNatClampNeg) (v1 &&& (v3 ^^^ ((-1)))) ((v1 &&& (v3 ^^^ ((-1)))) &&& v2) 0 j8).2.1) ((LB_X1_cross_r26_60 1000 Ln I (zw A 27 ((v3).toNatClampNeg) 1000) v1 v2 v3 (A 27 (v3).toNatClampNeg) (v1 &&& (v3 ^^^ ((-1)))) ((v1 &&& (v3 ^^^ ((-1)))) &&& v2) 0 j8).2.2.1) ((LB_X1_cross_r26_60 1000 Ln I (zw A 27 ((v3).toNatClampNeg) 1000) v1 v2 v3 (A 27 (v3).toNatClampNeg) (v1 &&& (v3 ^^^ ((-1)))) ((v1 &&& (v3 ^^^ ((-1)))) &&& v2) 0 j8).2.2.2.1)  ?_
          exact ih I ((LB_X1_cross_r26_60 1000 Ln I (zw A 27 ((v3).toNatClampNeg) 1000) v1 v2 v3 (A 27 (v3).toNatClampNeg) (v1 &&& (v3 ^^^ ((-1)))) ((v1 &&& (v3 ^^^ ((-1)))) &&& v2) 0 j8).2.2.2.2) v1 v2 (v3 + (Int32.ofInt (-1))) (some (A 27 (v3).toNatClampNeg)) (LB_X1_cross_r26_60 1000 Ln I (zw A 27 ((v3).toNatClampNeg) 1000) v1 v2 v3 (A 27 (v3).toNatClampNeg) (v1 &&& (v3 ^^^ ((-1)))) ((v1 &&& (v3 ^^^ ((-1)))) &&& v2) 0 j8).1 (LB_X1_cross_r26_60 1000 Ln I (zw A 27 ((v3).toNatClampNeg) 1000) v1 v2 v3 (A 27 (v3).toNatClampNeg) (v1 &&& (v3 ^^^ ((-1)))) ((v1 &&& (v3 ^^^ ((-1)))) &&& v2) 0 j8).2.1 (LB_X1_cross_r26_60 1000 Ln I (zw A 27 ((v3).toNatClampNeg) 1000) v1 v2 v3 (A 27 (v3).toNatClampNeg) (v1 &&& (v3 ^^^ ((-1)))) ((v1 &&& (v3 ^^^ ((-1)))) &&& v2) 0 j8).2.2.1 (LB_X1_cross_r26_60 1000 Ln I (zw A 27 ((v3).toNatClampNeg) 1000) v1 v2 v3 (A 27 (v3).toNatClampNeg) (v1 &&& (v3 ^^^ ((-1)))) ((v1 &&& (v3 ^^^ ((-1)))) &&& v2) 0 j8).2.2.2.1 c24_
      · try simp only [if_neg q6]
        have h27 := r5_.2 q6
        refine B_X1_cross_r26_23 Ln I A v1 v2 v3 (A 27 (v3).toNatClampNeg) j5 j6 j7 j8  ?_
        refine B_X1_cross_r26_136 Ln I A v1 v2 v3 (A 27 (v3).toNatClampNeg) j5 j6 j7 j8  ?_
        exact ih I A v1 v2 (v3 + (Int32.ofInt (-1))) (some (A 27 (v3).toNatClampNeg)) j5 j6 j7 j8 h27
def SA_X1_cross_r26 (Ln : Nat) (I A : Nat → Nat → Int32) (v1 : Int32) (v2 : Int32) : Nat → Nat → Int32 := LA_X1_cross_r26_3 1000 Ln I A v1 v2 63 none none none none none
def P_X1_cross_r26 (Ln : Nat) (I A : Nat → Nat → Int32) (v1 : Int32) (v2 : Int32) : Prop := PLA_X1_cross_r26_3 1000 Ln I A v1 v2 63 none none none none none
set_option maxRecDepth 100000 in
theorem M_X1_cross_r26 (Ln : Nat) (I A : Nat → Nat → Int32) (v1 : Int32) (v2 : Int32) (h : P_X1_cross_r26 Ln I A v1 v2) : zEv 12 0 0 0 [some (.ref 26), some (.int v1), some (.int v2), none, none, none, none, none, none] [] (zGs Ln I A) (none, zGs Ln (I) (SA_X1_cross_r26 Ln I A v1 v2)) := by
  unfold P_X1_cross_r26 at h
  unfold SA_X1_cross_r26
  refine B_X1_cross_r26_0 Ln I A v1 v2  ?_
  exact MLA_X1_cross_r26_3 1000 Ln I A v1 v2 63 none none none none none h
