/-! methods, by program (wip/whole/gen_fun.py, gen_loop.py) -/
def LA_X8_goNight_r44_65 : Nat → (Ln : Nat) → (I A : Nat → Nat → Int32) → Int32 → Int32 → Int32 → Int32 → Int32 → (Option Int32) → (Nat → Nat → Int32) × (Nat → Nat → Int32)
  | 0, Ln, I, A, v1, v2, v3, v4, v5, j6 => (I, A)
  | m + 1, Ln, I, A, v1, v2, v3, v4, v5, j6 => if v5 ≤ 0 then (if v3 < 0 then (I, A) else (if (((zw A 58 ((v3).toNatClampNeg) ((A 58 (v3).toNatClampNeg) + 1)) 58) (v3).toNatClampNeg) ≠ (I 44 3) then (I, (zw (zw A 58 ((v3).toNatClampNeg) ((A 58 (v3).toNatClampNeg) + 1)) 57 ((v3).toNatClampNeg) 99)) else (I, (zw (zw A 58 ((v3).toNatClampNeg) ((A 58 (v3).toNatClampNeg) + 1)) 57 ((v3).toNatClampNeg) v1)))) else (if (I 44 1) ≤ (V_X8_bits Ln I A (I 44 27)) then (LA_X8_goNight_r44_65 m Ln I A v1 v2 v3 v4 (v5 &&& ((1 <<< ((V_X8_firstOf_r44 Ln I A v5) &&& 31)) ^^^ ((-1)))) (some (V_X8_firstOf_r44 Ln I A v5))) else (if (I 44 2) < (v4 + (V_X8_heavyOf_r44 Ln I A (V_X8_firstOf_r44 Ln I A v5))) then (LA_X8_goNight_r44_65 m Ln I A v1 v2 v3 v4 (v5 &&& ((1 <<< ((V_X8_firstOf_r44 Ln I A v5) &&& 31)) ^^^ ((-1)))) (some (V_X8_firstOf_r44 Ln I A v5))) else (LA_X8_goNight_r44_65 m Ln (zp I 44 27 ((I 44 27) ||| (1 <<< ((V_X8_firstOf_r44 Ln I A v5) &&& 31)))) (zw A 57 (((V_X8_firstOf_r44 Ln I A v5)).toNatClampNeg) v1) v1 v2 v3 (v4 + (V_X8_heavyOf_r44 Ln (zp I 44 27 ((I 44 27) ||| (1 <<< ((V_X8_firstOf_r44 Ln I A v5) &&& 31)))) A (V_X8_firstOf_r44 Ln I A v5))) (v5 &&& ((1 <<< ((V_X8_firstOf_r44 Ln I A v5) &&& 31)) ^^^ ((-1)))) (some (V_X8_firstOf_r44 Ln I A v5)))))
def PLA_X8_goNight_r44_65 : Nat → (Ln : Nat) → (I A : Nat → Nat → Int32) → Int32 → Int32 → Int32 → Int32 → Int32 → (Option Int32) → Prop
  | 0, Ln, I, A, v1, v2, v3, v4, v5, j6 => False
  | m + 1, Ln, I, A, v1, v2, v3, v4, v5, j6 => (v5 ≤ 0 → ((v3 < 0 → True) ∧ (¬ (v3 < 0) → ((zin v3 6 = true) ∧ (zin v3 6 = true) ∧ (zin v3 6 = true) ∧ (((((zw A 58 ((v3).toNatClampNeg) ((A 58 (v3).toNatClampNeg) + 1)) 58) (v3).toNatClampNeg) ≠ (I 44 3) → (zin v3 6 = true)) ∧ (¬ ((((zw A 58 ((v3).toNatClampNeg) ((A 58 (v3).toNatClampNeg) + 1)) 58) (v3).toNatClampNeg) ≠ (I 44 3)) → (zin v3 6 = true))))))) ∧ (¬ (v5 ≤ 0) → ((P_X8_firstOf_r44 Ln I A v5) ∧ ((P_X8_bits Ln I A (I 44 27)) ∧ (((I 44 1) ≤ (V_X8_bits Ln I A (I 44 27)) → (PLA_X8_goNight_r44_65 m Ln I A v1 v2 v3 v4 (v5 &&& ((1 <<< ((V_X8_firstOf_r44 Ln I A v5) &&& 31)) ^^^ ((-1)))) (some (V_X8_firstOf_r44 Ln I A v5)))) ∧ (¬ ((I 44 1) ≤ (V_X8_bits Ln I A (I 44 27))) → ((P_X8_heavyOf_r44 Ln I A (V_X8_firstOf_r44 Ln I A v5)) ∧ (((I 44 2) < (v4 + (V_X8_heavyOf_r44 Ln I A (V_X8_firstOf_r44 Ln I A v5))) → (PLA_X8_goNight_r44_65 m Ln I A v1 v2 v3 v4 (v5 &&& ((1 <<< ((V_X8_firstOf_r44 Ln I A v5) &&& 31)) ^^^ ((-1)))) (some (V_X8_firstOf_r44 Ln I A v5)))) ∧ (¬ ((I 44 2) < (v4 + (V_X8_heavyOf_r44 Ln I A (V_X8_firstOf_r44 Ln I A v5)))) → ((P_X8_heavyOf_r44 Ln (zp I 44 27 ((I 44 27) ||| (1 <<< ((V_X8_firstOf_r44 Ln I A v5) &&& 31)))) A (V_X8_firstOf_r44 Ln I A v5)) ∧ ((zin (V_X8_firstOf_r44 Ln I A v5) 6 = true) ∧ (PLA_X8_goNight_r44_65 m Ln (zp I 44 27 ((I 44 27) ||| (1 <<< ((V_X8_firstOf_r44 Ln I A v5) &&& 31)))) (zw A 57 (((V_X8_firstOf_r44 Ln I A v5)).toNatClampNeg) v1) v1 v2 v3 (v4 + (V_X8_heavyOf_r44 Ln (zp I 44 27 ((I 44 27) ||| (1 <<< ((V_X8_firstOf_r44 Ln I A v5) &&& 31)))) A (V_X8_firstOf_r44 Ln I A v5))) (v5 &&& ((1 <<< ((V_X8_firstOf_r44 Ln I A v5) &&& 31)) ^^^ ((-1)))) (some (V_X8_firstOf_r44 Ln I A v5)))))))))))))
set_option maxRecDepth 100000 in
theorem MLA_X8_goNight_r44_65 (m Ln : Nat) : ∀ (I A : Nat → Nat → Int32) (v1 : Int32) (v2 : Int32) (v3 : Int32) (v4 : Int32) (v5 : Int32) (j6 : Option Int32), PLA_X8_goNight_r44_65 m Ln I A v1 v2 v3 v4 v5 j6 → zEv 124 65 0 0 [some (.ref 44), some (.int v1), some (.int v2), some (.int v3), some (.int v4), some (.int v5), (Option.map Value.int j6)] [] (zGs Ln I A) (none, zGs Ln (LA_X8_goNight_r44_65 m Ln I A v1 v2 v3 v4 v5 j6).1 (LA_X8_goNight_r44_65 m Ln I A v1 v2 v3 v4 v5 j6).2) := by
  induction m with
  | zero => intro I A v1 v2 v3 v4 v5 j6 h; exact h.elim
  | succ m ih =>
    intro I A v1 v2 v3 v4 v5 j6 h
    simp only [PLA_X8_goNight_r44_65] at h
    simp only [LA_X8_goNight_r44_65]
    refine B_X8_goNight_r44_65 Ln I A v1 v2 v3 v4 v5 j6  (fun q2 => ?_) (fun q2 => ?_)
    · try simp only [if_pos q2]
      have h3 := h.1 q2
      refine B_X8_goNight_r44_154 Ln I A v1 v2 v3 v4 v5 j6  (fun q6 => ?_) (fun q6 => ?_)
      · try simp only [if_pos q6]
        exact B_X8_goNight_r44_193 Ln I A v1 v2 v3 v4 v5 j6 
      · try simp only [if_neg q6]
        have h7 := h3.2 q6
        obtain ⟨g8_0, g8_1, g8_2, r9_⟩ := h7
        refine B_X8_goNight_r44_158 Ln I A v1 v2 v3 v4 v5 j6 g8_0 g8_1 g8_2 (fun q10 => ?_) (fun q10 => ?_)
        · try simp only [if_pos q10]
          have h11 := r9_.1 q10
          refine B_X8_goNight_r44_190_s2 Ln I (zw A 58 ((v3).toNatClampNeg) ((A 58 (v3).toNatClampNeg) + 1)) v1 v2 v3 v4 v5 j6 v3  ?_
          refine B_X8_goNight_r44_192_s3 Ln I (zw A 58 ((v3).toNatClampNeg) ((A 58 (v3).toNatClampNeg) + 1)) v1 v2 v3 v4 v5 j6 v3 99 h11 ?_
          exact B_X8_goNight_r44_193 Ln I (zw (zw A 58 ((v3).toNatClampNeg) ((A 58 (v3).toNatClampNeg) + 1)) 57 ((v3).toNatClampNeg) 99) v1 v2 v3 v4 v5 j6 
        · try simp only [if_neg q10]
          have h15 := r9_.2 q10
          refine B_X8_goNight_r44_186_s2 Ln I (zw A 58 ((v3).toNatClampNeg) ((A 58 (v3).toNatClampNeg) + 1)) v1 v2 v3 v4 v5 j6 v3  ?_
          refine B_X8_goNight_r44_192_s3 Ln I (zw A 58 ((v3).toNatClampNeg) ((A 58 (v3).toNatClampNeg) + 1)) v1 v2 v3 v4 v5 j6 v3 v1 h15 ?_
          exact B_X8_goNight_r44_193 Ln I (zw (zw A 58 ((v3).toNatClampNeg) ((A 58 (v3).toNatClampNeg) + 1)) 57 ((v3).toNatClampNeg) v1) v1 v2 v3 v4 v5 j6 
    · try simp only [if_neg q2]
      have h19 := h.2 q2
      obtain ⟨g20_0, r21_⟩ := h19
      refine B_X8_goNight_r44_70 Ln I A v1 v2 v3 v4 v5 j6  (M_X8_firstOf_r44 Ln I A v5 g20_0) rfl ?_
      obtain ⟨g22_0, r23_⟩ := r21_
      refine B_X8_goNight_r44_76_s1 Ln I A v1 v2 v3 v4 v5 j6 (V_X8_firstOf_r44 Ln I A v5)  (M_X8_bits Ln I A (I 44 27) g22_0) rfl ?_
      refine B_X8_goNight_r44_96_s1 Ln I A v1 v2 v3 v4 (v5 &&& ((1 <<< ((V_X8_firstOf_r44 Ln I A v5) &&& 31)) ^^^ ((-1)))) (V_X8_firstOf_r44 Ln I A v5) (V_X8_bits Ln I A (I 44 27))  (fun q26 => ?_) (fun q26 => ?_)
      · try simp only [if_pos q26]
        have h27 := r23_.1 q26
        refine B_X8_goNight_r44_151 Ln I A v1 v2 v3 v4 (v5 &&& ((1 <<< ((V_X8_firstOf_r44 Ln I A v5) &&& 31)) ^^^ ((-1)))) (V_X8_firstOf_r44 Ln I A v5)  ?_
        exact ih I A v1 v2 v3 v4 (v5 &&& ((1 <<< ((V_X8_firstOf_r44 Ln I A v5) &&& 31)) ^^^ ((-1)))) (some (V_X8_firstOf_r44 Ln I A v5)) h27
      · try simp only [if_neg q26]
        have h30 := r23_.2 q26
        obtain ⟨g31_0, r32_⟩ := h30
        refine B_X8_goNight_r44_103 Ln I A v1 v2 v3 v4 (v5 &&& ((1 <<< ((V_X8_firstOf_r44 Ln I A v5) &&& 31)) ^^^ ((-1)))) (V_X8_firstOf_r44 Ln I A v5)  (M_X8_heavyOf_r44 Ln I A (V_X8_firstOf_r44 Ln I A v5) g31_0) rfl ?_
        refine B_X8_goNight_r44_111_s2 Ln I A v1 v2 v3 v4 (v5 &&& ((1 <<< ((V_X8_firstOf_r44 Ln I A v5) &&& 31)) ^^^ ((-1)))) (V_X8_firstOf_r44 Ln I A v5) v4 (V_X8_heavyOf_r44 Ln I A (V_X8_firstOf_r44 Ln I A v5))  (fun q35 => ?_) (fun q35 => ?_)
        · try simp only [if_pos q35]
          have h36 := r32_.1 q35
          refine B_X8_goNight_r44_151 Ln I A v1 v2 v3 v4 (v5 &&& ((1 <<< ((V_X8_firstOf_r44 Ln I A v5) &&& 31)) ^^^ ((-1)))) (V_X8_firstOf_r44 Ln I A v5)  ?_
          exact ih I A v1 v2 v3 v4 (v5 &&& ((1 <<< ((V_X8_firstOf_r44 Ln I A v5) &&& 31)) ^^^ ((-1)))) (some (V_X8_firstOf_r44 Ln I A v5)) h36
        · try simp only [if_neg q35]
          have h39 := r32_.2 q35
          obtain ⟨g40_0, r41_⟩ := h39
          refine B_X8_goNight_r44_119 Ln I A v1 v2 v3 v4 (v5 &&& ((1 <<< ((V_X8_firstOf_r44 Ln I A v5) &&& 31)) ^^^ ((-1)))) (V_X8_firstOf_r44 Ln I A v5)  (M_X8_heavyOf_r44 Ln (zp I 44 27 ((I 44 27) ||| (1 <<< ((V_X8_firstOf_r44 Ln I A v5) &&& 31)))) A (V_X8_firstOf_r44 Ln I A v5) g40_0) rfl ?_
          obtain ⟨g42_0, r43_⟩ := r41_
          refine B_X8_goNight_r44_140_s2 Ln (zp I 44 27 ((I 44 27) ||| (1 <<< ((V_X8_firstOf_r44 Ln I A v5) &&& 31)))) A v1 v2 v3 v4 (v5 &&& ((1 <<< ((V_X8_firstOf_r44 Ln I A v5) &&& 31)) ^^^ ((-1)))) (V_X8_firstOf_r44 Ln I A v5) v4 (V_X8_heavyOf_r44 Ln (zp I 44 27 ((I 44 27) ||| (1 <<< ((V_X8_firstOf_r44 Ln I A v5) &&& 31)))) A (V_X8_firstOf_r44 Ln I A v5)) g42_0 ?_
          refine B_X8_goNight_r44_151 Ln (zp I 44 27 ((I 44 27) ||| (1 <<< ((V_X8_firstOf_r44 Ln I A v5) &&& 31)))) (zw A 57 (((V_X8_firstOf_r44 Ln I A v5)).toNatClampNeg) v1) v1 v2 v3 (v4 + (V_X8_heavyOf_r44 Ln (zp I 44 27 ((I 44 27) ||| (1 <<< ((V_X8_firstOf_r44 Ln I A v5) &&& 31)))) A (V_X8_firstOf_r44 Ln I A v5))) (v5 &&& ((1 <<< ((V_X8_firstOf_r44 Ln I A v5) &&& 31)) ^^^ ((-1)))) (V_X8_firstOf_r44 Ln I A v5)  ?_
          exact ih (zp I 44 27 ((I 44 27) ||| (1 <<< ((V_X8_firstOf_r44 Ln I A v5) &&& 31)))) (zw A 57 (((V_X8_firstOf_r44 Ln I A v5)).toNatClampNeg) v1) v1 v2 v3 (v4 + (V_X8_heavyOf_r44 Ln (zp I 44 27 ((I 44 27) ||| (1 <<< ((V_X8_firstOf_r44 Ln I A v5) &&& 31)))) A (V_X8_firstOf_r44 Ln I A v5))) (v5 &&& ((1 <<< ((V_X8_firstOf_r44 Ln I A v5) &&& 31)) ^^^ ((-1)))) (some (V_X8_firstOf_r44 Ln I A v5)) r43_
def SI_X8_goNight_r44 (Ln : Nat) (I A : Nat → Nat → Int32) (v1 : Int32) : Nat → Nat → Int32 := if ((V_X8_cameBy_r44 Ln I A v1) &&& ((V_X8_overNow_r44 Ln I A ) ^^^ ((-1)))) ≠ 0 then (if 0 ≤ (V_X8_firstOf_r44 Ln I A (((V_X8_cameBy_r44 Ln I A v1) &&& ((V_X8_overNow_r44 Ln I A ) ^^^ ((-1)))) &&& ((V_X8_whoCanPay_r44 Ln I A ) ^^^ ((-1))))) then ((LA_X8_goNight_r44_65 1000 Ln (zp (zp I 44 26 (V_X8_firstOf_r44 Ln I A (((V_X8_cameBy_r44 Ln I A v1) &&& ((V_X8_overNow_r44 Ln I A ) ^^^ ((-1)))) &&& ((V_X8_whoCanPay_r44 Ln I A ) ^^^ ((-1)))))) 44 27 0) A v1 ((V_X8_cameBy_r44 Ln I A v1) &&& ((V_X8_overNow_r44 Ln I A ) ^^^ ((-1)))) (V_X8_firstOf_r44 Ln I A (((V_X8_cameBy_r44 Ln I A v1) &&& ((V_X8_overNow_r44 Ln I A ) ^^^ ((-1)))) &&& ((V_X8_whoCanPay_r44 Ln I A ) ^^^ ((-1))))) 0 (((V_X8_cameBy_r44 Ln I A v1) &&& ((V_X8_overNow_r44 Ln I A ) ^^^ ((-1)))) &&& (V_X8_whoCanPay_r44 Ln (zp (zp I 44 26 (V_X8_firstOf_r44 Ln I A (((V_X8_cameBy_r44 Ln I A v1) &&& ((V_X8_overNow_r44 Ln I A ) ^^^ ((-1)))) &&& ((V_X8_whoCanPay_r44 Ln I A ) ^^^ ((-1)))))) 44 27 0) A )) none).1) else ((LA_X8_goNight_r44_65 1000 Ln (zp (zp I 44 26 9) 44 27 0) A v1 ((V_X8_cameBy_r44 Ln I A v1) &&& ((V_X8_overNow_r44 Ln I A ) ^^^ ((-1)))) (V_X8_firstOf_r44 Ln I A (((V_X8_cameBy_r44 Ln I A v1) &&& ((V_X8_overNow_r44 Ln I A ) ^^^ ((-1)))) &&& ((V_X8_whoCanPay_r44 Ln I A ) ^^^ ((-1))))) 0 (((V_X8_cameBy_r44 Ln I A v1) &&& ((V_X8_overNow_r44 Ln I A ) ^^^ ((-1)))) &&& (V_X8_whoCanPay_r44 Ln (zp (zp I 44 26 9) 44 27 0) A )) none).1)) else ((LA_X8_goNight_r44_65 1000 Ln (zp (zp I 44 26 (-9)) 44 27 0) A v1 ((V_X8_cameBy_r44 Ln I A v1) &&& ((V_X8_overNow_r44 Ln I A ) ^^^ ((-1)))) (V_X8_firstOf_r44 Ln I A (((V_X8_cameBy_r44 Ln I A v1) &&& ((V_X8_overNow_r44 Ln I A ) ^^^ ((-1)))) &&& ((V_X8_whoCanPay_r44 Ln I A ) ^^^ ((-1))))) 0 (((V_X8_cameBy_r44 Ln I A v1) &&& ((V_X8_overNow_r44 Ln I A ) ^^^ ((-1)))) &&& (V_X8_whoCanPay_r44 Ln (zp (zp I 44 26 (-9)) 44 27 0) A )) none).1)
def SA_X8_goNight_r44 (Ln : Nat) (I A : Nat → Nat → Int32) (v1 : Int32) : Nat → Nat → Int32 := if ((V_X8_cameBy_r44 Ln I A v1) &&& ((V_X8_overNow_r44 Ln I A ) ^^^ ((-1)))) ≠ 0 then (if 0 ≤ (V_X8_firstOf_r44 Ln I A (((V_X8_cameBy_r44 Ln I A v1) &&& ((V_X8_overNow_r44 Ln I A ) ^^^ ((-1)))) &&& ((V_X8_whoCanPay_r44 Ln I A ) ^^^ ((-1))))) then ((LA_X8_goNight_r44_65 1000 Ln (zp (zp I 44 26 (V_X8_firstOf_r44 Ln I A (((V_X8_cameBy_r44 Ln I A v1) &&& ((V_X8_overNow_r44 Ln I A ) ^^^ ((-1)))) &&& ((V_X8_whoCanPay_r44 Ln I A ) ^^^ ((-1)))))) 44 27 0) A v1 ((V_X8_cameBy_r44 Ln I A v1) &&& ((V_X8_overNow_r44 Ln I A ) ^^^ ((-1)))) (V_X8_firstOf_r44 Ln I A (((V_X8_cameBy_r44 Ln I A v1) &&& ((V_X8_overNow_r44 Ln I A ) ^^^ ((-1)))) &&& ((V_X8_whoCanPay_r44 Ln I A ) ^^^ ((-1))))) 0 (((V_X8_cameBy_r44 Ln I A v1) &&& ((V_X8_overNow_r44 Ln I A ) ^^^ ((-1)))) &&& (V_X8_whoCanPay_r44 Ln (zp (zp I 44 26 (V_X8_firstOf_r44 Ln I A (((V_X8_cameBy_r44 Ln I A v1) &&& ((V_X8_overNow_r44 Ln I A ) ^^^ ((-1)))) &&& ((V_X8_whoCanPay_r44 Ln I A ) ^^^ ((-1)))))) 44 27 0) A )) none).2) else ((LA_X8_goNight_r44_65 1000 Ln (zp (zp I 44 26 9) 44 27 0) A v1 ((V_X8_cameBy_r44 Ln I A v1) &&& ((V_X8_overNow_r44 Ln I A ) ^^^ ((-1)))) (V_X8_firstOf_r44 Ln I A (((V_X8_cameBy_r44 Ln I A v1) &&& ((V_X8_overNow_r44 Ln I A ) ^^^ ((-1)))) &&& ((V_X8_whoCanPay_r44 Ln I A ) ^^^ ((-1))))) 0 (((V_X8_cameBy_r44 Ln I A v1) &&& ((V_X8_overNow_r44 Ln I A ) ^^^ ((-1)))) &&& (V_X8_whoCanPay_r44 Ln (zp (zp I 44 26 9) 44 27 0) A )) none).2)) else ((LA_X8_goNight_r44_65 1000 Ln (zp (zp I 44 26 (-9)) 44 27 0) A v1 ((V_X8_cameBy_r44 Ln I A v1) &&& ((V_X8_overNow_r44 Ln I A ) ^^^ ((-1)))) (V_X8_firstOf_r44 Ln I A (((V_X8_cameBy_r44 Ln I A v1) &&& ((V_X8_overNow_r44 Ln I A ) ^^^ ((-1)))) &&& ((V_X8_whoCanPay_r44 Ln I A ) ^^^ ((-1))))) 0 (((V_X8_cameBy_r44 Ln I A v1) &&& ((V_X8_overNow_r44 Ln I A ) ^^^ ((-1)))) &&& (V_X8_whoCanPay_r44 Ln (zp (zp I 44 26 (-9)) 44 27 0) A )) none).2)
def P_X8_goNight_r44 (Ln : Nat) (I A : Nat → Nat → Int32) (v1 : Int32) : Prop := (P_X8_cameBy_r44 Ln I A v1) ∧ ((P_X8_overNow_r44 Ln I A ) ∧ ((P_X8_whoCanPay_r44 Ln I A ) ∧ ((P_X8_firstOf_r44 Ln I A (((V_X8_cameBy_r44 Ln I A v1) &&& ((V_X8_overNow_r44 Ln I A ) ^^^ ((-1)))) &&& ((V_X8_whoCanPay_r44 Ln I A ) ^^^ ((-1))))) ∧ ((((V_X8_cameBy_r44 Ln I A v1) &&& ((V_X8_overNow_r44 Ln I A ) ^^^ ((-1)))) ≠ 0 → ((0 ≤ (V_X8_firstOf_r44 Ln I A (((V_X8_cameBy_r44 Ln I A v1) &&& ((V_X8_overNow_r44 Ln I A ) ^^^ ((-1)))) &&& ((V_X8_whoCanPay_r44 Ln I A ) ^^^ ((-1))))) → ((P_X8_whoCanPay_r44 Ln (zp (zp I 44 26 (V_X8_firstOf_r44 Ln I A (((V_X8_cameBy_r44 Ln I A v1) &&& ((V_X8_overNow_r44 Ln I A ) ^^^ ((-1)))) &&& ((V_X8_whoCanPay_r44 Ln I A ) ^^^ ((-1)))))) 44 27 0) A ) ∧ (PLA_X8_goNight_r44_65 1000 Ln (zp (zp I 44 26 (V_X8_firstOf_r44 Ln I A (((V_X8_cameBy_r44 Ln I A v1) &&& ((V_X8_overNow_r44 Ln I A ) ^^^ ((-1)))) &&& ((V_X8_whoCanPay_r44 Ln I A ) ^^^ ((-1)))))) 44 27 0) A v1 ((V_X8_cameBy_r44 Ln I A v1) &&& ((V_X8_overNow_r44 Ln I A ) ^^^ ((-1)))) (V_X8_firstOf_r44 Ln I A (((V_X8_cameBy_r44 Ln I A v1) &&& ((V_X8_overNow_r44 Ln I A ) ^^^ ((-1)))) &&& ((V_X8_whoCanPay_r44 Ln I A ) ^^^ ((-1))))) 0 (((V_X8_cameBy_r44 Ln I A v1) &&& ((V_X8_overNow_r44 Ln I A ) ^^^ ((-1)))) &&& (V_X8_whoCanPay_r44 Ln (zp (zp I 44 26 (V_X8_firstOf_r44 Ln I A (((V_X8_cameBy_r44 Ln I A v1) &&& ((V_X8_overNow_r44 Ln I A ) ^^^ ((-1)))) &&& ((V_X8_whoCanPay_r44 Ln I A ) ^^^ ((-1)))))) 44 27 0) A )) none))) ∧ (¬ (0 ≤ (V_X8_firstOf_r44 Ln I A (((V_X8_cameBy_r44 Ln I A v1) &&& ((V_X8_overNow_r44 Ln I A ) ^^^ ((-1)))) &&& ((V_X8_whoCanPay_r44 Ln I A ) ^^^ ((-1)))))) → ((P_X8_whoCanPay_r44 Ln (zp (zp I 44 26 9) 44 27 0) A ) ∧ (PLA_X8_goNight_r44_65 1000 Ln (zp (zp I 44 26 9) 44 27 0) A v1 ((V_X8_cameBy_r44 Ln I A v1) &&& ((V_X8_overNow_r44 Ln I A ) ^^^ ((-1)))) (V_X8_firstOf_r44 Ln I A (((V_X8_cameBy_r44 Ln I A v1) &&& ((V_X8_overNow_r44 Ln I A ) ^^^ ((-1)))) &&& ((V_X8_whoCanPay_r44 Ln I A ) ^^^ ((-1))))) 0 (((V_X8_cameBy_r44 Ln I A v1) &&& ((V_X8_overNow_r44 Ln I A ) ^^^ ((-1)))) &&& (V_X8_whoCanPay_r44 Ln (zp (zp I 44 26 9) 44 27 0) A )) none))))) ∧ (¬ (((V_X8_cameBy_r44 Ln I A v1) &&& ((V_X8_overNow_r44 Ln I A ) ^^^ ((-1)))) ≠ 0) → ((P_X8_whoCanPay_r44 Ln (zp (zp I 44 26 (-9)) 44 27 0) A ) ∧ (PLA_X8_goNight_r44_65 1000 Ln (zp (zp I 44 26 (-9)) 44 27 0) A v1 ((V_X8_cameBy_r44 Ln I A v1) &&& ((V_X8_overNow_r44 Ln I A ) ^^^ ((-1)))) (V_X8_firstOf_r44 Ln I A (((V_X8_cameBy_r44 Ln I A v1) &&& ((V_X8_overNow_r44 Ln I A ) ^^^ ((-1)))) &&& ((V_X8_whoCanPay_r44 Ln I A ) ^^^ ((-1))))) 0 (((V_X8_cameBy_r44 Ln I A v1) &&& ((V_X8_overNow_r44 Ln I A ) ^^^ ((-1)))) &&& (V_X8_whoCanPay_r44 Ln (zp (zp I 44 26 (-9)) 44 27 0) A )) none)))))))
set_option maxRecDepth 100000 in
theorem M_X8_goNight_r44 (Ln : Nat) (I A : Nat → Nat → Int32) (v1 : Int32) (h : P_X8_goNight_r44 Ln I A v1) : zEv 124 0 0 0 [some (.ref 44), some (.int v1), none, none, none, none, none] [] (zGs Ln I A) (none, zGs Ln (SI_X8_goNight_r44 Ln I A v1) (SA_X8_goNight_r44 Ln I A v1)) := by
  unfold P_X8_goNight_r44 at h
  unfold SI_X8_goNight_r44 SA_X8_goNight_r44
  obtain ⟨g0_0, r1_⟩ := h
  refine B_X8_goNight_r44_0 Ln I A v1  (M_X8_cameBy_r44 Ln I A v1 g0_0) rfl ?_
  obtain ⟨g2_0, r3_⟩ := r1_
  refine B_X8_goNight_r44_5_s1 Ln I A v1 (V_X8_cameBy_r44 Ln I A v1)  (M_X8_overNow_r44 Ln I A  g2_0) rfl ?_
  obtain ⟨g4_0, r5_⟩ := r3_
  refine B_X8_goNight_r44_9_s2 Ln I A v1 (V_X8_cameBy_r44 Ln I A v1) (V_X8_overNow_r44 Ln I A )  (M_X8_whoCanPay_r44 Ln I A  g4_0) rfl ?_
  obtain ⟨g6_0, r7_⟩ := r5_
  refine B_X8_goNight_r44_19_s3 Ln I A v1 ((V_X8_cameBy_r44 Ln I A v1) &&& ((V_X8_overNow_r44 Ln I A ) ^^^ ((-1)))) ((V_X8_cameBy_r44 Ln I A v1) &&& ((V_X8_overNow_r44 Ln I A ) ^^^ ((-1)))) (V_X8_whoCanPay_r44 Ln I A )  (M_X8_firstOf_r44 Ln I A (((V_X8_cameBy_r44 Ln I A v1) &&& ((V_X8_overNow_r44 Ln I A ) ^^^ ((-1)))) &&& ((V_X8_whoCanPay_r44 Ln I A ) ^^^ ((-1)))) g6_0) rfl ?_
  refine B_X8_goNight_r44_25_s1 Ln I A v1 ((V_X8_cameBy_r44 Ln I A v1) &&& ((V_X8_overNow_r44 Ln I A ) ^^^ ((-1)))) (V_X8_firstOf_r44 Ln I A (((V_X8_cameBy_r44 Ln I A v1) &&& ((V_X8_overNow_r44 Ln I A ) ^^^ ((-1)))) &&& ((V_X8_whoCanPay_r44 Ln I A ) ^^^ ((-1)))))  (fun q10 => ?_) (fun q10 => ?_)
  · try simp only [if_pos q10]
    have h11 := r7_.1 q10
    refine B_X8_goNight_r44_36_s1 Ln I A v1 ((V_X8_cameBy_r44 Ln I A v1) &&& ((V_X8_overNow_r44 Ln I A ) ^^^ ((-1)))) (V_X8_firstOf_r44 Ln I A (((V_X8_cameBy_r44 Ln I A v1) &&& ((V_X8_overNow_r44 Ln I A ) ^^^ ((-1)))) &&& ((V_X8_whoCanPay_r44 Ln I A ) ^^^ ((-1)))))  (fun q14 => ?_) (fun q14 => ?_)
    · try simp only [if_pos q14]
      have h15 := h11.1 q14
      refine B_X8_goNight_r44_45_s1 Ln I A v1 ((V_X8_cameBy_r44 Ln I A v1) &&& ((V_X8_overNow_r44 Ln I A ) ^^^ ((-1)))) (V_X8_firstOf_r44 Ln I A (((V_X8_cameBy_r44 Ln I A v1) &&& ((V_X8_overNow_r44 Ln I A ) ^^^ ((-1)))) &&& ((V_X8_whoCanPay_r44 Ln I A ) ^^^ ((-1)))))  ?_
      obtain ⟨g18_0, r19_⟩ := h15
      refine B_X8_goNight_r44_46_s2 Ln I A v1 ((V_X8_cameBy_r44 Ln I A v1) &&& ((V_X8_overNow_r44 Ln I A ) ^^^ ((-1)))) (V_X8_firstOf_r44 Ln I A (((V_X8_cameBy_r44 Ln I A v1) &&& ((V_X8_overNow_r44 Ln I A ) ^^^ ((-1)))) &&& ((V_X8_whoCanPay_r44 Ln I A ) ^^^ ((-1))))) (V_X8_firstOf_r44 Ln I A (((V_X8_cameBy_r44 Ln I A v1) &&& ((V_X8_overNow_r44 Ln I A ) ^^^ ((-1)))) &&& ((V_X8_whoCanPay_r44 Ln I A ) ^^^ ((-1)))))  (M_X8_whoCanPay_r44 Ln (zp (zp I 44 26 (V_X8_firstOf_r44 Ln I A (((V_X8_cameBy_r44 Ln I A v1) &&& ((V_X8_overNow_r44 Ln I A ) ^^^ ((-1)))) &&& ((V_X8_whoCanPay_r44 Ln I A ) ^^^ ((-1)))))) 44 27 0) A  g18_0) rfl ?_
      refine B_X8_goNight_r44_62_s2 Ln (zp (zp I 44 26 (V_X8_firstOf_r44 Ln I A (((V_X8_cameBy_r44 Ln I A v1) &&& ((V_X8_overNow_r44 Ln I A ) ^^^ ((-1)))) &&& ((V_X8_whoCanPay_r44 Ln I A ) ^^^ ((-1)))))) 44 27 0) A v1 ((V_X8_cameBy_r44 Ln I A v1) &&& ((V_X8_overNow_r44 Ln I A ) ^^^ ((-1)))) (V_X8_firstOf_r44 Ln I A (((V_X8_cameBy_r44 Ln I A v1) &&& ((V_X8_overNow_r44 Ln I A ) ^^^ ((-1)))) &&& ((V_X8_whoCanPay_r44 Ln I A ) ^^^ ((-1))))) 0 ((V_X8_cameBy_r44 Ln I A v1) &&& ((V_X8_overNow_r44 Ln I A ) ^^^ ((-1)))) (V_X8_whoCanPay_r44 Ln (zp (zp I 44 26 (V_X8_firstOf_r44 Ln I A (((V_X8_cameBy_r44 Ln I A v1) &&& ((V_X8_overNow_r44 Ln I A ) ^^^ ((-1)))) &&& ((V_X8_whoCanPay_r44 Ln I A ) ^^^ ((-1)))))) 44 27 0) A )  ?_
      exact MLA_X8_goNight_r44_65 1000 Ln (zp (zp I 44 26 (V_X8_firstOf_r44 Ln I A (((V_X8_cameBy_r44 Ln I A v1) &&& ((V_X8_overNow_r44 Ln I A ) ^^^ ((-1)))) &&& ((V_X8_whoCanPay_r44 Ln I A ) ^^^ ((-1)))))) 44 27 0) A v1 ((V_X8_cameBy_r44 Ln I A v1) &&& ((V_X8_overNow_r44 Ln I A ) ^^^ ((-1)))) (V_X8_firstOf_r44 Ln I A (((V_X8_cameBy_r44 Ln I A v1) &&& ((V_X8_overNow_r44 Ln I A ) ^^^ ((-1)))) &&& ((V_X8_whoCanPay_r44 Ln I A ) ^^^ ((-1))))) 0 (((V_X8_cameBy_r44 Ln I A v1) &&& ((V_X8_overNow_r44 Ln I A ) ^^^ ((-1)))) &&& (V_X8_whoCanPay_r44 Ln (zp (zp I 44 26 (V_X8_firstOf_r44 Ln I A (((V_X8_cameBy_r44 Ln I A v1) &&& ((V_X8_overNow_r44 Ln I A ) ^^^ ((-1)))) &&& ((V_X8_whoCanPay_r44 Ln I A ) ^^^ ((-1)))))) 44 27 0) A )) none r19_
    · try simp only [if_neg q14]
      have h22 := h11.2 q14
      refine B_X8_goNight_r44_40_s1 Ln I A v1 ((V_X8_cameBy_r44 Ln I A v1) &&& ((V_X8_overNow_r44 Ln I A ) ^^^ ((-1)))) (V_X8_firstOf_r44 Ln I A (((V_X8_cameBy_r44 Ln I A v1) &&& ((V_X8_overNow_r44 Ln I A ) ^^^ ((-1)))) &&& ((V_X8_whoCanPay_r44 Ln I A ) ^^^ ((-1)))))  ?_
      obtain ⟨g25_0, r26_⟩ := h22
      refine B_X8_goNight_r44_46_s2 Ln I A v1 ((V_X8_cameBy_r44 Ln I A v1) &&& ((V_X8_overNow_r44 Ln I A ) ^^^ ((-1)))) (V_X8_firstOf_r44 Ln I A (((V_X8_cameBy_r44 Ln I A v1) &&& ((V_X8_overNow_r44 Ln I A ) ^^^ ((-1)))) &&& ((V_X8_whoCanPay_r44 Ln I A ) ^^^ ((-1))))) 9  (M_X8_whoCanPay_r44 Ln (zp (zp I 44 26 9) 44 27 0) A  g25_0) rfl ?_
      refine B_X8_goNight_r44_62_s2 Ln (zp (zp I 44 26 9) 44 27 0) A v1 ((V_X8_cameBy_r44 Ln I A v1) &&& ((V_X8_overNow_r44 Ln I A ) ^^^ ((-1)))) (V_X8_firstOf_r44 Ln I A (((V_X8_cameBy_r44 Ln I A v1) &&& ((V_X8_overNow_r44 Ln I A ) ^^^ ((-1)))) &&& ((V_X8_whoCanPay_r44 Ln I A ) ^^^ ((-1))))) 0 ((V_X8_cameBy_r44 Ln I A v1) &&& ((V_X8_overNow_r44 Ln I A ) ^^^ ((-1)))) (V_X8_whoCanPay_r44 Ln (zp (zp I 44 26 9) 44 27 0) A )  ?_
      exact MLA_X8_goNight_r44_65 1000 Ln (zp (zp I 44 26 9) 44 27 0) A v1 ((V_X8_cameBy_r44 Ln I A v1) &&& ((V_X8_overNow_r44 Ln I A ) ^^^ ((-1)))) (V_X8_firstOf_r44 Ln I A (((V_X8_cameBy_r44 Ln I A v1) &&& ((V_X8_overNow_r44 Ln I A ) ^^^ ((-1)))) &&& ((V_X8_whoCanPay_r44 Ln I A ) ^^^ ((-1))))) 0 (((V_X8_cameBy_r44 Ln I A v1) &&& ((V_X8_overNow_r44 Ln I A ) ^^^ ((-1)))) &&& (V_X8_whoCanPay_r44 Ln (zp (zp I 44 26 9) 44 27 0) A )) none r26_
  · try simp only [if_neg q10]
    have h29 := r7_.2 q10
    refine B_X8_goNight_r44_31_s1 Ln I A v1 ((V_X8_cameBy_r44 Ln I A v1) &&& ((V_X8_overNow_r44 Ln I A ) ^^^ ((-1)))) (V_X8_firstOf_r44 Ln I A (((V_X8_cameBy_r44 Ln I A v1) &&& ((V_X8_overNow_r44 Ln I A ) ^^^ ((-1)))) &&& ((V_X8_whoCanPay_r44 Ln I A ) ^^^ ((-1)))))  ?_
    obtain ⟨g32_0, r33_⟩ := h29
    refine B_X8_goNight_r44_46_s2 Ln I A v1 ((V_X8_cameBy_r44 Ln I A v1) &&& ((V_X8_overNow_r44 Ln I A ) ^^^ ((-1)))) (V_X8_firstOf_r44 Ln I A (((V_X8_cameBy_r44 Ln I A v1) &&& ((V_X8_overNow_r44 Ln I A ) ^^^ ((-1)))) &&& ((V_X8_whoCanPay_r44 Ln I A ) ^^^ ((-1))))) (-9)  (M_X8_whoCanPay_r44 Ln (zp (zp I 44 26 (-9)) 44 27 0) A  g32_0) rfl ?_
    refine B_X8_goNight_r44_62_s2 Ln (zp (zp I 44 26 (-9)) 44 27 0) A v1 ((V_X8_cameBy_r44 Ln I A v1) &&& ((V_X8_overNow_r44 Ln I A ) ^^^ ((-1)))) (V_X8_firstOf_r44 Ln I A (((V_X8_cameBy_r44 Ln I A v1) &&& ((V_X8_overNow_r44 Ln I A ) ^^^ ((-1)))) &&& ((V_X8_whoCanPay_r44 Ln I A ) ^^^ ((-1))))) 0 ((V_X8_cameBy_r44 Ln I A v1) &&& ((V_X8_overNow_r44 Ln I A ) ^^^ ((-1)))) (V_X8_whoCanPay_r44 Ln (zp (zp I 44 26 (-9)) 44 27 0) A )  ?_
    exact MLA_X8_goNight_r44_65 1000 Ln (zp (zp I 44 26 (-9)) 44 27 0) A v1 ((V_X8_cameBy_r44 Ln I A v1) &&& ((V_X8_overNow_r44 Ln I A ) ^^^ ((-1)))) (V_X8_firstOf_r44 Ln I A (((V_X8_cameBy_r44 Ln I A v1) &&& ((V_X8_overNow_r44 Ln I A ) ^^^ ((-1)))) &&& ((V_X8_whoCanPay_r44 Ln I A ) ^^^ ((-1))))) 0 (((V_X8_cameBy_r44 Ln I A v1) &&& ((V_X8_overNow_r44 Ln I A ) ^^^ ((-1)))) &&& (V_X8_whoCanPay_r44 Ln (zp (zp I 44 26 (-9)) 44 27 0) A )) none r33_
def LA_X8_goTo_r44_6 : Nat → (Ln : Nat) → (I A : Nat → Nat → Int32) → Int32 → Int32 → (Nat → Nat → Int32) × (Nat → Nat → Int32)
  | 0, Ln, I, A, v1, v2 => (I, A)
  | m + 1, Ln, I, A, v1, v2 => if v1 < v2 then (I, A) else (LA_X8_goTo_r44_6 m Ln (SI_X8_goNight_r44 Ln I A v2) (SA_X8_goNight_r44 Ln I A v2) v1 (v2 + 1))
def PLA_X8_goTo_r44_6 : Nat → (Ln : Nat) → (I A : Nat → Nat → Int32) → Int32 → Int32 → Prop
  | 0, Ln, I, A, v1, v2 => False
  | m + 1, Ln, I, A, v1, v2 => (v1 < v2 → True) ∧ (¬ (v1 < v2) → ((P_X8_goNight_r44 Ln I A v2) ∧ (PLA_X8_goTo_r44_6 m Ln (SI_X8_goNight_r44 Ln I A v2) (SA_X8_goNight_r44 Ln I A v2) v1 (v2 + 1))))
set_option maxRecDepth 100000 in
theorem MLA_X8_goTo_r44_6 (m Ln : Nat) : ∀ (I A : Nat → Nat → Int32) (v1 : Int32) (v2 : Int32), PLA_X8_goTo_r44_6 m Ln I A v1 v2 → zEv 125 6 0 0 [some (.ref 44), some (.int v1), some (.int v2)] [] (zGs Ln I A) (none, zGs Ln (LA_X8_goTo_r44_6 m Ln I A v1 v2).1 (LA_X8_goTo_r44_6 m Ln I A v1 v2).2) := by
  induction m with
  | zero => intro I A v1 v2 h; exact h.elim
  | succ m ih =>
    intro I A v1 v2 h
    simp only [PLA_X8_goTo_r44_6] at h
    simp only [LA_X8_goTo_r44_6]
    refine B_X8_goTo_r44_6 Ln I A v1 v2  (fun q2 => ?_) (fun q2 => ?_)
    · try simp only [if_pos q2]
      exact B_X8_goTo_r44_22 Ln I A v1 v2 
    · try simp only [if_neg q2]
      have h3 := h.2 q2
      obtain ⟨g4_0, r5_⟩ := h3
      refine B_X8_goTo_r44_11 Ln I A v1 v2  (M_X8_goNight_r44 Ln I A v2 g4_0) rfl ?_
      refine B_X8_goTo_r44_16 Ln (SI_X8_goNight_r44 Ln I A v2) (SA_X8_goNight_r44 Ln I A v2) v1 v2  ?_
      exact ih (SI_X8_goNight_r44 Ln I A v2) (SA_X8_goNight_r44 Ln I A v2) v1 (v2 + 1) r5_
def SI_X8_goTo_r44 (Ln : Nat) (I A : Nat → Nat → Int32) (v1 : Int32) : Nat → Nat → Int32 := (LA_X8_goTo_r44_6 1000 Ln I (SA_X8_begin_r44 Ln I A ) v1 0).1
def SA_X8_goTo_r44 (Ln : Nat) (I A : Nat → Nat → Int32) (v1 : Int32) : Nat → Nat → Int32 := (LA_X8_goTo_r44_6 1000 Ln I (SA_X8_begin_r44 Ln I A ) v1 0).2
def P_X8_goTo_r44 (Ln : Nat) (I A : Nat → Nat → Int32) (v1 : Int32) : Prop := (P_X8_begin_r44 Ln I A ) ∧ (PLA_X8_goTo_r44_6 1000 Ln I (SA_X8_begin_r44 Ln I A ) v1 0)
set_option maxRecDepth 100000 in
theorem M_X8_goTo_r44 (Ln : Nat) (I A : Nat → Nat → Int32) (v1 : Int32) (h : P_X8_goTo_r44 Ln I A v1) : zEv 125 0 0 0 [some (.ref 44), some (.int v1), none] [] (zGs Ln I A) (none, zGs Ln (SI_X8_goTo_r44 Ln I A v1) (SA_X8_goTo_r44 Ln I A v1)) := by
  unfold P_X8_goTo_r44 at h
  unfold SI_X8_goTo_r44 SA_X8_goTo_r44
  obtain ⟨g0_0, r1_⟩ := h
  refine B_X8_goTo_r44_0 Ln I A v1  (M_X8_begin_r44 Ln I A  g0_0) rfl ?_
  refine B_X8_goTo_r44_4 Ln I (SA_X8_begin_r44 Ln I A ) v1  ?_
  exact MLA_X8_goTo_r44_6 1000 Ln I (SA_X8_begin_r44 Ln I A ) v1 0 r1_
def SI_X8_goAll_r44 (Ln : Nat) (I A : Nat → Nat → Int32) : Nat → Nat → Int32 := (SI_X8_goTo_r44 Ln I A 59)
def SA_X8_goAll_r44 (Ln : Nat) (I A : Nat → Nat → Int32) : Nat → Nat → Int32 := (SA_X8_goTo_r44 Ln I A 59)
def P_X8_goAll_r44 (Ln : Nat) (I A : Nat → Nat → Int32) : Prop := (P_X8_goTo_r44 Ln I A 59)
set_option maxRecDepth 100000 in
theorem M_X8_goAll_r44 (Ln : Nat) (I A : Nat → Nat → Int32) (h : P_X8_goAll_r44 Ln I A) : zEv 126 0 0 0 [some (.ref 44)] [] (zGs Ln I A) (none, zGs Ln (SI_X8_goAll_r44 Ln I A) (SA_X8_goAll_r44 Ln I A)) := by
  unfold P_X8_goAll_r44 at h
  unfold SI_X8_goAll_r44 SA_X8_goAll_r44
  refine B_X8_goAll_r44_0 Ln I A   (M_X8_goTo_r44 Ln I A 59 h) rfl ?_
  exact B_X8_goAll_r44_6 Ln (SI_X8_goTo_r44 Ln I A 59) (SA_X8_goTo_r44 Ln I A 59)  
def V_X8_over_r44 (Ln : Nat) (I A : Nat → Nat → Int32) (v1 : Int32) : Int32 := if (V_X8_noShade_r44 Ln I A v1) = 0 then (if ((SA_X8_goAll_r44 Ln I A ) 57 (v1).toNatClampNeg) ≠ 99 then ((SA_X8_goAll_r44 Ln I A ) 57 (v1).toNatClampNeg) else (-9)) else (-1)
def SI_X8_over_r44 (Ln : Nat) (I A : Nat → Nat → Int32) (v1 : Int32) : Nat → Nat → Int32 := if (V_X8_noShade_r44 Ln I A v1) = 0 then (if ((SA_X8_goAll_r44 Ln I A ) 57 (v1).toNatClampNeg) ≠ 99 then (SI_X8_goAll_r44 Ln I A ) else (SI_X8_goAll_r44 Ln I A )) else I
def SA_X8_over_r44 (Ln : Nat) (I A : Nat → Nat → Int32) (v1 : Int32) : Nat → Nat → Int32 := if (V_X8_noShade_r44 Ln I A v1) = 0 then (if ((SA_X8_goAll_r44 Ln I A ) 57 (v1).toNatClampNeg) ≠ 99 then (SA_X8_goAll_r44 Ln I A ) else (SA_X8_goAll_r44 Ln I A )) else A
def P_X8_over_r44 (Ln : Nat) (I A : Nat → Nat → Int32) (v1 : Int32) : Prop := ((V_X8_noShade_r44 Ln I A v1) = 0 → ((P_X8_goAll_r44 Ln I A ) ∧ ((zin v1 6 = true) ∧ ((((SA_X8_goAll_r44 Ln I A ) 57 (v1).toNatClampNeg) ≠ 99 → (zin v1 6 = true)) ∧ (¬ (((SA_X8_goAll_r44 Ln I A ) 57 (v1).toNatClampNeg) ≠ 99) → True))))) ∧ (¬ ((V_X8_noShade_r44 Ln I A v1) = 0) → True)
set_option maxRecDepth 100000 in
theorem M_X8_over_r44 (Ln : Nat) (I A : Nat → Nat → Int32) (v1 : Int32) (h : P_X8_over_r44 Ln I A v1) : zEv 127 0 0 0 [some (.ref 44), some (.int v1)] [] (zGs Ln I A) (some (.int (V_X8_over_r44 Ln I A v1)), zGs Ln (SI_X8_over_r44 Ln I A v1) (SA_X8_over_r44 Ln I A v1)) := by
  unfold P_X8_over_r44 at h
  unfold V_X8_over_r44 SI_X8_over_r44 SA_X8_over_r44
  refine B_X8_over_r44_0 Ln I A v1  (M_X8_noShade_r44 Ln I A v1 ) rfl ?_
  refine B_X8_over_r44_5_s1 Ln I A v1 (V_X8_noShade_r44 Ln I A v1)  (fun q4 => ?_) (fun q4 => ?_)
  · try simp only [if_pos q4]
    have h5 := h.1 q4
    obtain ⟨g6_0, r7_⟩ := h5
    refine B_X8_over_r44_10 Ln I A v1  (M_X8_goAll_r44 Ln I A  g6_0) rfl ?_
    obtain ⟨g8_0, r9_⟩ := r7_
    refine B_X8_over_r44_14 Ln (SI_X8_goAll_r44 Ln I A ) (SA_X8_goAll_r44 Ln I A ) v1 g8_0 (fun q10 => ?_) (fun q10 => ?_)
    · try simp only [if_pos q10]
      have h11 := r9_.1 q10
      refine B_X8_over_r44_30 Ln (SI_X8_goAll_r44 Ln I A ) (SA_X8_goAll_r44 Ln I A ) v1 h11 ?_
      exact B_X8_over_r44_36_s1 Ln (SI_X8_goAll_r44 Ln I A ) (SA_X8_goAll_r44 Ln I A ) v1 ((SA_X8_goAll_r44 Ln I A ) 57 (v1).toNatClampNeg) 
    · try simp only [if_neg q10]
      refine B_X8_over_r44_25 Ln (SI_X8_goAll_r44 Ln I A ) (SA_X8_goAll_r44 Ln I A ) v1  ?_
      exact B_X8_over_r44_36_s1 Ln (SI_X8_goAll_r44 Ln I A ) (SA_X8_goAll_r44 Ln I A ) v1 (-9) 
  · try simp only [if_neg q4]
    exact B_X8_over_r44_8 Ln I A v1 
def V_X8_refusedFor_r44 (Ln : Nat) (I A : Nat → Nat → Int32) (v1 : Int32) : Int32 := if (V_X8_noNight Ln I A v1) = 0 then (if (I 44 4) ≠ 0 then 0 else (-3)) else (-1)
set_option maxRecDepth 100000 in
theorem M_X8_refusedFor_r44 (Ln : Nat) (I A : Nat → Nat → Int32) (v1 : Int32) : zEv 128 0 0 0 [some (.ref 44), some (.int v1)] [] (zGs Ln I A) (some (.int (V_X8_refusedFor_r44 Ln I A v1)), zGs Ln (I) (A)) := by
  unfold V_X8_refusedFor_r44
  refine B_X8_refusedFor_r44_0 Ln I A v1  (M_X8_noNight Ln I A v1 ) rfl ?_
  refine B_X8_refusedFor_r44_4_s1 Ln I A v1 (V_X8_noNight Ln I A v1)  (fun q0 => ?_) (fun q0 => ?_)
  · try simp only [if_pos q0]
    refine B_X8_refusedFor_r44_11 Ln I A v1  (fun q1 => ?_) (fun q1 => ?_)
    · try simp only [if_pos q1]
      refine B_X8_refusedFor_r44_23 Ln I A v1  ?_
      exact B_X8_refusedFor_r44_24_s1 Ln I A v1 0 
    · try simp only [if_neg q1]
      refine B_X8_refusedFor_r44_18 Ln I A v1  ?_
      exact B_X8_refusedFor_r44_24_s1 Ln I A v1 (-3) 
  · try simp only [if_neg q0]
    refine B_X8_refusedFor_r44_7 Ln I A v1  ?_
    exact B_X8_refusedFor_r44_24_s1 Ln I A v1 (-1) 
def V_X8_overBy_r44 (Ln : Nat) (I A : Nat → Nat → Int32) (v1 : Int32) : Int32 := if 0 ≤ (V_X8_refusedFor_r44 Ln I A v1) then (V_X8_overNow_r44 Ln (SI_X8_goTo_r44 Ln I A v1) (SA_X8_goTo_r44 Ln I A v1) ) else (V_X8_refusedFor_r44 Ln I A v1)
def SI_X8_overBy_r44 (Ln : Nat) (I A : Nat → Nat → Int32) (v1 : Int32) : Nat → Nat → Int32 := if 0 ≤ (V_X8_refusedFor_r44 Ln I A v1) then (SI_X8_goTo_r44 Ln I A v1) else I
def SA_X8_overBy_r44 (Ln : Nat) (I A : Nat → Nat → Int32) (v1 : Int32) : Nat → Nat → Int32 := if 0 ≤ (V_X8_refusedFor_r44 Ln I A v1) then (SA_X8_goTo_r44 Ln I A v1) else A
def P_X8_overBy_r44 (Ln : Nat) (I A : Nat → Nat → Int32) (v1 : Int32) : Prop := (0 ≤ (V_X8_refusedFor_r44 Ln I A v1) → ((P_X8_goTo_r44 Ln I A v1) ∧ (P_X8_overNow_r44 Ln (SI_X8_goTo_r44 Ln I A v1) (SA_X8_goTo_r44 Ln I A v1) ))) ∧ (¬ (0 ≤ (V_X8_refusedFor_r44 Ln I A v1)) → True)
set_option maxRecDepth 100000 in
theorem M_X8_overBy_r44 (Ln : Nat) (I A : Nat → Nat → Int32) (v1 : Int32) (h : P_X8_overBy_r44 Ln I A v1) : zEv 129 0 0 0 [some (.ref 44), some (.int v1), none] [] (zGs Ln I A) (some (.int (V_X8_overBy_r44 Ln I A v1)), zGs Ln (SI_X8_overBy_r44 Ln I A v1) (SA_X8_overBy_r44 Ln I A v1)) := by
  unfold P_X8_overBy_r44 at h
  unfold V_X8_overBy_r44 SI_X8_overBy_r44 SA_X8_overBy_r44
  refine B_X8_overBy_r44_0 Ln I A v1  (M_X8_refusedFor_r44 Ln I A v1 ) rfl ?_
  refine B_X8_overBy_r44_5_s1 Ln I A v1 (V_X8_refusedFor_r44 Ln I A v1)  (fun q4 => ?_) (fun q4 => ?_)
  · try simp only [if_pos q4]
    have h5 := h.1 q4
    obtain ⟨g6_0, r7_⟩ := h5
    refine B_X8_overBy_r44_12 Ln I A v1 (V_X8_refusedFor_r44 Ln I A v1)  (M_X8_goTo_r44 Ln I A v1 g6_0) rfl ?_
    refine B_X8_overBy_r44_17 Ln (SI_X8_goTo_r44 Ln I A v1) (SA_X8_goTo_r44 Ln I A v1) v1 (V_X8_refusedFor_r44 Ln I A v1)  (M_X8_overNow_r44 Ln (SI_X8_goTo_r44 Ln I A v1) (SA_X8_goTo_r44 Ln I A v1)  r7_) rfl ?_
    exact B_X8_overBy_r44_21_s1 Ln (SI_X8_goTo_r44 Ln I A v1) (SA_X8_goTo_r44 Ln I A v1) v1 (V_X8_refusedFor_r44 Ln I A v1) (V_X8_overNow_r44 Ln (SI_X8_goTo_r44 Ln I A v1) (SA_X8_goTo_r44 Ln I A v1) ) 
  · try simp only [if_neg q4]
    exact B_X8_overBy_r44_10 Ln I A v1 (V_X8_refusedFor_r44 Ln I A v1) 
def V_X8_rower_r44 (Ln : Nat) (I A : Nat → Nat → Int32) (v1 : Int32) : Int32 := if 0 ≤ (V_X8_refusedFor_r44 Ln I A v1) then ((SI_X8_goTo_r44 Ln I A v1) 44 26) else (V_X8_refusedFor_r44 Ln I A v1)
def SI_X8_rower_r44 (Ln : Nat) (I A : Nat → Nat → Int32) (v1 : Int32) : Nat → Nat → Int32 := if 0 ≤ (V_X8_refusedFor_r44 Ln I A v1) then (SI_X8_goTo_r44 Ln I A v1) else I
def SA_X8_rower_r44 (Ln : Nat) (I A : Nat → Nat → Int32) (v1 : Int32) : Nat → Nat → Int32 := if 0 ≤ (V_X8_refusedFor_r44 Ln I A v1) then (SA_X8_goTo_r44 Ln I A v1) else A
def P_X8_rower_r44 (Ln : Nat) (I A : Nat → Nat → Int32) (v1 : Int32) : Prop := (0 ≤ (V_X8_refusedFor_r44 Ln I A v1) → (P_X8_goTo_r44 Ln I A v1)) ∧ (¬ (0 ≤ (V_X8_refusedFor_r44 Ln I A v1)) → True)
set_option maxRecDepth 100000 in
theorem M_X8_rower_r44 (Ln : Nat) (I A : Nat → Nat → Int32) (v1 : Int32) (h : P_X8_rower_r44 Ln I A v1) : zEv 130 0 0 0 [some (.ref 44), some (.int v1), none] [] (zGs Ln I A) (some (.int (V_X8_rower_r44 Ln I A v1)), zGs Ln (SI_X8_rower_r44 Ln I A v1) (SA_X8_rower_r44 Ln I A v1)) := by
  unfold P_X8_rower_r44 at h
  unfold V_X8_rower_r44 SI_X8_rower_r44 SA_X8_rower_r44
  refine B_X8_rower_r44_0 Ln I A v1  (M_X8_refusedFor_r44 Ln I A v1 ) rfl ?_
  refine B_X8_rower_r44_5_s1 Ln I A v1 (V_X8_refusedFor_r44 Ln I A v1)  (fun q4 => ?_) (fun q4 => ?_)
  · try simp only [if_pos q4]
    have h5 := h.1 q4
    refine B_X8_rower_r44_12 Ln I A v1 (V_X8_refusedFor_r44 Ln I A v1)  (M_X8_goTo_r44 Ln I A v1 h5) rfl ?_
    exact B_X8_rower_r44_17 Ln (SI_X8_goTo_r44 Ln I A v1) (SA_X8_goTo_r44 Ln I A v1) v1 (V_X8_refusedFor_r44 Ln I A v1) 
  · try simp only [if_neg q4]
    exact B_X8_rower_r44_10 Ln I A v1 (V_X8_refusedFor_r44 Ln I A v1) 
def V_X8_sits_r44 (Ln : Nat) (I A : Nat → Nat → Int32) (v1 : Int32) : Int32 := if 0 ≤ (V_X8_refusedFor_r44 Ln I A v1) then ((SI_X8_goTo_r44 Ln I A v1) 44 27) else (V_X8_refusedFor_r44 Ln I A v1)
def SI_X8_sits_r44 (Ln : Nat) (I A : Nat → Nat → Int32) (v1 : Int32) : Nat → Nat → Int32 := if 0 ≤ (V_X8_refusedFor_r44 Ln I A v1) then (SI_X8_goTo_r44 Ln I A v1) else I
def SA_X8_sits_r44 (Ln : Nat) (I A : Nat → Nat → Int32) (v1 : Int32) : Nat → Nat → Int32 := if 0 ≤ (V_X8_refusedFor_r44 Ln I A v1) then (SA_X8_goTo_r44 Ln I A v1) else A
def P_X8_sits_r44 (Ln : Nat) (I A : Nat → Nat → Int32) (v1 : Int32) : Prop := (0 ≤ (V_X8_refusedFor_r44 Ln I A v1) → (P_X8_goTo_r44 Ln I A v1)) ∧ (¬ (0 ≤ (V_X8_refusedFor_r44 Ln I A v1)) → True)
set_option maxRecDepth 100000 in
theorem M_X8_sits_r44 (Ln : Nat) (I A : Nat → Nat → Int32) (v1 : Int32) (h : P_X8_sits_r44 Ln I A v1) : zEv 131 0 0 0 [some (.ref 44), some (.int v1), none] [] (zGs Ln I A) (some (.int (V_X8_sits_r44 Ln I A v1)), zGs Ln (SI_X8_sits_r44 Ln I A v1) (SA_X8_sits_r44 Ln I A v1)) := by
  unfold P_X8_sits_r44 at h
  unfold V_X8_sits_r44 SI_X8_sits_r44 SA_X8_sits_r44
  refine B_X8_sits_r44_0 Ln I A v1  (M_X8_refusedFor_r44 Ln I A v1 ) rfl ?_
  refine B_X8_sits_r44_5_s1 Ln I A v1 (V_X8_refusedFor_r44 Ln I A v1)  (fun q4 => ?_) (fun q4 => ?_)
  · try simp only [if_pos q4]
    have h5 := h.1 q4
    refine B_X8_sits_r44_12 Ln I A v1 (V_X8_refusedFor_r44 Ln I A v1)  (M_X8_goTo_r44 Ln I A v1 h5) rfl ?_
    exact B_X8_sits_r44_17 Ln (SI_X8_goTo_r44 Ln I A v1) (SA_X8_goTo_r44 Ln I A v1) v1 (V_X8_refusedFor_r44 Ln I A v1) 
  · try simp only [if_neg q4]
    exact B_X8_sits_r44_10 Ln I A v1 (V_X8_refusedFor_r44 Ln I A v1) 
def V_X8_waits_r44 (Ln : Nat) (I A : Nat → Nat → Int32) (v1 : Int32) : Int32 := if (V_X8_noShade_r44 Ln I A v1) = 0 then (V_X8_waitOf_r44 Ln (SI_X8_goAll_r44 Ln I A ) (SA_X8_goAll_r44 Ln I A ) v1) else (-1)
def SI_X8_waits_r44 (Ln : Nat) (I A : Nat → Nat → Int32) (v1 : Int32) : Nat → Nat → Int32 := if (V_X8_noShade_r44 Ln I A v1) = 0 then (SI_X8_goAll_r44 Ln I A ) else I
def SA_X8_waits_r44 (Ln : Nat) (I A : Nat → Nat → Int32) (v1 : Int32) : Nat → Nat → Int32 := if (V_X8_noShade_r44 Ln I A v1) = 0 then (SA_X8_goAll_r44 Ln I A ) else A
def P_X8_waits_r44 (Ln : Nat) (I A : Nat → Nat → Int32) (v1 : Int32) : Prop := ((V_X8_noShade_r44 Ln I A v1) = 0 → ((P_X8_goAll_r44 Ln I A ) ∧ (P_X8_waitOf_r44 Ln (SI_X8_goAll_r44 Ln I A ) (SA_X8_goAll_r44 Ln I A ) v1))) ∧ (¬ ((V_X8_noShade_r44 Ln I A v1) = 0) → True)
set_option maxRecDepth 100000 in
theorem M_X8_waits_r44 (Ln : Nat) (I A : Nat → Nat → Int32) (v1 : Int32) (h : P_X8_waits_r44 Ln I A v1) : zEv 133 0 0 0 [some (.ref 44), some (.int v1)] [] (zGs Ln I A) (some (.int (V_X8_waits_r44 Ln I A v1)), zGs Ln (SI_X8_waits_r44 Ln I A v1) (SA_X8_waits_r44 Ln I A v1)) := by
  unfold P_X8_waits_r44 at h
  unfold V_X8_waits_r44 SI_X8_waits_r44 SA_X8_waits_r44
  refine B_X8_waits_r44_0 Ln I A v1  (M_X8_noShade_r44 Ln I A v1 ) rfl ?_
  refine B_X8_waits_r44_5_s1 Ln I A v1 (V_X8_noShade_r44 Ln I A v1)  (fun q4 => ?_) (fun q4 => ?_)
  · try simp only [if_pos q4]
    have h5 := h.1 q4
    obtain ⟨g6_0, r7_⟩ := h5
    refine B_X8_waits_r44_10 Ln I A v1  (M_X8_goAll_r44 Ln I A  g6_0) rfl ?_
    refine B_X8_waits_r44_14 Ln (SI_X8_goAll_r44 Ln I A ) (SA_X8_goAll_r44 Ln I A ) v1  (M_X8_waitOf_r44 Ln (SI_X8_goAll_r44 Ln I A ) (SA_X8_goAll_r44 Ln I A ) v1 r7_) rfl ?_
    exact B_X8_waits_r44_19_s1 Ln (SI_X8_goAll_r44 Ln I A ) (SA_X8_goAll_r44 Ln I A ) v1 (V_X8_waitOf_r44 Ln (SI_X8_goAll_r44 Ln I A ) (SA_X8_goAll_r44 Ln I A ) v1) 
  · try simp only [if_neg q4]
    exact B_X8_waits_r44_8 Ln I A v1 
def LA_X8_waitsOfAll_r44_8 : Nat → (Ln : Nat) → (I A : Nat → Nat → Int32) → Int32 → Int32 → Int32
  | 0, Ln, I, A, v1, v2 => 0
  | m + 1, Ln, I, A, v1, v2 => if (I 44 4) ≤ v2 then v1 else (LA_X8_waitsOfAll_r44_8 m Ln I A (v1 + (V_X8_waitOf_r44 Ln I A v2)) (v2 + 1))
def PLA_X8_waitsOfAll_r44_8 : Nat → (Ln : Nat) → (I A : Nat → Nat → Int32) → Int32 → Int32 → Prop
  | 0, Ln, I, A, v1, v2 => False
  | m + 1, Ln, I, A, v1, v2 => ((I 44 4) ≤ v2 → True) ∧ (¬ ((I 44 4) ≤ v2) → ((P_X8_waitOf_r44 Ln I A v2) ∧ (PLA_X8_waitsOfAll_r44_8 m Ln I A (v1 + (V_X8_waitOf_r44 Ln I A v2)) (v2 + 1))))
set_option maxRecDepth 100000 in
theorem MLA_X8_waitsOfAll_r44_8 (m Ln : Nat) : ∀ (I A : Nat → Nat → Int32) (v1 : Int32) (v2 : Int32), PLA_X8_waitsOfAll_r44_8 m Ln I A v1 v2 → zEv 134 8 0 0 [some (.ref 44), some (.int v1), some (.int v2)] [] (zGs Ln I A) (some (.int (LA_X8_waitsOfAll_r44_8 m Ln I A v1 v2)), zGs Ln I A) := by
  induction m with
  | zero => intro I A v1 v2 h; exact h.elim
  | succ m ih =>
    intro I A v1 v2 h
    simp only [PLA_X8_waitsOfAll_r44_8] at h
    simp only [LA_X8_waitsOfAll_r44_8]
    refine B_X8_waitsOfAll_r44_8 Ln I A v1 v2  (fun q2 => ?_) (fun q2 => ?_)
    · try simp only [if_pos q2]
      exact B_X8_waitsOfAll_r44_30 Ln I A v1 v2 
    · try simp only [if_neg q2]
      have h3 := h.2 q2
      obtain ⟨g4_0, r5_⟩ := h3
      refine B_X8_waitsOfAll_r44_16 Ln I A v1 v2  (M_X8_waitOf_r44 Ln I A v2 g4_0) rfl ?_
      refine B_X8_waitsOfAll_r44_22_s2 Ln I A v1 v2 v1 (V_X8_waitOf_r44 Ln I A v2)  ?_
      exact ih I A (v1 + (V_X8_waitOf_r44 Ln I A v2)) (v2 + 1) r5_
def V_X8_waitsOfAll_r44 (Ln : Nat) (I A : Nat → Nat → Int32) : Int32 := LA_X8_waitsOfAll_r44_8 1000 Ln (SI_X8_goAll_r44 Ln I A ) (SA_X8_goAll_r44 Ln I A ) 0 0
def SI_X8_waitsOfAll_r44 (Ln : Nat) (I A : Nat → Nat → Int32) : Nat → Nat → Int32 := (SI_X8_goAll_r44 Ln I A )
def SA_X8_waitsOfAll_r44 (Ln : Nat) (I A : Nat → Nat → Int32) : Nat → Nat → Int32 := (SA_X8_goAll_r44 Ln I A )
def P_X8_waitsOfAll_r44 (Ln : Nat) (I A : Nat → Nat → Int32) : Prop := (P_X8_goAll_r44 Ln I A ) ∧ (PLA_X8_waitsOfAll_r44_8 1000 Ln (SI_X8_goAll_r44 Ln I A ) (SA_X8_goAll_r44 Ln I A ) 0 0)
set_option maxRecDepth 100000 in
theorem M_X8_waitsOfAll_r44 (Ln : Nat) (I A : Nat → Nat → Int32) (h : P_X8_waitsOfAll_r44 Ln I A) : zEv 134 0 0 0 [some (.ref 44), none, none] [] (zGs Ln I A) (some (.int (V_X8_waitsOfAll_r44 Ln I A)), zGs Ln (SI_X8_waitsOfAll_r44 Ln I A) (SA_X8_waitsOfAll_r44 Ln I A)) := by
  unfold P_X8_waitsOfAll_r44 at h
  unfold V_X8_waitsOfAll_r44 SI_X8_waitsOfAll_r44 SA_X8_waitsOfAll_r44
  obtain ⟨g0_0, r1_⟩ := h
  refine B_X8_waitsOfAll_r44_0 Ln I A   (M_X8_goAll_r44 Ln I A  g0_0) rfl ?_
  refine B_X8_waitsOfAll_r44_4 Ln (SI_X8_goAll_r44 Ln I A ) (SA_X8_goAll_r44 Ln I A )   ?_
  exact MLA_X8_waitsOfAll_r44_8 1000 Ln (SI_X8_goAll_r44 Ln I A ) (SA_X8_goAll_r44 Ln I A ) 0 0 r1_
def V_X8_allWait_r44 (Ln : Nat) (I A : Nat → Nat → Int32) : Int32 := if (I 44 4) ≠ 0 then (V_X8_waitsOfAll_r44 Ln I A ) else (-3)
def SI_X8_allWait_r44 (Ln : Nat) (I A : Nat → Nat → Int32) : Nat → Nat → Int32 := if (I 44 4) ≠ 0 then (SI_X8_waitsOfAll_r44 Ln I A ) else I
def SA_X8_allWait_r44 (Ln : Nat) (I A : Nat → Nat → Int32) : Nat → Nat → Int32 := if (I 44 4) ≠ 0 then (SA_X8_waitsOfAll_r44 Ln I A ) else A
def P_X8_allWait_r44 (Ln : Nat) (I A : Nat → Nat → Int32) : Prop := ((I 44 4) ≠ 0 → (P_X8_waitsOfAll_r44 Ln I A )) ∧ (¬ ((I 44 4) ≠ 0) → True)
set_option maxRecDepth 100000 in
theorem M_X8_allWait_r44 (Ln : Nat) (I A : Nat → Nat → Int32) (h : P_X8_allWait_r44 Ln I A) : zEv 135 0 0 0 [some (.ref 44)] [] (zGs Ln I A) (some (.int (V_X8_allWait_r44 Ln I A)), zGs Ln (SI_X8_allWait_r44 Ln I A) (SA_X8_allWait_r44 Ln I A)) := by
  unfold P_X8_allWait_r44 at h
  unfold V_X8_allWait_r44 SI_X8_allWait_r44 SA_X8_allWait_r44
  refine B_X8_allWait_r44_0 Ln I A   (fun q2 => ?_) (fun q2 => ?_)
  · try simp only [if_pos q2]
    have h3 := h.1 q2
    refine B_X8_allWait_r44_12 Ln I A   (M_X8_waitsOfAll_r44 Ln I A  h3) rfl ?_
    exact B_X8_allWait_r44_16_s1 Ln (SI_X8_waitsOfAll_r44 Ln I A ) (SA_X8_waitsOfAll_r44 Ln I A ) (V_X8_waitsOfAll_r44 Ln I A ) 
  · try simp only [if_neg q2]
    refine B_X8_allWait_r44_7 Ln I A   ?_
    exact B_X8_allWait_r44_16_s1 Ln I A (-3) 
