/-! methods, by program (wip/whole/gen_fun.py, gen_loop.py) -/
def LA_X8_mayCross_r44_4 : Nat → (Ln : Nat) → (I A : Nat → Nat → Int32) → Int32 → Int32 → Int32 → Int32
  | 0, Ln, I, A, v1, v2, v3 => 0
  | m + 1, Ln, I, A, v1, v2, v3 => if (I 44 4) ≤ v3 then (if (v1 &&& ((V_X8_whoCanPay_r44 Ln I A ) ^^^ ((-1)))) ≠ 0 then 0 else (if (I 44 1) < (V_X8_bits Ln I A v1) then 0 else (if (I 44 2) < v2 then 0 else 1))) else (if (V_X8_isIn Ln I A v1 v3) = 0 then (LA_X8_mayCross_r44_4 m Ln I A v1 (v2 + 0) (v3 + 1)) else (LA_X8_mayCross_r44_4 m Ln I A v1 (v2 + (V_X8_heavyOf_r44 Ln I A v3)) (v3 + 1)))
def PLA_X8_mayCross_r44_4 : Nat → (Ln : Nat) → (I A : Nat → Nat → Int32) → Int32 → Int32 → Int32 → Prop
  | 0, Ln, I, A, v1, v2, v3 => False
  | m + 1, Ln, I, A, v1, v2, v3 => ((I 44 4) ≤ v3 → ((P_X8_whoCanPay_r44 Ln I A ) ∧ (((v1 &&& ((V_X8_whoCanPay_r44 Ln I A ) ^^^ ((-1)))) ≠ 0 → True) ∧ (¬ ((v1 &&& ((V_X8_whoCanPay_r44 Ln I A ) ^^^ ((-1)))) ≠ 0) → (P_X8_bits Ln I A v1))))) ∧ (¬ ((I 44 4) ≤ v3) → (((V_X8_isIn Ln I A v1 v3) = 0 → (PLA_X8_mayCross_r44_4 m Ln I A v1 (v2 + 0) (v3 + 1))) ∧ (¬ ((V_X8_isIn Ln I A v1 v3) = 0) → ((P_X8_heavyOf_r44 Ln I A v3) ∧ (PLA_X8_mayCross_r44_4 m Ln I A v1 (v2 + (V_X8_heavyOf_r44 Ln I A v3)) (v3 + 1))))))
set_option maxRecDepth 100000 in
theorem MLA_X8_mayCross_r44_4 (m Ln : Nat) : ∀ (I A : Nat → Nat → Int32) (v1 : Int32) (v2 : Int32) (v3 : Int32), PLA_X8_mayCross_r44_4 m Ln I A v1 v2 v3 → zEv 136 4 0 0 [some (.ref 44), some (.int v1), some (.int v2), some (.int v3)] [] (zGs Ln I A) (some (.int (LA_X8_mayCross_r44_4 m Ln I A v1 v2 v3)), zGs Ln I A) := by
  induction m with
  | zero => intro I A v1 v2 v3 h; exact h.elim
  | succ m ih =>
    intro I A v1 v2 v3 h
    simp only [PLA_X8_mayCross_r44_4] at h
    simp only [LA_X8_mayCross_r44_4]
    refine B_X8_mayCross_r44_4 Ln I A v1 v2 v3  (fun q2 => ?_) (fun q2 => ?_)
    · try simp only [if_pos q2]
      have h3 := h.1 q2
      obtain ⟨g4_0, r5_⟩ := h3
      refine B_X8_mayCross_r44_38 Ln I A v1 v2 v3  (M_X8_whoCanPay_r44 Ln I A  g4_0) rfl ?_
      refine B_X8_mayCross_r44_43_s2 Ln I A v1 v2 v3 v1 (V_X8_whoCanPay_r44 Ln I A )  (fun q8 => ?_) (fun q8 => ?_)
      · try simp only [if_pos q8]
        refine B_X8_mayCross_r44_72 Ln I A v1 v2 v3  ?_
        exact B_X8_mayCross_r44_73_s1 Ln I A v1 v2 v3 0 
      · try simp only [if_neg q8]
        have h9 := r5_.2 q8
        refine B_X8_mayCross_r44_49 Ln I A v1 v2 v3  (M_X8_bits Ln I A v1 h9) rfl ?_
        refine B_X8_mayCross_r44_53_s1 Ln I A v1 v2 v3 (V_X8_bits Ln I A v1)  (fun q11 => ?_) (fun q11 => ?_)
        · try simp only [if_pos q11]
          refine B_X8_mayCross_r44_72 Ln I A v1 v2 v3  ?_
          exact B_X8_mayCross_r44_73_s1 Ln I A v1 v2 v3 0 
        · try simp only [if_neg q11]
          refine B_X8_mayCross_r44_60 Ln I A v1 v2 v3  (fun q12 => ?_) (fun q12 => ?_)
          · try simp only [if_pos q12]
            refine B_X8_mayCross_r44_72 Ln I A v1 v2 v3  ?_
            exact B_X8_mayCross_r44_73_s1 Ln I A v1 v2 v3 0 
          · try simp only [if_neg q12]
            refine B_X8_mayCross_r44_68 Ln I A v1 v2 v3  ?_
            exact B_X8_mayCross_r44_73_s1 Ln I A v1 v2 v3 1 
    · try simp only [if_neg q2]
      have h13 := h.2 q2
      refine B_X8_mayCross_r44_12 Ln I A v1 v2 v3  (M_X8_isIn Ln I A v1 v3 ) rfl ?_
      refine B_X8_mayCross_r44_18_s2 Ln I A v1 v2 v3 v2 (V_X8_isIn Ln I A v1 v3)  (fun q18 => ?_) (fun q18 => ?_)
      · try simp only [if_pos q18]
        have h19 := h13.1 q18
        refine B_X8_mayCross_r44_29_s1 Ln I A v1 v2 v3 v2  ?_
        refine B_X8_mayCross_r44_30_s2 Ln I A v1 v2 v3 v2 0  ?_
        exact ih I A v1 (v2 + 0) (v3 + 1) h19
      · try simp only [if_neg q18]
        have h24 := h13.2 q18
        obtain ⟨g25_0, r26_⟩ := h24
        refine B_X8_mayCross_r44_21_s1 Ln I A v1 v2 v3 v2  (M_X8_heavyOf_r44 Ln I A v3 g25_0) rfl ?_
        refine B_X8_mayCross_r44_26_s2 Ln I A v1 v2 v3 v2 (V_X8_heavyOf_r44 Ln I A v3)  ?_
        refine B_X8_mayCross_r44_30_s2 Ln I A v1 v2 v3 v2 (V_X8_heavyOf_r44 Ln I A v3)  ?_
        exact ih I A v1 (v2 + (V_X8_heavyOf_r44 Ln I A v3)) (v3 + 1) r26_
def V_X8_mayCross_r44 (Ln : Nat) (I A : Nat → Nat → Int32) (v1 : Int32) : Int32 := LA_X8_mayCross_r44_4 1000 Ln I A v1 0 0
def P_X8_mayCross_r44 (Ln : Nat) (I A : Nat → Nat → Int32) (v1 : Int32) : Prop := PLA_X8_mayCross_r44_4 1000 Ln I A v1 0 0
set_option maxRecDepth 100000 in
theorem M_X8_mayCross_r44 (Ln : Nat) (I A : Nat → Nat → Int32) (v1 : Int32) (h : P_X8_mayCross_r44 Ln I A v1) : zEv 136 0 0 0 [some (.ref 44), some (.int v1), none, none] [] (zGs Ln I A) (some (.int (V_X8_mayCross_r44 Ln I A v1)), zGs Ln (I) (A)) := by
  unfold P_X8_mayCross_r44 at h
  unfold V_X8_mayCross_r44
  refine B_X8_mayCross_r44_0 Ln I A v1  ?_
  exact MLA_X8_mayCross_r44_4 1000 Ln I A v1 0 0 h
def LB_X8_least_r44_75 : Nat → (Ln : Nat) → (I A : Nat → Nat → Int32) → Int32 → Int32 → Int32 → Int32 → Int32 → (Option Int32) → Int32 × Int32 × Option Int32
  | 0, Ln, I, A, v1, v2, v3, v4, v5, j6 => (0, 0, none)
  | m + 1, Ln, I, A, v1, v2, v3, v4, v5, j6 => if (V_X8_all_r44 Ln I A ) < v5 then (v4, v5, j6) else (if (A 61 (v5).toNatClampNeg) = 0 then (LB_X8_least_r44_75 m Ln I A v1 v2 v3 v4 (v5 + 1) j6) else (if (v5 &&& v3) ≠ 0 then (LB_X8_least_r44_75 m Ln I A v1 v2 v3 v4 (v5 + 1) j6) else (if (v5 &&& (v2 ^^^ ((-1)))) ≠ 0 then (LB_X8_least_r44_75 m Ln I A v1 v2 v3 v4 (v5 + 1) j6) else (if v4 ≤ ((V_X8_bits Ln I A ((v2 &&& (v3 ^^^ ((-1)))) &&& (v5 ^^^ ((-1))))) + (A 60 (v3 ||| v5).toNatClampNeg)) then (LB_X8_least_r44_75 m Ln I A v1 v2 v3 v4 (v5 + 1) (some ((V_X8_bits Ln I A ((v2 &&& (v3 ^^^ ((-1)))) &&& (v5 ^^^ ((-1))))) + (A 60 (v3 ||| v5).toNatClampNeg)))) else (LB_X8_least_r44_75 m Ln I A v1 v2 v3 ((V_X8_bits Ln I A ((v2 &&& (v3 ^^^ ((-1)))) &&& (v5 ^^^ ((-1))))) + (A 60 (v3 ||| v5).toNatClampNeg)) (v5 + 1) (some ((V_X8_bits Ln I A ((v2 &&& (v3 ^^^ ((-1)))) &&& (v5 ^^^ ((-1))))) + (A 60 (v3 ||| v5).toNatClampNeg))))))))
def PLB_X8_least_r44_75 : Nat → (Ln : Nat) → (I A : Nat → Nat → Int32) → Int32 → Int32 → Int32 → Int32 → Int32 → (Option Int32) → Prop
  | 0, Ln, I, A, v1, v2, v3, v4, v5, j6 => False
  | m + 1, Ln, I, A, v1, v2, v3, v4, v5, j6 => ((V_X8_all_r44 Ln I A ) < v5 → True) ∧ (¬ ((V_X8_all_r44 Ln I A ) < v5) → ((zin v5 64 = true) ∧ (((A 61 (v5).toNatClampNeg) = 0 → (PLB_X8_least_r44_75 m Ln I A v1 v2 v3 v4 (v5 + 1) j6)) ∧ (¬ ((A 61 (v5).toNatClampNeg) = 0) → (((v5 &&& v3) ≠ 0 → (PLB_X8_least_r44_75 m Ln I A v1 v2 v3 v4 (v5 + 1) j6)) ∧ (¬ ((v5 &&& v3) ≠ 0) → (((v5 &&& (v2 ^^^ ((-1)))) ≠ 0 → (PLB_X8_least_r44_75 m Ln I A v1 v2 v3 v4 (v5 + 1) j6)) ∧ (¬ ((v5 &&& (v2 ^^^ ((-1)))) ≠ 0) → ((P_X8_bits Ln I A ((v2 &&& (v3 ^^^ ((-1)))) &&& (v5 ^^^ ((-1))))) ∧ ((zin (v3 ||| v5) 64 = true) ∧ ((v4 ≤ ((V_X8_bits Ln I A ((v2 &&& (v3 ^^^ ((-1)))) &&& (v5 ^^^ ((-1))))) + (A 60 (v3 ||| v5).toNatClampNeg)) → (PLB_X8_least_r44_75 m Ln I A v1 v2 v3 v4 (v5 + 1) (some ((V_X8_bits Ln I A ((v2 &&& (v3 ^^^ ((-1)))) &&& (v5 ^^^ ((-1))))) + (A 60 (v3 ||| v5).toNatClampNeg))))) ∧ (¬ (v4 ≤ ((V_X8_bits Ln I A ((v2 &&& (v3 ^^^ ((-1)))) &&& (v5 ^^^ ((-1))))) + (A 60 (v3 ||| v5).toNatClampNeg))) → (PLB_X8_least_r44_75 m Ln I A v1 v2 v3 ((V_X8_bits Ln I A ((v2 &&& (v3 ^^^ ((-1)))) &&& (v5 ^^^ ((-1))))) + (A 60 (v3 ||| v5).toNatClampNeg)) (v5 + 1) (some ((V_X8_bits Ln I A ((v2 &&& (v3 ^^^ ((-1)))) &&& (v5 ^^^ ((-1))))) + (A 60 (v3 ||| v5).toNatClampNeg))))))))))))))))
set_option maxRecDepth 100000 in
theorem MLB_X8_least_r44_75 (m Ln : Nat) : ∀ (I A : Nat → Nat → Int32) (v1 : Int32) (v2 : Int32) (v3 : Int32) (v4 : Int32) (v5 : Int32) (j6 : Option Int32) {r : zRs}, PLB_X8_least_r44_75 m Ln I A v1 v2 v3 v4 v5 j6 → zEv 138 157 0 0 [some (.ref 44), some (.int v1), some (.int v2), some (.int v3), some (.int ((LB_X8_least_r44_75 m Ln I A v1 v2 v3 v4 v5 j6).1)), some (.int ((LB_X8_least_r44_75 m Ln I A v1 v2 v3 v4 v5 j6).2.1)), (Option.map Value.int (LB_X8_least_r44_75 m Ln I A v1 v2 v3 v4 v5 j6).2.2)] [] (zGs Ln I A) r → zEv 138 75 0 0 [some (.ref 44), some (.int v1), some (.int v2), some (.int v3), some (.int v4), some (.int v5), (Option.map Value.int j6)] [] (zGs Ln I A) r := by
  induction m with
  | zero => intro I A v1 v2 v3 v4 v5 j6 r h hk; exact h.elim
  | succ m ih =>
    intro I A v1 v2 v3 v4 v5 j6 r h hk
    simp only [PLB_X8_least_r44_75] at h
    simp only [LB_X8_least_r44_75] at hk
    refine B_X8_least_r44_75 Ln I A v1 v2 v3 v4 v5 j6  (M_X8_all_r44 Ln I A  ) rfl ?_
    refine B_X8_least_r44_81_s2 Ln I A v1 v2 v3 v4 v5 j6 v5 (V_X8_all_r44 Ln I A )  (fun q4 => ?_) (fun q4 => ?_)
    · try simp only [if_pos q4] at hk ⊢
      exact hk
    · try simp only [if_neg q4] at hk ⊢
      have h5 := h.2 q4
      obtain ⟨g6_0, r7_⟩ := h5
      refine B_X8_least_r44_84 Ln I A v1 v2 v3 v4 v5 j6 g6_0 (fun q8 => ?_) (fun q8 => ?_)
      · try simp only [if_pos q8] at hk ⊢
        have h9 := r7_.1 q8
        refine B_X8_least_r44_151 Ln I A v1 v2 v3 v4 v5 j6  ?_
        exact ih I A v1 v2 v3 v4 (v5 + 1) j6 h9 hk
      · try simp only [if_neg q8] at hk ⊢
        have h12 := r7_.2 q8
        refine B_X8_least_r44_94 Ln I A v1 v2 v3 v4 v5 j6  (fun q15 => ?_) (fun q15 => ?_)
        · try simp only [if_pos q15] at hk ⊢
          have h16 := h12.1 q15
          refine B_X8_least_r44_151 Ln I A v1 v2 v3 v4 v5 j6  ?_
          exact ih I A v1 v2 v3 v4 (v5 + 1) j6 h16 hk
        · try simp only [if_neg q15] at hk ⊢
          have h19 := h12.2 q15
          refine B_X8_least_r44_101 Ln I A v1 v2 v3 v4 v5 j6  (fun q22 => ?_) (fun q22 => ?_)
          · try simp only [if_pos q22] at hk ⊢
            have h23 := h19.1 q22
            refine B_X8_least_r44_151 Ln I A v1 v2 v3 v4 v5 j6  ?_
            exact ih I A v1 v2 v3 v4 (v5 + 1) j6 h23 hk
          · try simp only [if_neg q22] at hk ⊢
            have h26 := h19.2 q22
            obtain ⟨g27_0, r28_⟩ := h26
            refine B_X8_least_r44_110 Ln I A v1 v2 v3 v4 v5 j6  (M_X8_bits Ln I A ((v2 &&& (v3 ^^^ ((-1)))) &&& (v5 ^^^ ((-1)))) g27_0) rfl ?_
            obtain ⟨g29_0, r30_⟩ := r28_
            refine B_X8_least_r44_123_s1 Ln I A v1 v2 v3 v4 v5 j6 (V_X8_bits Ln I A ((v2 &&& (v3 ^^^ ((-1)))) &&& (v5 ^^^ ((-1))))) g29_0 (fun q31 => ?_) (fun q31 => ?_)
            · try simp only [if_pos q31] at hk ⊢
              have h32 := r30_.1 q31
              refine B_X8_least_r44_147 Ln I A v1 v2 v3 v4 v5 ((V_X8_bits Ln I A ((v2 &&& (v3 ^^^ ((-1)))) &&& (v5 ^^^ ((-1))))) + (A 60 (v3 ||| v5).toNatClampNeg))  ?_
              refine B_X8_least_r44_149_s1 Ln I A v1 v2 v3 v4 v5 ((V_X8_bits Ln I A ((v2 &&& (v3 ^^^ ((-1)))) &&& (v5 ^^^ ((-1))))) + (A 60 (v3 ||| v5).toNatClampNeg)) v4  ?_
              refine B_X8_least_r44_151 Ln I A v1 v2 v3 v4 v5 (some ((V_X8_bits Ln I A ((v2 &&& (v3 ^^^ ((-1)))) &&& (v5 ^^^ ((-1))))) + (A 60 (v3 ||| v5).toNatClampNeg)))  ?_
              exact ih I A v1 v2 v3 v4 (v5 + 1) (some ((V_X8_bits Ln I A ((v2 &&& (v3 ^^^ ((-1)))) &&& (v5 ^^^ ((-1))))) + (A 60 (v3 ||| v5).toNatClampNeg))) h32 hk
            · try simp only [if_neg q31] at hk ⊢
              have h39 := r30_.2 q31
              refine B_X8_least_r44_142 Ln I A v1 v2 v3 v4 v5 ((V_X8_bits Ln I A ((v2 &&& (v3 ^^^ ((-1)))) &&& (v5 ^^^ ((-1))))) + (A 60 (v3 ||| v5).toNatClampNeg))  ?_
              refine B_X8_least_r44_149_s1 Ln I A v1 v2 v3 v4 v5 ((V_X8_bits Ln I A ((v2 &&& (v3 ^^^ ((-1)))) &&& (v5 ^^^ ((-1))))) + (A 60 (v3 ||| v5).toNatClampNeg)) ((V_X8_bits Ln I A ((v2 &&& (v3 ^^^ ((-1)))) &&& (v5 ^^^ ((-1))))) + (A 60 (v3 ||| v5).toNatClampNeg))  ?_
              refine B_X8_least_r44_151 Ln I A v1 v2 v3 ((V_X8_bits Ln I A ((v2 &&& (v3 ^^^ ((-1)))) &&& (v5 ^^^ ((-1))))) + (A 60 (v3 ||| v5).toNatClampNeg)) v5 (some ((V_X8_bits Ln I A ((v2 &&& (v3 ^^^ ((-1)))) &&& (v5 ^^^ ((-1))))) + (A 60 (v3 ||| v5).toNatClampNeg)))  ?_
              exact ih I A v1 v2 v3 ((V_X8_bits Ln I A ((v2 &&& (v3 ^^^ ((-1)))) &&& (v5 ^^^ ((-1))))) + (A 60 (v3 ||| v5).toNatClampNeg)) (v5 + 1) (some ((V_X8_bits Ln I A ((v2 &&& (v3 ^^^ ((-1)))) &&& (v5 ^^^ ((-1))))) + (A 60 (v3 ||| v5).toNatClampNeg))) h39 hk
def LB_X8_least_r44_59 : Nat → (Ln : Nat) → (I A : Nat → Nat → Int32) → Int32 → Int32 → Int32 → (Option Int32) → (Option Int32) → (Option Int32) → Int32 × Option Int32 × Option Int32 × Option Int32 × (Nat → Nat → Int32)
  | 0, Ln, I, A, v1, v2, v3, j4, j5, j6 => (0, none, none, none, A)
  | m + 1, Ln, I, A, v1, v2, v3, j4, j5, j6 => if (V_X8_all_r44 Ln I A ) < v3 then (v3, j4, j5, j6, A) else (LB_X8_least_r44_59 m Ln I (zw A 59 ((v3).toNatClampNeg) ((LB_X8_least_r44_75 1000 Ln I A v1 v2 v3 9999 0 j6).1)) v1 v2 (v3 + 1) (some ((LB_X8_least_r44_75 1000 Ln I A v1 v2 v3 9999 0 j6).1)) (some ((LB_X8_least_r44_75 1000 Ln I A v1 v2 v3 9999 0 j6).2.1)) (LB_X8_least_r44_75 1000 Ln I A v1 v2 v3 9999 0 j6).2.2)
def PLB_X8_least_r44_59 : Nat → (Ln : Nat) → (I A : Nat → Nat → Int32) → Int32 → Int32 → Int32 → (Option Int32) → (Option Int32) → (Option Int32) → Prop
  | 0, Ln, I, A, v1, v2, v3, j4, j5, j6 => False
  | m + 1, Ln, I, A, v1, v2, v3, j4, j5, j6 => ((V_X8_all_r44 Ln I A ) < v3 → True) ∧ (¬ ((V_X8_all_r44 Ln I A ) < v3) → ((PLB_X8_least_r44_75 1000 Ln I A v1 v2 v3 9999 0 j6) ∧ ((zin v3 64 = true) ∧ (PLB_X8_least_r44_59 m Ln I (zw A 59 ((v3).toNatClampNeg) ((LB_X8_least_r44_75 1000 Ln I A v1 v2 v3 9999 0 j6).1)) v1 v2 (v3 + 1) (some ((LB_X8_least_r44_75 1000 Ln I A v1 v2 v3 9999 0 j6).1)) (some ((LB_X8_least_r44_75 1000 Ln I A v1 v2 v3 9999 0 j6).2.1)) (LB_X8_least_r44_75 1000 Ln I A v1 v2 v3 9999 0 j6).2.2))))
set_option maxRecDepth 100000 in
theorem MLB_X8_least_r44_59 (m Ln : Nat) : ∀ (I A : Nat → Nat → Int32) (v1 : Int32) (v2 : Int32) (v3 : Int32) (j4 : Option Int32) (j5 : Option Int32) (j6 : Option Int32) {r : zRs}, PLB_X8_least_r44_59 m Ln I A v1 v2 v3 j4 j5 j6 → zEv 138 171 0 0 [some (.ref 44), some (.int v1), some (.int v2), some (.int ((LB_X8_least_r44_59 m Ln I A v1 v2 v3 j4 j5 j6).1)), (Option.map Value.int (LB_X8_least_r44_59 m Ln I A v1 v2 v3 j4 j5 j6).2.1), (Option.map Value.int (LB_X8_least_r44_59 m Ln I A v1 v2 v3 j4 j5 j6).2.2.1), (Option.map Value.int (LB_X8_least_r44_59 m Ln I A v1 v2 v3 j4 j5 j6).2.2.2.1)] [] (zGs Ln I (LB_X8_least_r44_59 m Ln I A v1 v2 v3 j4 j5 j6).2.2.2.2) r → zEv 138 59 0 0 [some (.ref 44), some (.int v1), some (.int v2), some (.int v3), (Option.map Value.int j4), (Option.map Value.int j5), (Option.map Value.int j6)] [] (zGs Ln I A) r := by
  induction m with
  | zero => intro I A v1 v2 v3 j4 j5 j6 r h hk; exact h.elim
  | succ m ih =>
    intro I A v1 v2 v3 j4 j5 j6 r h hk
    simp only [PLB_X8_least_r44_59] at h
    simp only [LB_X8_least_r44_59] at hk
    refine B_X8_least_r44_59 Ln I A v1 v2 v3 j4 j5 j6  (M_X8_all_r44 Ln I A  ) rfl ?_
    refine B_X8_least_r44_64_s2 Ln I A v1 v2 v3 j4 j5 j6 v3 (V_X8_all_r44 Ln I A )  (fun q4 => ?_) (fun q4 => ?_)
    · try simp only [if_pos q4] at hk ⊢
      exact hk
    · try simp only [if_neg q4] at hk ⊢
      have h5 := h.2 q4
      refine B_X8_least_r44_67 Ln I A v1 v2 v3 j4 j5 j6  ?_
      obtain ⟨b8, c8_⟩ := h5
      refine MLB_X8_least_r44_75 1000 Ln I A v1 v2 v3 9999 0 j6 b8 ?_
      obtain ⟨g9_0, r10_⟩ := c8_
      refine B_X8_least_r44_157 Ln I A v1 v2 v3 ((LB_X8_least_r44_75 1000 Ln I A v1 v2 v3 9999 0 j6).1) ((LB_X8_least_r44_75 1000 Ln I A v1 v2 v3 9999 0 j6).2.1) ((LB_X8_least_r44_75 1000 Ln I A v1 v2 v3 9999 0 j6).2.2) g9_0 ?_
      exact ih I (zw A 59 ((v3).toNatClampNeg) ((LB_X8_least_r44_75 1000 Ln I A v1 v2 v3 9999 0 j6).1)) v1 v2 (v3 + 1) (some ((LB_X8_least_r44_75 1000 Ln I A v1 v2 v3 9999 0 j6).1)) (some ((LB_X8_least_r44_75 1000 Ln I A v1 v2 v3 9999 0 j6).2.1)) (LB_X8_least_r44_75 1000 Ln I A v1 v2 v3 9999 0 j6).2.2 r10_ hk
def LB_X8_least_r44_173 : Nat → (Ln : Nat) → (I A : Nat → Nat → Int32) → Int32 → Int32 → Int32 → (Option Int32) → (Option Int32) → (Option Int32) → Int32 × (Nat → Nat → Int32)
  | 0, Ln, I, A, v1, v2, v3, j4, j5, j6 => (0, A)
  | m + 1, Ln, I, A, v1, v2, v3, j4, j5, j6 => if (V_X8_all_r44 Ln I A ) < v3 then (v3, A) else (LB_X8_least_r44_173 m Ln I (zw A 60 ((v3).toNatClampNeg) (A 59 (v3).toNatClampNeg)) v1 v2 (v3 + 1) j4 j5 j6)
def PLB_X8_least_r44_173 : Nat → (Ln : Nat) → (I A : Nat → Nat → Int32) → Int32 → Int32 → Int32 → (Option Int32) → (Option Int32) → (Option Int32) → Prop
  | 0, Ln, I, A, v1, v2, v3, j4, j5, j6 => False
  | m + 1, Ln, I, A, v1, v2, v3, j4, j5, j6 => ((V_X8_all_r44 Ln I A ) < v3 → True) ∧ (¬ ((V_X8_all_r44 Ln I A ) < v3) → ((zin v3 64 = true) ∧ (zin v3 64 = true) ∧ (PLB_X8_least_r44_173 m Ln I (zw A 60 ((v3).toNatClampNeg) (A 59 (v3).toNatClampNeg)) v1 v2 (v3 + 1) j4 j5 j6)))
set_option maxRecDepth 100000 in
theorem MLB_X8_least_r44_173 (m Ln : Nat) : ∀ (I A : Nat → Nat → Int32) (v1 : Int32) (v2 : Int32) (v3 : Int32) (j4 : Option Int32) (j5 : Option Int32) (j6 : Option Int32) {r : zRs}, PLB_X8_least_r44_173 m Ln I A v1 v2 v3 j4 j5 j6 → zEv 138 199 0 0 [some (.ref 44), some (.int v1), some (.int v2), some (.int ((LB_X8_least_r44_173 m Ln I A v1 v2 v3 j4 j5 j6).1)), (Option.map Value.int j4), (Option.map Value.int j5), (Option.map Value.int j6)] [] (zGs Ln I (LB_X8_least_r44_173 m Ln I A v1 v2 v3 j4 j5 j6).2) r → zEv 138 173 0 0 [some (.ref 44), some (.int v1), some (.int v2), some (.int v3), (Option.map Value.int j4), (Option.map Value.int j5), (Option.map Value.int j6)] [] (zGs Ln I A) r := by
  induction m with
  | zero => intro I A v1 v2 v3 j4 j5 j6 r h hk; exact h.elim
  | succ m ih =>
    intro I A v1 v2 v3 j4 j5 j6 r h hk
    simp only [PLB_X8_least_r44_173] at h
    simp only [LB_X8_least_r44_173] at hk
    refine B_X8_least_r44_173 Ln I A v1 v2 v3 j4 j5 j6  (M_X8_all_r44 Ln I A  ) rfl ?_
    refine B_X8_least_r44_178_s2 Ln I A v1 v2 v3 j4 j5 j6 v3 (V_X8_all_r44 Ln I A )  (fun q4 => ?_) (fun q4 => ?_)
    · try simp only [if_pos q4] at hk ⊢
      exact hk
    · try simp only [if_neg q4] at hk ⊢
      have h5 := h.2 q4
      obtain ⟨g6_0, g6_1, r7_⟩ := h5
      refine B_X8_least_r44_181 Ln I A v1 v2 v3 j4 j5 j6 g6_0 g6_1 ?_
      exact ih I (zw A 60 ((v3).toNatClampNeg) (A 59 (v3).toNatClampNeg)) v1 v2 (v3 + 1) j4 j5 j6 r7_ hk
def LA_X8_least_r44_47 : Nat → (Ln : Nat) → (I A : Nat → Nat → Int32) → Int32 → (Option Int32) → (Option Int32) → (Option Int32) → (Option Int32) → (Option Int32) → Int32 × (Nat → Nat → Int32)
  | 0, Ln, I, A, v1, j2, j3, j4, j5, j6 => (0, A)
  | m + 1, Ln, I, A, v1, j2, j3, j4, j5, j6 => if v1 < 0 then (A 60 0, A) else (LA_X8_least_r44_47 m Ln I ((LB_X8_least_r44_173 1000 Ln I ((LB_X8_least_r44_59 1000 Ln I A v1 (V_X8_cameBy_r44 Ln I A v1) 0 j4 j5 j6).2.2.2.2) v1 (V_X8_cameBy_r44 Ln I A v1) 0 (LB_X8_least_r44_59 1000 Ln I A v1 (V_X8_cameBy_r44 Ln I A v1) 0 j4 j5 j6).2.1 (LB_X8_least_r44_59 1000 Ln I A v1 (V_X8_cameBy_r44 Ln I A v1) 0 j4 j5 j6).2.2.1 (LB_X8_least_r44_59 1000 Ln I A v1 (V_X8_cameBy_r44 Ln I A v1) 0 j4 j5 j6).2.2.2.1).2) (v1 + (Int32.ofInt (-1))) (some (V_X8_cameBy_r44 Ln I A v1)) (some ((LB_X8_least_r44_173 1000 Ln I ((LB_X8_least_r44_59 1000 Ln I A v1 (V_X8_cameBy_r44 Ln I A v1) 0 j4 j5 j6).2.2.2.2) v1 (V_X8_cameBy_r44 Ln I A v1) 0 (LB_X8_least_r44_59 1000 Ln I A v1 (V_X8_cameBy_r44 Ln I A v1) 0 j4 j5 j6).2.1 (LB_X8_least_r44_59 1000 Ln I A v1 (V_X8_cameBy_r44 Ln I A v1) 0 j4 j5 j6).2.2.1 (LB_X8_least_r44_59 1000 Ln I A v1 (V_X8_cameBy_r44 Ln I A v1) 0 j4 j5 j6).2.2.2.1).1)) (LB_X8_least_r44_59 1000 Ln I A v1 (V_X8_cameBy_r44 Ln I A v1) 0 j4 j5 j6).2.1 (LB_X8_least_r44_59 1000 Ln I A v1 (V_X8_cameBy_r44 Ln I A v1) 0 j4 j5 j6).2.2.1 (LB_X8_least_r44_59 1000 Ln I A v1 (V_X8_cameBy_r44 Ln I A v1) 0 j4 j5 j6).2.2.2.1)
def PLA_X8_least_r44_47 : Nat → (Ln : Nat) → (I A : Nat → Nat → Int32) → Int32 → (Option Int32) → (Option Int32) → (Option Int32) → (Option Int32) → (Option Int32) → Prop
  | 0, Ln, I, A, v1, j2, j3, j4, j5, j6 => False
  | m + 1, Ln, I, A, v1, j2, j3, j4, j5, j6 => (v1 < 0 → True) ∧ (¬ (v1 < 0) → ((P_X8_cameBy_r44 Ln I A v1) ∧ ((PLB_X8_least_r44_59 1000 Ln I A v1 (V_X8_cameBy_r44 Ln I A v1) 0 j4 j5 j6) ∧ ((PLB_X8_least_r44_173 1000 Ln I ((LB_X8_least_r44_59 1000 Ln I A v1 (V_X8_cameBy_r44 Ln I A v1) 0 j4 j5 j6).2.2.2.2) v1 (V_X8_cameBy_r44 Ln I A v1) 0 (LB_X8_least_r44_59 1000 Ln I A v1 (V_X8_cameBy_r44 Ln I A v1) 0 j4 j5 j6).2.1 (LB_X8_least_r44_59 1000 Ln I A v1 (V_X8_cameBy_r44 Ln I A v1) 0 j4 j5 j6).2.2.1 (LB_X8_least_r44_59 1000 Ln I A v1 (V_X8_cameBy_r44 Ln I A v1) 0 j4 j5 j6).2.2.2.1) ∧ (PLA_X8_least_r44_47 m Ln I ((LB_X8_least_r44_173 1000 Ln I ((LB_X8_least_r44_59 1000 Ln I A v1 (V_X8_cameBy_r44 Ln I A v1) 0 j4 j5 j6).2.2.2.2) v1 (V_X8_cameBy_r44 Ln I A v1) 0 (LB_X8_least_r44_59 1000 Ln I A v1 (V_X8_cameBy_r44 Ln I A v1) 0 j4 j5 j6).2.1 (LB_X8_least_r44_59 1000 Ln I A v1 (V_X8_cameBy_r44 Ln I A v1) 0 j4 j5 j6).2.2.1 (LB_X8_least_r44_59 1000 Ln I A v1 (V_X8_cameBy_r44 Ln I A v1) 0 j4 j5 j6).2.2.2.1).2) (v1 + (Int32.ofInt (-1))) (some (V_X8_cameBy_r44 Ln I A v1)) (some ((LB_X8_least_r44_173 1000 Ln I ((LB_X8_least_r44_59 1000 Ln I A v1 (V_X8_cameBy_r44 Ln I A v1) 0 j4 j5 j6).2.2.2.2) v1 (V_X8_cameBy_r44 Ln I A v1) 0 (LB_X8_least_r44_59 1000 Ln I A v1 (V_X8_cameBy_r44 Ln I A v1) 0 j4 j5 j6).2.1 (LB_X8_least_r44_59 1000 Ln I A v1 (V_X8_cameBy_r44 Ln I A v1) 0 j4 j5 j6).2.2.1 (LB_X8_least_r44_59 1000 Ln I A v1 (V_X8_cameBy_r44 Ln I A v1) 0 j4 j5 j6).2.2.2.1).1)) (LB_X8_least_r44_59 1000 Ln I A v1 (V_X8_cameBy_r44 Ln I A v1) 0 j4 j5 j6).2.1 (LB_X8_least_r44_59 1000 Ln I A v1 (V_X8_cameBy_r44 Ln I A v1) 0 j4 j5 j6).2.2.1 (LB_X8_least_r44_59 1000 Ln I A v1 (V_X8_cameBy_r44 Ln I A v1) 0 j4 j5 j6).2.2.2.1)))))
set_option maxRecDepth 100000 in
theorem MLA_X8_least_r44_47 (m Ln : Nat) : ∀ (I A : Nat → Nat → Int32) (v1 : Int32) (j2 : Option Int32) (j3 : Option Int32) (j4 : Option Int32) (j5 : Option Int32) (j6 : Option Int32), PLA_X8_least_r44_47 m Ln I A v1 j2 j3 j4 j5 j6 → zEv 138 47 0 0 [some (.ref 44), some (.int v1), (Option.map Value.int j2), (Option.map Value.int j3), (Option.map Value.int j4), (Option.map Value.int j5), (Option.map Value.int j6)] [] (zGs Ln I A) (some (.int (LA_X8_least_r44_47 m Ln I A v1 j2 j3 j4 j5 j6).1), zGs Ln I (LA_X8_least_r44_47 m Ln I A v1 j2 j3 j4 j5 j6).2) := by
  induction m with
  | zero => intro I A v1 j2 j3 j4 j5 j6 h; exact h.elim
  | succ m ih =>
    intro I A v1 j2 j3 j4 j5 j6 h
    simp only [PLA_X8_least_r44_47] at h
    simp only [LA_X8_least_r44_47]
    refine B_X8_least_r44_47 Ln I A v1 j2 j3 j4 j5 j6  (fun q2 => ?_) (fun q2 => ?_)
    · try simp only [if_pos q2]
      exact B_X8_least_r44_205 Ln I A v1 j2 j3 j4 j5 j6 
    · try simp only [if_neg q2]
      have h3 := h.2 q2
      obtain ⟨g4_0, r5_⟩ := h3
      refine B_X8_least_r44_51 Ln I A v1 j2 j3 j4 j5 j6  (M_X8_cameBy_r44 Ln I A v1 g4_0) rfl ?_
      refine B_X8_least_r44_56_s1 Ln I A v1 j2 j3 j4 j5 j6 (V_X8_cameBy_r44 Ln I A v1)  ?_
      obtain ⟨b8, c8_⟩ := r5_
      refine MLB_X8_least_r44_59 1000 Ln I A v1 (V_X8_cameBy_r44 Ln I A v1) 0 j4 j5 j6 b8 ?_
      refine B_X8_least_r44_171 Ln I ((LB_X8_least_r44_59 1000 Ln I A v1 (V_X8_cameBy_r44 Ln I A v1) 0 j4 j5 j6).2.2.2.2) v1 (V_X8_cameBy_r44 Ln I A v1) ((LB_X8_least_r44_59 1000 Ln I A v1 (V_X8_cameBy_r44 Ln I A v1) 0 j4 j5 j6).1) ((LB_X8_least_r44_59 1000 Ln I A v1 (V_X8_cameBy_r44 Ln I A v1) 0 j4 j5 j6).2.1) ((LB_X8_least_r44_59 1000 Ln I A v1 (V_X8_cameBy_r44 Ln I A v1) 0 j4 j5 j6).2.2.1) ((LB_X8_least_r44_59 1000 Ln I A v1 (V_X8_cameBy_r44 Ln I A v1) 0 j4 j5 j6).2.2.2.1)  ?_
      obtain ⟨b11, c11_⟩ := c8_
      refine MLB_X8_least_r44_173 1000 Ln I ((LB_X8_least_r44_59 1000 Ln I A v1 (V_X8_cameBy_r44 Ln I A v1) 0 j4 j5 j6).2.2.2.2) v1 (V_X8_cameBy_r44 Ln I A v1) 0 (LB_X8_least_r44_59 1000 Ln I A v1 (V_X8_cameBy_r44 Ln I A v1) 0 j4 j5 j6).2.1 (LB_X8_least_r44_59 1000 Ln I A v1 (V_X8_cameBy_r44 Ln I A v1) 0 j4 j5 j6).2.2.1 (LB_X8_least_r44_59 1000 Ln I A v1 (V_X8_cameBy_r44 Ln I A v1) 0 j4 j5 j6).2.2.2.1 b11 ?_
      refine B_X8_least_r44_199 Ln I ((LB_X8_least_r44_173 1000 Ln I ((LB_X8_least_r44_59 1000 Ln I A v1 (V_X8_cameBy_r44 Ln I A v1) 0 j4 j5 j6).2.2.2.2) v1 (V_X8_cameBy_r44 Ln I A v1) 0 (LB_X8_least_r44_59 1000 Ln I A v1 (V_X8_cameBy_r44 Ln I A v1) 0 j4 j5 j6).2.1 (LB_X8_least_r44_59 1000 Ln I A v1 (V_X8_cameBy_r44 Ln I A v1) 0 j4 j5 j6).2.2.1 (LB_X8_least_r44_59 1000 Ln I A v1 (V_X8_cameBy_r44 Ln I A v1) 0 j4 j5 j6).2.2.2.1).2) v1 (V_X8_cameBy_r44 Ln I A v1) ((LB_X8_least_r44_173 1000 Ln I ((LB_X8_least_r44_59 1000 Ln I A v1 (V_X8_cameBy_r44 Ln I A v1) 0 j4 j5 j6).2.2.2.2) v1 (V_X8_cameBy_r44 Ln I A v1) 0 (LB_X8_least_r44_59 1000 Ln I A v1 (V_X8_cameBy_r44 Ln I A v1) 0 j4 j5 j6).2.1 (LB_X8_least_r44_59 1000 Ln I A v1 (V_X8_cameBy_r44 Ln I A v1) 0 j4 j5 j6).2.2.1 (LB_X8_least_r44_59 1000 Ln I A v1 (V_X8_cameBy_r44 Ln I A v1) 0 j4 j5 j6).2.2.2.1).1) ((LB_X8_least_r44_59 1000 Ln I A v1 (V_X8_cameBy_r44 Ln I A v1) 0 j4 j5 j6).2.1) ((LB_X8_least_r44_59 1000 Ln I A v1 (V_X8_cameBy_r44 Ln I A v1) 0 j4 j5 j6).2.2.1) ((LB_X8_least_r44_59 1000 Ln I A v1 (V_X8_cameBy_r44 Ln I A v1) 0 j4 j5 j6).2.2.2.1)  ?_
      exact ih I ((LB_X8_least_r44_173 1000 Ln I ((LB_X8_least_r44_59 1000 Ln I A v1 (V_X8_cameBy_r44 Ln I A v1) 0 j4 j5 j6).2.2.2.2) v1 (V_X8_cameBy_r44 Ln I A v1) 0 (LB_X8_least_r44_59 1000 Ln I A v1 (V_X8_cameBy_r44 Ln I A v1) 0 j4 j5 j6).2.1 (LB_X8_least_r44_59 1000 Ln I A v1 (V_X8_cameBy_r44 Ln I A v1) 0 j4 j5 j6).2.2.1 (LB_X8_least_r44_59 1000 Ln I A v1 (V_X8_cameBy_r44 Ln I A v1) 0 j4 j5 j6).2.2.2.1).2) (v1 + (Int32.ofInt (-1))) (some (V_X8_cameBy_r44 Ln I A v1)) (some ((LB_X8_least_r44_173 1000 Ln I ((LB_X8_least_r44_59 1000 Ln I A v1 (V_X8_cameBy_r44 Ln I A v1) 0 j4 j5 j6).2.2.2.2) v1 (V_X8_cameBy_r44 Ln I A v1) 0 (LB_X8_least_r44_59 1000 Ln I A v1 (V_X8_cameBy_r44 Ln I A v1) 0 j4 j5 j6).2.1 (LB_X8_least_r44_59 1000 Ln I A v1 (V_X8_cameBy_r44 Ln I A v1) 0 j4 j5 j6).2.2.1 (LB_X8_least_r44_59 1000 Ln I A v1 (V_X8_cameBy_r44 Ln I A v1) 0 j4 j5 j6).2.2.2.1).1)) (LB_X8_least_r44_59 1000 Ln I A v1 (V_X8_cameBy_r44 Ln I A v1) 0 j4 j5 j6).2.1 (LB_X8_least_r44_59 1000 Ln I A v1 (V_X8_cameBy_r44 Ln I A v1) 0 j4 j5 j6).2.2.1 (LB_X8_least_r44_59 1000 Ln I A v1 (V_X8_cameBy_r44 Ln I A v1) 0 j4 j5 j6).2.2.2.1 c11_
def LA_X8_least_r44_12 : Nat → (Ln : Nat) → (I A : Nat → Nat → Int32) → Int32 → Int32 × (Nat → Nat → Int32)
  | 0, Ln, I, A, v1 => (0, A)
  | m + 1, Ln, I, A, v1 => if (V_X8_all_r44 Ln I A ) < v1 then (LA_X8_least_r44_47 1000 Ln I A 59 none none none none none) else (LA_X8_least_r44_12 m Ln I (zw (zw A 61 ((v1).toNatClampNeg) (vp_nar .boolean (V_X8_mayCross_r44 Ln I A v1))) 60 ((v1).toNatClampNeg) 0) (v1 + 1))
def PLA_X8_least_r44_12 : Nat → (Ln : Nat) → (I A : Nat → Nat → Int32) → Int32 → Prop
  | 0, Ln, I, A, v1 => False
  | m + 1, Ln, I, A, v1 => ((V_X8_all_r44 Ln I A ) < v1 → (PLA_X8_least_r44_47 1000 Ln I A 59 none none none none none)) ∧ (¬ ((V_X8_all_r44 Ln I A ) < v1) → ((P_X8_mayCross_r44 Ln I A v1) ∧ ((zin v1 64 = true) ∧ (zin v1 64 = true) ∧ (PLA_X8_least_r44_12 m Ln I (zw (zw A 61 ((v1).toNatClampNeg) (vp_nar .boolean (V_X8_mayCross_r44 Ln I A v1))) 60 ((v1).toNatClampNeg) 0) (v1 + 1)))))
set_option maxRecDepth 100000 in
theorem MLA_X8_least_r44_12 (m Ln : Nat) : ∀ (I A : Nat → Nat → Int32) (v1 : Int32), PLA_X8_least_r44_12 m Ln I A v1 → zEv 138 12 0 0 [some (.ref 44), some (.int v1), none, none, none, none, none] [] (zGs Ln I A) (some (.int (LA_X8_least_r44_12 m Ln I A v1).1), zGs Ln I (LA_X8_least_r44_12 m Ln I A v1).2) := by
  induction m with
  | zero => intro I A v1 h; exact h.elim
  | succ m ih =>
    intro I A v1 h
    simp only [PLA_X8_least_r44_12] at h
    simp only [LA_X8_least_r44_12]
    refine B_X8_least_r44_12 Ln I A v1  (M_X8_all_r44 Ln I A  ) rfl ?_
    refine B_X8_least_r44_17_s2 Ln I A v1 v1 (V_X8_all_r44 Ln I A )  (fun q4 => ?_) (fun q4 => ?_)
    · try simp only [if_pos q4]
      have h5 := h.1 q4
      refine B_X8_least_r44_44 Ln I A v1  ?_
      exact MLA_X8_least_r44_47 1000 Ln I A 59 none none none none none h5
    · try simp only [if_neg q4]
      have h8 := h.2 q4
      obtain ⟨g9_0, r10_⟩ := h8
      refine B_X8_least_r44_20 Ln I A v1  (M_X8_mayCross_r44 Ln I A v1 g9_0) rfl ?_
      obtain ⟨g11_0, g11_1, r12_⟩ := r10_
      refine B_X8_least_r44_30_s3 Ln I A v1 v1 (V_X8_mayCross_r44 Ln I A v1) g11_0 g11_1 ?_
      exact ih I (zw (zw A 61 ((v1).toNatClampNeg) (vp_nar .boolean (V_X8_mayCross_r44 Ln I A v1))) 60 ((v1).toNatClampNeg) 0) (v1 + 1) r12_
def V_X8_least_r44 (Ln : Nat) (I A : Nat → Nat → Int32) : Int32 := if (I 44 4) ≠ 0 then ((LA_X8_least_r44_12 1000 Ln I A 0).1) else (-3)
def SA_X8_least_r44 (Ln : Nat) (I A : Nat → Nat → Int32) : Nat → Nat → Int32 := if (I 44 4) ≠ 0 then ((LA_X8_least_r44_12 1000 Ln I A 0).2) else A
def P_X8_least_r44 (Ln : Nat) (I A : Nat → Nat → Int32) : Prop := ((I 44 4) ≠ 0 → (PLA_X8_least_r44_12 1000 Ln I A 0)) ∧ (¬ ((I 44 4) ≠ 0) → True)
set_option maxRecDepth 100000 in
theorem M_X8_least_r44 (Ln : Nat) (I A : Nat → Nat → Int32) (h : P_X8_least_r44 Ln I A) : zEv 138 0 0 0 [some (.ref 44), none, none, none, none, none, none] [] (zGs Ln I A) (some (.int (V_X8_least_r44 Ln I A)), zGs Ln (I) (SA_X8_least_r44 Ln I A)) := by
  unfold P_X8_least_r44 at h
  unfold V_X8_least_r44 SA_X8_least_r44
  refine B_X8_least_r44_0 Ln I A   (fun q2 => ?_) (fun q2 => ?_)
  · try simp only [if_pos q2]
    have h3 := h.1 q2
    refine B_X8_least_r44_10 Ln I A   ?_
    exact MLA_X8_least_r44_12 1000 Ln I A 0 h3
  · try simp only [if_neg q2]
    exact B_X8_least_r44_7 Ln I A  
def LB_X8_laws_r44_57 : Nat → (Ln : Nat) → (I A : Nat → Nat → Int32) → Int32 → Int32 → Int32 → Int32 → Int32 → Int32 → Int32 × Int32
  | 0, Ln, I, A, v1, v2, v3, v4, v5, v6 => (0, 0)
  | m + 1, Ln, I, A, v1, v2, v3, v4, v5, v6 => if (I 44 4) ≤ v6 then (v5, v6) else (if v5 = 0 then (LB_X8_laws_r44_57 m Ln I A v1 v2 v3 v4 0 (v6 + 1)) else (if v1 < (V_X8_waitOf_r44 Ln I A v6) then (LB_X8_laws_r44_57 m Ln I A v1 v2 v3 v4 0 (v6 + 1)) else (LB_X8_laws_r44_57 m Ln I A v1 v2 v3 v4 1 (v6 + 1))))
def PLB_X8_laws_r44_57 : Nat → (Ln : Nat) → (I A : Nat → Nat → Int32) → Int32 → Int32 → Int32 → Int32 → Int32 → Int32 → Prop
  | 0, Ln, I, A, v1, v2, v3, v4, v5, v6 => False
  | m + 1, Ln, I, A, v1, v2, v3, v4, v5, v6 => ((I 44 4) ≤ v6 → True) ∧ (¬ ((I 44 4) ≤ v6) → ((v5 = 0 → (PLB_X8_laws_r44_57 m Ln I A v1 v2 v3 v4 0 (v6 + 1))) ∧ (¬ (v5 = 0) → ((P_X8_waitOf_r44 Ln I A v6) ∧ ((v1 < (V_X8_waitOf_r44 Ln I A v6) → (PLB_X8_laws_r44_57 m Ln I A v1 v2 v3 v4 0 (v6 + 1))) ∧ (¬ (v1 < (V_X8_waitOf_r44 Ln I A v6)) → (PLB_X8_laws_r44_57 m Ln I A v1 v2 v3 v4 1 (v6 + 1))))))))
set_option maxRecDepth 100000 in
theorem MLB_X8_laws_r44_57 (m Ln : Nat) : ∀ (I A : Nat → Nat → Int32) (v1 : Int32) (v2 : Int32) (v3 : Int32) (v4 : Int32) (v5 : Int32) (v6 : Int32) {r : zRs}, PLB_X8_laws_r44_57 m Ln I A v1 v2 v3 v4 v5 v6 → zEv 139 94 0 0 [some (.ref 44), some (.int v1), some (.int v2), some (.int v3), some (.int v4), some (.int ((LB_X8_laws_r44_57 m Ln I A v1 v2 v3 v4 v5 v6).1)), some (.int ((LB_X8_laws_r44_57 m Ln I A v1 v2 v3 v4 v5 v6).2))] [] (zGs Ln I A) r → zEv 139 57 0 0 [some (.ref 44), some (.int v1), some (.int v2), some (.int v3), some (.int v4), some (.int v5), some (.int v6)] [] (zGs Ln I A) r := by
  induction m with
  | zero => intro I A v1 v2 v3 v4 v5 v6 r h hk; exact h.elim
  | succ m ih =>
    intro I A v1 v2 v3 v4 v5 v6 r h hk
    simp only [PLB_X8_laws_r44_57] at h
    simp only [LB_X8_laws_r44_57] at hk
    refine B_X8_laws_r44_57 Ln I A v1 v2 v3 v4 v5 v6  (fun q2 => ?_) (fun q2 => ?_)
    · try simp only [if_pos q2] at hk ⊢
      exact hk
    · try simp only [if_neg q2] at hk ⊢
      have h3 := h.2 q2
      refine B_X8_laws_r44_66 Ln I A v1 v2 v3 v4 v5 v6  (fun q6 => ?_) (fun q6 => ?_)
      · try simp only [if_pos q6] at hk ⊢
        have h7 := h3.1 q6
        refine B_X8_laws_r44_85 Ln I A v1 v2 v3 v4 v5 v6  ?_
        refine B_X8_laws_r44_86_s1 Ln I A v1 v2 v3 v4 v5 v6 0  ?_
        exact ih I A v1 v2 v3 v4 0 (v6 + 1) h7 hk
      · try simp only [if_neg q6] at hk ⊢
        have h12 := h3.2 q6
        obtain ⟨g13_0, r14_⟩ := h12
        refine B_X8_laws_r44_71 Ln I A v1 v2 v3 v4 v5 v6  (M_X8_waitOf_r44 Ln I A v6 g13_0) rfl ?_
        refine B_X8_laws_r44_77_s1 Ln I A v1 v2 v3 v4 v5 v6 (V_X8_waitOf_r44 Ln I A v6)  (fun q17 => ?_) (fun q17 => ?_)
        · try simp only [if_pos q17] at hk ⊢
          have h18 := r14_.1 q17
          refine B_X8_laws_r44_85 Ln I A v1 v2 v3 v4 v5 v6  ?_
          refine B_X8_laws_r44_86_s1 Ln I A v1 v2 v3 v4 v5 v6 0  ?_
          exact ih I A v1 v2 v3 v4 0 (v6 + 1) h18 hk
        · try simp only [if_neg q17] at hk ⊢
          have h23 := r14_.2 q17
          refine B_X8_laws_r44_81 Ln I A v1 v2 v3 v4 v5 v6  ?_
          refine B_X8_laws_r44_86_s1 Ln I A v1 v2 v3 v4 v5 v6 1  ?_
          exact ih I A v1 v2 v3 v4 1 (v6 + 1) h23 hk
def LA_X8_laws_r44_35 : Nat → (Ln : Nat) → (I A : Nat → Nat → Int32) → Int32 → Int32 → Int32 → Int32 → (Option Int32) → (Option Int32) → Int32 × (Nat → Nat → Int32) × (Nat → Nat → Int32)
  | 0, Ln, I, A, v1, v2, v3, v4, j5, j6 => (0, I, A)
  | m + 1, Ln, I, A, v1, v2, v3, v4, j5, j6 => if 3 ≤ v4 then (v3, zp I 44 10 v2, A) else (if ((LB_X8_laws_r44_57 1000 Ln (SI_X8_goAll_r44 Ln (zp I 44 10 v4) A ) (SA_X8_goAll_r44 Ln (zp I 44 10 v4) A ) v1 v2 v3 v4 1 0).1) = 0 then (LA_X8_laws_r44_35 m Ln (SI_X8_goAll_r44 Ln (zp I 44 10 v4) A ) (SA_X8_goAll_r44 Ln (zp I 44 10 v4) A ) v1 v2 (v3 ||| 0) (v4 + 1) (some ((LB_X8_laws_r44_57 1000 Ln (SI_X8_goAll_r44 Ln (zp I 44 10 v4) A ) (SA_X8_goAll_r44 Ln (zp I 44 10 v4) A ) v1 v2 v3 v4 1 0).1)) (some ((LB_X8_laws_r44_57 1000 Ln (SI_X8_goAll_r44 Ln (zp I 44 10 v4) A ) (SA_X8_goAll_r44 Ln (zp I 44 10 v4) A ) v1 v2 v3 v4 1 0).2))) else (LA_X8_laws_r44_35 m Ln (SI_X8_goAll_r44 Ln (zp I 44 10 v4) A ) (SA_X8_goAll_r44 Ln (zp I 44 10 v4) A ) v1 v2 (v3 ||| (1 <<< (v4 &&& 31))) (v4 + 1) (some ((LB_X8_laws_r44_57 1000 Ln (SI_X8_goAll_r44 Ln (zp I 44 10 v4) A ) (SA_X8_goAll_r44 Ln (zp I 44 10 v4) A ) v1 v2 v3 v4 1 0).1)) (some ((LB_X8_laws_r44_57 1000 Ln (SI_X8_goAll_r44 Ln (zp I 44 10 v4) A ) (SA_X8_goAll_r44 Ln (zp I 44 10 v4) A ) v1 v2 v3 v4 1 0).2))))
def PLA_X8_laws_r44_35 : Nat → (Ln : Nat) → (I A : Nat → Nat → Int32) → Int32 → Int32 → Int32 → Int32 → (Option Int32) → (Option Int32) → Prop
  | 0, Ln, I, A, v1, v2, v3, v4, j5, j6 => False
  | m + 1, Ln, I, A, v1, v2, v3, v4, j5, j6 => (3 ≤ v4 → True) ∧ (¬ (3 ≤ v4) → ((P_X8_goAll_r44 Ln (zp I 44 10 v4) A ) ∧ ((PLB_X8_laws_r44_57 1000 Ln (SI_X8_goAll_r44 Ln (zp I 44 10 v4) A ) (SA_X8_goAll_r44 Ln (zp I 44 10 v4) A ) v1 v2 v3 v4 1 0) ∧ ((((LB_X8_laws_r44_57 1000 Ln (SI_X8_goAll_r44 Ln (zp I 44 10 v4) A ) (SA_X8_goAll_r44 Ln (zp I 44 10 v4) A ) v1 v2 v3 v4 1 0).1) = 0 → (PLA_X8_laws_r44_35 m Ln (SI_X8_goAll_r44 Ln (zp I 44 10 v4) A ) (SA_X8_goAll_r44 Ln (zp I 44 10 v4) A ) v1 v2 (v3 ||| 0) (v4 + 1) (some ((LB_X8_laws_r44_57 1000 Ln (SI_X8_goAll_r44 Ln (zp I 44 10 v4) A ) (SA_X8_goAll_r44 Ln (zp I 44 10 v4) A ) v1 v2 v3 v4 1 0).1)) (some ((LB_X8_laws_r44_57 1000 Ln (SI_X8_goAll_r44 Ln (zp I 44 10 v4) A ) (SA_X8_goAll_r44 Ln (zp I 44 10 v4) A ) v1 v2 v3 v4 1 0).2)))) ∧ (¬ (((LB_X8_laws_r44_57 1000 Ln (SI_X8_goAll_r44 Ln (zp I 44 10 v4) A ) (SA_X8_goAll_r44 Ln (zp I 44 10 v4) A ) v1 v2 v3 v4 1 0).1) = 0) → (PLA_X8_laws_r44_35 m Ln (SI_X8_goAll_r44 Ln (zp I 44 10 v4) A ) (SA_X8_goAll_r44 Ln (zp I 44 10 v4) A ) v1 v2 (v3 ||| (1 <<< (v4 &&& 31))) (v4 + 1) (some ((LB_X8_laws_r44_57 1000 Ln (SI_X8_goAll_r44 Ln (zp I 44 10 v4) A ) (SA_X8_goAll_r44 Ln (zp I 44 10 v4) A ) v1 v2 v3 v4 1 0).1)) (some ((LB_X8_laws_r44_57 1000 Ln (SI_X8_goAll_r44 Ln (zp I 44 10 v4) A ) (SA_X8_goAll_r44 Ln (zp I 44 10 v4) A ) v1 v2 v3 v4 1 0).2))))))))
set_option maxRecDepth 100000 in
theorem MLA_X8_laws_r44_35 (m Ln : Nat) : ∀ (I A : Nat → Nat → Int32) (v1 : Int32) (v2 : Int32) (v3 : Int32) (v4 : Int32) (j5 : Option Int32) (j6 : Option Int32), PLA_X8_laws_r44_35 m Ln I A v1 v2 v3 v4 j5 j6 → zEv 139 35 0 0 [some (.ref 44), some (.int v1), some (.int v2), some (.int v3), some (.int v4), (Option.map Value.int j5), (Option.map Value.int j6)] [] (zGs Ln I A) (some (.int (LA_X8_laws_r44_35 m Ln I A v1 v2 v3 v4 j5 j6).1), zGs Ln (LA_X8_laws_r44_35 m Ln I A v1 v2 v3 v4 j5 j6).2.1 (LA_X8_laws_r44_35 m Ln I A v1 v2 v3 v4 j5 j6).2.2) := by
  induction m with
  | zero => intro I A v1 v2 v3 v4 j5 j6 h; exact h.elim
  | succ m ih =>
    intro I A v1 v2 v3 v4 j5 j6 h
    simp only [PLA_X8_laws_r44_35] at h
    simp only [LA_X8_laws_r44_35]
    refine B_X8_laws_r44_35 Ln I A v1 v2 v3 v4 j5 j6  (fun q2 => ?_) (fun q2 => ?_)
    · try simp only [if_pos q2]
      exact B_X8_laws_r44_116 Ln I A v1 v2 v3 v4 j5 j6 
    · try simp only [if_neg q2]
      have h3 := h.2 q2
      obtain ⟨g4_0, r5_⟩ := h3
      refine B_X8_laws_r44_41 Ln I A v1 v2 v3 v4 j5 j6  (M_X8_goAll_r44 Ln (zp I 44 10 v4) A  g4_0) rfl ?_
      refine B_X8_laws_r44_51 Ln (SI_X8_goAll_r44 Ln (zp I 44 10 v4) A ) (SA_X8_goAll_r44 Ln (zp I 44 10 v4) A ) v1 v2 v3 v4 j5 j6  ?_
      obtain ⟨b8, c8_⟩ := r5_
      refine MLB_X8_laws_r44_57 1000 Ln (SI_X8_goAll_r44 Ln (zp I 44 10 v4) A ) (SA_X8_goAll_r44 Ln (zp I 44 10 v4) A ) v1 v2 v3 v4 1 0 b8 ?_
      refine B_X8_laws_r44_94 Ln (SI_X8_goAll_r44 Ln (zp I 44 10 v4) A ) (SA_X8_goAll_r44 Ln (zp I 44 10 v4) A ) v1 v2 v3 v4 ((LB_X8_laws_r44_57 1000 Ln (SI_X8_goAll_r44 Ln (zp I 44 10 v4) A ) (SA_X8_goAll_r44 Ln (zp I 44 10 v4) A ) v1 v2 v3 v4 1 0).1) ((LB_X8_laws_r44_57 1000 Ln (SI_X8_goAll_r44 Ln (zp I 44 10 v4) A ) (SA_X8_goAll_r44 Ln (zp I 44 10 v4) A ) v1 v2 v3 v4 1 0).2)  (fun q11 => ?_) (fun q11 => ?_)
      · try simp only [if_pos q11]
        have h12 := c8_.1 q11
        refine B_X8_laws_r44_107_s1 Ln (SI_X8_goAll_r44 Ln (zp I 44 10 v4) A ) (SA_X8_goAll_r44 Ln (zp I 44 10 v4) A ) v1 v2 v3 v4 ((LB_X8_laws_r44_57 1000 Ln (SI_X8_goAll_r44 Ln (zp I 44 10 v4) A ) (SA_X8_goAll_r44 Ln (zp I 44 10 v4) A ) v1 v2 v3 v4 1 0).1) ((LB_X8_laws_r44_57 1000 Ln (SI_X8_goAll_r44 Ln (zp I 44 10 v4) A ) (SA_X8_goAll_r44 Ln (zp I 44 10 v4) A ) v1 v2 v3 v4 1 0).2) v3  ?_
        refine B_X8_laws_r44_108_s2 Ln (SI_X8_goAll_r44 Ln (zp I 44 10 v4) A ) (SA_X8_goAll_r44 Ln (zp I 44 10 v4) A ) v1 v2 v3 v4 ((LB_X8_laws_r44_57 1000 Ln (SI_X8_goAll_r44 Ln (zp I 44 10 v4) A ) (SA_X8_goAll_r44 Ln (zp I 44 10 v4) A ) v1 v2 v3 v4 1 0).1) ((LB_X8_laws_r44_57 1000 Ln (SI_X8_goAll_r44 Ln (zp I 44 10 v4) A ) (SA_X8_goAll_r44 Ln (zp I 44 10 v4) A ) v1 v2 v3 v4 1 0).2) v3 0  ?_
        exact ih (SI_X8_goAll_r44 Ln (zp I 44 10 v4) A ) (SA_X8_goAll_r44 Ln (zp I 44 10 v4) A ) v1 v2 (v3 ||| 0) (v4 + 1) (some ((LB_X8_laws_r44_57 1000 Ln (SI_X8_goAll_r44 Ln (zp I 44 10 v4) A ) (SA_X8_goAll_r44 Ln (zp I 44 10 v4) A ) v1 v2 v3 v4 1 0).1)) (some ((LB_X8_laws_r44_57 1000 Ln (SI_X8_goAll_r44 Ln (zp I 44 10 v4) A ) (SA_X8_goAll_r44 Ln (zp I 44 10 v4) A ) v1 v2 v3 v4 1 0).2)) h12
      · try simp only [if_neg q11]
        have h17 := c8_.2 q11
        refine B_X8_laws_r44_100_s1 Ln (SI_X8_goAll_r44 Ln (zp I 44 10 v4) A ) (SA_X8_goAll_r44 Ln (zp I 44 10 v4) A ) v1 v2 v3 v4 ((LB_X8_laws_r44_57 1000 Ln (SI_X8_goAll_r44 Ln (zp I 44 10 v4) A ) (SA_X8_goAll_r44 Ln (zp I 44 10 v4) A ) v1 v2 v3 v4 1 0).1) ((LB_X8_laws_r44_57 1000 Ln (SI_X8_goAll_r44 Ln (zp I 44 10 v4) A ) (SA_X8_goAll_r44 Ln (zp I 44 10 v4) A ) v1 v2 v3 v4 1 0).2) v3  ?_
        refine B_X8_laws_r44_108_s2 Ln (SI_X8_goAll_r44 Ln (zp I 44 10 v4) A ) (SA_X8_goAll_r44 Ln (zp I 44 10 v4) A ) v1 v2 v3 v4 ((LB_X8_laws_r44_57 1000 Ln (SI_X8_goAll_r44 Ln (zp I 44 10 v4) A ) (SA_X8_goAll_r44 Ln (zp I 44 10 v4) A ) v1 v2 v3 v4 1 0).1) ((LB_X8_laws_r44_57 1000 Ln (SI_X8_goAll_r44 Ln (zp I 44 10 v4) A ) (SA_X8_goAll_r44 Ln (zp I 44 10 v4) A ) v1 v2 v3 v4 1 0).2) v3 (1 <<< (v4 &&& 31))  ?_
        exact ih (SI_X8_goAll_r44 Ln (zp I 44 10 v4) A ) (SA_X8_goAll_r44 Ln (zp I 44 10 v4) A ) v1 v2 (v3 ||| (1 <<< (v4 &&& 31))) (v4 + 1) (some ((LB_X8_laws_r44_57 1000 Ln (SI_X8_goAll_r44 Ln (zp I 44 10 v4) A ) (SA_X8_goAll_r44 Ln (zp I 44 10 v4) A ) v1 v2 v3 v4 1 0).1)) (some ((LB_X8_laws_r44_57 1000 Ln (SI_X8_goAll_r44 Ln (zp I 44 10 v4) A ) (SA_X8_goAll_r44 Ln (zp I 44 10 v4) A ) v1 v2 v3 v4 1 0).2)) h17
def V_X8_laws_r44 (Ln : Nat) (I A : Nat → Nat → Int32) (v1 : Int32) : Int32 := if (V_X8_in Ln I A (Int32.toInt64 v1) 0 60) ≠ 0 then (if (I 44 4) ≠ 0 then ((LA_X8_laws_r44_35 1000 Ln I A v1 (I 44 10) 0 0 none none).1) else (-3)) else (-2)
def SI_X8_laws_r44 (Ln : Nat) (I A : Nat → Nat → Int32) (v1 : Int32) : Nat → Nat → Int32 := if (V_X8_in Ln I A (Int32.toInt64 v1) 0 60) ≠ 0 then (if (I 44 4) ≠ 0 then ((LA_X8_laws_r44_35 1000 Ln I A v1 (I 44 10) 0 0 none none).2.1) else I) else I
def SA_X8_laws_r44 (Ln : Nat) (I A : Nat → Nat → Int32) (v1 : Int32) : Nat → Nat → Int32 := if (V_X8_in Ln I A (Int32.toInt64 v1) 0 60) ≠ 0 then (if (I 44 4) ≠ 0 then ((LA_X8_laws_r44_35 1000 Ln I A v1 (I 44 10) 0 0 none none).2.2) else A) else A
def P_X8_laws_r44 (Ln : Nat) (I A : Nat → Nat → Int32) (v1 : Int32) : Prop := ((V_X8_in Ln I A (Int32.toInt64 v1) 0 60) ≠ 0 → (((I 44 4) ≠ 0 → (PLA_X8_laws_r44_35 1000 Ln I A v1 (I 44 10) 0 0 none none)) ∧ (¬ ((I 44 4) ≠ 0) → True))) ∧ (¬ ((V_X8_in Ln I A (Int32.toInt64 v1) 0 60) ≠ 0) → True)
set_option maxRecDepth 100000 in
theorem M_X8_laws_r44 (Ln : Nat) (I A : Nat → Nat → Int32) (v1 : Int32) (h : P_X8_laws_r44 Ln I A v1) : zEv 139 0 0 0 [some (.ref 44), some (.int v1), none, none, none, none, none] [] (zGs Ln I A) (some (.int (V_X8_laws_r44 Ln I A v1)), zGs Ln (SI_X8_laws_r44 Ln I A v1) (SA_X8_laws_r44 Ln I A v1)) := by
  unfold P_X8_laws_r44 at h
  unfold V_X8_laws_r44 SI_X8_laws_r44 SA_X8_laws_r44
  refine B_X8_laws_r44_0 Ln I A v1  (M_X8_in Ln I A (Int32.toInt64 v1) 0 60 ) rfl ?_
  refine B_X8_laws_r44_9_s1 Ln I A v1 (V_X8_in Ln I A (Int32.toInt64 v1) 0 60)  (fun q4 => ?_) (fun q4 => ?_)
  · try simp only [if_pos q4]
    have h5 := h.1 q4
    refine B_X8_laws_r44_15 Ln I A v1  (fun q8 => ?_) (fun q8 => ?_)
    · try simp only [if_pos q8]
      have h9 := h5.1 q8
      refine B_X8_laws_r44_25 Ln I A v1  ?_
      exact MLA_X8_laws_r44_35 1000 Ln I A v1 (I 44 10) 0 0 none none h9
    · try simp only [if_neg q8]
      exact B_X8_laws_r44_22 Ln I A v1 
  · try simp only [if_neg q4]
    exact B_X8_laws_r44_12 Ln I A v1 
