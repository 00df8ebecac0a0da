/-! methods, by program (wip/whole/gen_fun.py, gen_loop.py) -/
def LA_X1_firstWrong_r26_r4_6 : Nat → (Ln : Nat) → (I A : Nat → Nat → Int32) → Int32 → Int32 → Int32 → Int32 → Int32 → (Option Int32) → (Option Int32) → Int32
  | 0, Ln, I, A, v2, v3, v4, v5, v6, j7, j8 => 0
  | m + 1, Ln, I, A, v2, v3, v4, v5, v6, j7, j8 => if v3 ≤ v6 then (-9) else (if ((A 4 (v2 + v6).toNatClampNeg) &&& ((((A 16 (v6).toNatClampNeg) &&& (v5 ^^^ ((-1)))) &&& v4) ^^^ ((-1)))) ≠ 0 then v6 else (if (V_X0_carries_r11 Ln I A (A 4 (v2 + v6).toNatClampNeg)) ≠ 0 then (LA_X1_firstWrong_r26_r4_6 m Ln I A v2 v3 v4 (v5 ||| (A 4 (v2 + v6).toNatClampNeg)) (v6 + 1) (some (A 4 (v2 + v6).toNatClampNeg)) (some (((A 16 (v6).toNatClampNeg) &&& (v5 ^^^ ((-1)))) &&& v4))) else v6))
def PLA_X1_firstWrong_r26_r4_6 : Nat → (Ln : Nat) → (I A : Nat → Nat → Int32) → Int32 → Int32 → Int32 → Int32 → Int32 → (Option Int32) → (Option Int32) → Prop
  | 0, Ln, I, A, v2, v3, v4, v5, v6, j7, j8 => False
  | m + 1, Ln, I, A, v2, v3, v4, v5, v6, j7, j8 => (v3 ≤ v6 → True) ∧ (¬ (v3 ≤ v6) → ((zin (v2 + v6) 60 = true) ∧ (zin v6 60 = true) ∧ ((((A 4 (v2 + v6).toNatClampNeg) &&& ((((A 16 (v6).toNatClampNeg) &&& (v5 ^^^ ((-1)))) &&& v4) ^^^ ((-1)))) ≠ 0 → True) ∧ (¬ (((A 4 (v2 + v6).toNatClampNeg) &&& ((((A 16 (v6).toNatClampNeg) &&& (v5 ^^^ ((-1)))) &&& v4) ^^^ ((-1)))) ≠ 0) → ((P_X0_carries_r11 Ln I A (A 4 (v2 + v6).toNatClampNeg)) ∧ (((V_X0_carries_r11 Ln I A (A 4 (v2 + v6).toNatClampNeg)) ≠ 0 → (PLA_X1_firstWrong_r26_r4_6 m Ln I A v2 v3 v4 (v5 ||| (A 4 (v2 + v6).toNatClampNeg)) (v6 + 1) (some (A 4 (v2 + v6).toNatClampNeg)) (some (((A 16 (v6).toNatClampNeg) &&& (v5 ^^^ ((-1)))) &&& v4)))) ∧ (¬ ((V_X0_carries_r11 Ln I A (A 4 (v2 + v6).toNatClampNeg)) ≠ 0) → True)))))))
set_option maxRecDepth 100000 in
theorem MLA_X1_firstWrong_r26_r4_6 (m Ln : Nat) : ∀ (I A : Nat → Nat → Int32) (v2 : Int32) (v3 : Int32) (v4 : Int32) (v5 : Int32) (v6 : Int32) (j7 : Option Int32) (j8 : Option Int32), PLA_X1_firstWrong_r26_r4_6 m Ln I A v2 v3 v4 v5 v6 j7 j8 → zEv 10 6 0 0 [some (.ref 26), some (.ref 4), some (.int v2), some (.int v3), some (.int v4), some (.int v5), some (.int v6), (Option.map Value.int j7), (Option.map Value.int j8)] [] (zGs Ln I A) (some (.int (LA_X1_firstWrong_r26_r4_6 m Ln I A v2 v3 v4 v5 v6 j7 j8)), zGs Ln I A) := by
  induction m with
  | zero => intro I A v2 v3 v4 v5 v6 j7 j8 h; exact h.elim
  | succ m ih =>
    intro I A v2 v3 v4 v5 v6 j7 j8 h
    simp only [PLA_X1_firstWrong_r26_r4_6] at h
    simp only [LA_X1_firstWrong_r26_r4_6]
    refine B_X1_firstWrong_r26_r4_6 Ln I A v2 v3 v4 v5 v6 j7 j8  (fun q2 => ?_) (fun q2 => ?_)
    · try simp only [if_pos q2]
      exact B_X1_firstWrong_r26_r4_78 Ln I A v2 v3 v4 v5 v6 j7 j8 
    · try simp only [if_neg q2]
      have h3 := h.2 q2
      obtain ⟨g4_0, g4_1, r5_⟩ := h3
      refine B_X1_firstWrong_r26_r4_12 Ln I A v2 v3 v4 v5 v6 j7 j8 g4_0 g4_1 (fun q6 => ?_) (fun q6 => ?_)
      · try simp only [if_pos q6]
        exact B_X1_firstWrong_r26_r4_62 Ln I A v2 v3 v4 v5 v6 (A 4 (v2 + v6).toNatClampNeg) (((A 16 (v6).toNatClampNeg) &&& (v5 ^^^ ((-1)))) &&& v4) 
      · try simp only [if_neg q6]
        have h7 := r5_.2 q6
        obtain ⟨g8_0, r9_⟩ := h7
        refine B_X1_firstWrong_r26_r4_50 Ln I A v2 v3 v4 v5 v6 (A 4 (v2 + v6).toNatClampNeg) (((A 16 (v6).toNatClampNeg) &&& (v5 ^^^ ((-1)))) &&& v4)  (M_X0_carries_r11 Ln I A (A 4 (v2 + v6).toNatClampNeg) g8_0) rfl ?_
        refine B_X1_firstWrong_r26_r4_59_s1 Ln I A v2 v3 v4 v5 v6 (A 4 (v2 + v6).toNatClampNeg) (((A 16 (v6).toNatClampNeg) &&& (v5 ^^^ ((-1)))) &&& v4) (V_X0_carries_r11 Ln I A (A 4 (v2 + v6).toNatClampNeg))  (fun q12 => ?_) (fun q12 => ?_)
        · try simp only [if_pos q12]
          have h13 := r9_.1 q12
          refine B_X1_firstWrong_r26_r4_65 Ln I A v2 v3 v4 v5 v6 (A 4 (v2 + v6).toNatClampNeg) (((A 16 (v6).toNatClampNeg) &&& (v5 ^^^ ((-1)))) &&& v4)  ?_
          exact ih I A v2 v3 v4 (v5 ||| (A 4 (v2 + v6).toNatClampNeg)) (v6 + 1) (some (A 4 (v2 + v6).toNatClampNeg)) (some (((A 16 (v6).toNatClampNeg) &&& (v5 ^^^ ((-1)))) &&& v4)) h13
        · try simp only [if_neg q12]
          exact B_X1_firstWrong_r26_r4_62 Ln I A v2 v3 v4 v5 v6 (A 4 (v2 + v6).toNatClampNeg) (((A 16 (v6).toNatClampNeg) &&& (v5 ^^^ ((-1)))) &&& v4) 
def V_X1_firstWrong_r26_r4 (Ln : Nat) (I A : Nat → Nat → Int32) (v2 : Int32) (v3 : Int32) (v4 : Int32) : Int32 := LA_X1_firstWrong_r26_r4_6 1000 Ln I A v2 v3 v4 0 0 none none
def P_X1_firstWrong_r26_r4 (Ln : Nat) (I A : Nat → Nat → Int32) (v2 : Int32) (v3 : Int32) (v4 : Int32) : Prop := PLA_X1_firstWrong_r26_r4_6 1000 Ln I A v2 v3 v4 0 0 none none
set_option maxRecDepth 100000 in
theorem M_X1_firstWrong_r26_r4 (Ln : Nat) (I A : Nat → Nat → Int32) (v2 : Int32) (v3 : Int32) (v4 : Int32) (h : P_X1_firstWrong_r26_r4 Ln I A v2 v3 v4) : zEv 10 0 0 0 [some (.ref 26), some (.ref 4), some (.int v2), some (.int v3), some (.int v4), none, none, none, none] [] (zGs Ln I A) (some (.int (V_X1_firstWrong_r26_r4 Ln I A v2 v3 v4)), zGs Ln (I) (A)) := by
  unfold P_X1_firstWrong_r26_r4 at h
  unfold V_X1_firstWrong_r26_r4
  refine B_X1_firstWrong_r26_r4_0 Ln I A v2 v3 v4  ?_
  exact MLA_X1_firstWrong_r26_r4_6 1000 Ln I A v2 v3 v4 0 0 none none h
def LA_X1_firstWrong_r26_r6_6 : Nat → (Ln : Nat) → (I A : Nat → Nat → Int32) → Int32 → Int32 → Int32 → Int32 → Int32 → (Option Int32) → (Option Int32) → Int32
  | 0, Ln, I, A, v2, v3, v4, v5, v6, j7, j8 => 0
  | m + 1, Ln, I, A, v2, v3, v4, v5, v6, j7, j8 => if v3 ≤ v6 then (-9) else (if ((A 6 (v2 + v6).toNatClampNeg) &&& ((((A 16 (v6).toNatClampNeg) &&& (v5 ^^^ ((-1)))) &&& v4) ^^^ ((-1)))) ≠ 0 then v6 else (if (V_X0_carries_r11 Ln I A (A 6 (v2 + v6).toNatClampNeg)) ≠ 0 then (LA_X1_firstWrong_r26_r6_6 m Ln I A v2 v3 v4 (v5 ||| (A 6 (v2 + v6).toNatClampNeg)) (v6 + 1) (some (A 6 (v2 + v6).toNatClampNeg)) (some (((A 16 (v6).toNatClampNeg) &&& (v5 ^^^ ((-1)))) &&& v4))) else v6))
def PLA_X1_firstWrong_r26_r6_6 : Nat → (Ln : Nat) → (I A : Nat → Nat → Int32) → Int32 → Int32 → Int32 → Int32 → Int32 → (Option Int32) → (Option Int32) → Prop
  | 0, Ln, I, A, v2, v3, v4, v5, v6, j7, j8 => False
  | m + 1, Ln, I, A, v2, v3, v4, v5, v6, j7, j8 => (v3 ≤ v6 → True) ∧ (¬ (v3 ≤ v6) → ((zin (v2 + v6) 60 = true) ∧ (zin v6 60 = true) ∧ ((((A 6 (v2 + v6).toNatClampNeg) &&& ((((A 16 (v6).toNatClampNeg) &&& (v5 ^^^ ((-1)))) &&& v4) ^^^ ((-1)))) ≠ 0 → True) ∧ (¬ (((A 6 (v2 + v6).toNatClampNeg) &&& ((((A 16 (v6).toNatClampNeg) &&& (v5 ^^^ ((-1)))) &&& v4) ^^^ ((-1)))) ≠ 0) → ((P_X0_carries_r11 Ln I A (A 6 (v2 + v6).toNatClampNeg)) ∧ (((V_X0_carries_r11 Ln I A (A 6 (v2 + v6).toNatClampNeg)) ≠ 0 → (PLA_X1_firstWrong_r26_r6_6 m Ln I A v2 v3 v4 (v5 ||| (A 6 (v2 + v6).toNatClampNeg)) (v6 + 1) (some (A 6 (v2 + v6).toNatClampNeg)) (some (((A 16 (v6).toNatClampNeg) &&& (v5 ^^^ ((-1)))) &&& v4)))) ∧ (¬ ((V_X0_carries_r11 Ln I A (A 6 (v2 + v6).toNatClampNeg)) ≠ 0) → True)))))))
set_option maxRecDepth 100000 in
theorem MLA_X1_firstWrong_r26_r6_6 (m Ln : Nat) : ∀ (I A : Nat → Nat → Int32) (v2 : Int32) (v3 : Int32) (v4 : Int32) (v5 : Int32) (v6 : Int32) (j7 : Option Int32) (j8 : Option Int32), PLA_X1_firstWrong_r26_r6_6 m Ln I A v2 v3 v4 v5 v6 j7 j8 → zEv 10 6 0 0 [some (.ref 26), some (.ref 6), some (.int v2), some (.int v3), some (.int v4), some (.int v5), some (.int v6), (Option.map Value.int j7), (Option.map Value.int j8)] [] (zGs Ln I A) (some (.int (LA_X1_firstWrong_r26_r6_6 m Ln I A v2 v3 v4 v5 v6 j7 j8)), zGs Ln I A) := by
  induction m with
  | zero => intro I A v2 v3 v4 v5 v6 j7 j8 h; exact h.elim
  | succ m ih =>
    intro I A v2 v3 v4 v5 v6 j7 j8 h
    simp only [PLA_X1_firstWrong_r26_r6_6] at h
    simp only [LA_X1_firstWrong_r26_r6_6]
    refine B_X1_firstWrong_r26_r6_6 Ln I A v2 v3 v4 v5 v6 j7 j8  (fun q2 => ?_) (fun q2 => ?_)
    · try simp only [if_pos q2]
      exact B_X1_firstWrong_r26_r6_78 Ln I A v2 v3 v4 v5 v6 j7 j8 
    · try simp only [if_neg q2]
      have h3 := h.2 q2
      obtain ⟨g4_0, g4_1, r5_⟩ := h3
      refine B_X1_firstWrong_r26_r6_12 Ln I A v2 v3 v4 v5 v6 j7 j8 g4_0 g4_1 (fun q6 => ?_) (fun q6 => ?_)
      · try simp only [if_pos q6]
        exact B_X1_firstWrong_r26_r6_62 Ln I A v2 v3 v4 v5 v6 (A 6 (v2 + v6).toNatClampNeg) (((A 16 (v6).toNatClampNeg) &&& (v5 ^^^ ((-1)))) &&& v4) 
      · try simp only [if_neg q6]
        have h7 := r5_.2 q6
        obtain ⟨g8_0, r9_⟩ := h7
        refine B_X1_firstWrong_r26_r6_50 Ln I A v2 v3 v4 v5 v6 (A 6 (v2 + v6).toNatClampNeg) (((A 16 (v6).toNatClampNeg) &&& (v5 ^^^ ((-1)))) &&& v4)  (M_X0_carries_r11 Ln I A (A 6 (v2 + v6).toNatClampNeg) g8_0) rfl ?_
        refine B_X1_firstWrong_r26_r6_59_s1 Ln I A v2 v3 v4 v5 v6 (A 6 (v2 + v6).toNatClampNeg) (((A 16 (v6).toNatClampNeg) &&& (v5 ^^^ ((-1)))) &&& v4) (V_X0_carries_r11 Ln I A (A 6 (v2 + v6).toNatClampNeg))  (fun q12 => ?_) (fun q12 => ?_)
        · try simp only [if_pos q12]
          have h13 := r9_.1 q12
          refine B_X1_firstWrong_r26_r6_65 Ln I A v2 v3 v4 v5 v6 (A 6 (v2 + v6).toNatClampNeg) (((A 16 (v6).toNatClampNeg) &&& (v5 ^^^ ((-1)))) &&& v4)  ?_
          exact ih I A v2 v3 v4 (v5 ||| (A 6 (v2 + v6).toNatClampNeg)) (v6 + 1) (some (A 6 (v2 + v6).toNatClampNeg)) (some (((A 16 (v6).toNatClampNeg) &&& (v5 ^^^ ((-1)))) &&& v4)) h13
        · try simp only [if_neg q12]
          exact B_X1_firstWrong_r26_r6_62 Ln I A v2 v3 v4 v5 v6 (A 6 (v2 + v6).toNatClampNeg) (((A 16 (v6).toNatClampNeg) &&& (v5 ^^^ ((-1)))) &&& v4) 
def V_X1_firstWrong_r26_r6 (Ln : Nat) (I A : Nat → Nat → Int32) (v2 : Int32) (v3 : Int32) (v4 : Int32) : Int32 := LA_X1_firstWrong_r26_r6_6 1000 Ln I A v2 v3 v4 0 0 none none
def P_X1_firstWrong_r26_r6 (Ln : Nat) (I A : Nat → Nat → Int32) (v2 : Int32) (v3 : Int32) (v4 : Int32) : Prop := PLA_X1_firstWrong_r26_r6_6 1000 Ln I A v2 v3 v4 0 0 none none
set_option maxRecDepth 100000 in
theorem M_X1_firstWrong_r26_r6 (Ln : Nat) (I A : Nat → Nat → Int32) (v2 : Int32) (v3 : Int32) (v4 : Int32) (h : P_X1_firstWrong_r26_r6 Ln I A v2 v3 v4) : zEv 10 0 0 0 [some (.ref 26), some (.ref 6), some (.int v2), some (.int v3), some (.int v4), none, none, none, none] [] (zGs Ln I A) (some (.int (V_X1_firstWrong_r26_r6 Ln I A v2 v3 v4)), zGs Ln (I) (A)) := by
  unfold P_X1_firstWrong_r26_r6 at h
  unfold V_X1_firstWrong_r26_r6
  refine B_X1_firstWrong_r26_r6_0 Ln I A v2 v3 v4  ?_
  exact MLA_X1_firstWrong_r26_r6_6 1000 Ln I A v2 v3 v4 0 0 none none h
def LA_X1_firstWrong_r26_r8_6 : Nat → (Ln : Nat) → (I A : Nat → Nat → Int32) → Int32 → Int32 → Int32 → Int32 → Int32 → (Option Int32) → (Option Int32) → Int32
  | 0, Ln, I, A, v2, v3, v4, v5, v6, j7, j8 => 0
  | m + 1, Ln, I, A, v2, v3, v4, v5, v6, j7, j8 => if v3 ≤ v6 then (-9) else (if ((A 8 (v2 + v6).toNatClampNeg) &&& ((((A 16 (v6).toNatClampNeg) &&& (v5 ^^^ ((-1)))) &&& v4) ^^^ ((-1)))) ≠ 0 then v6 else (if (V_X0_carries_r11 Ln I A (A 8 (v2 + v6).toNatClampNeg)) ≠ 0 then (LA_X1_firstWrong_r26_r8_6 m Ln I A v2 v3 v4 (v5 ||| (A 8 (v2 + v6).toNatClampNeg)) (v6 + 1) (some (A 8 (v2 + v6).toNatClampNeg)) (some (((A 16 (v6).toNatClampNeg) &&& (v5 ^^^ ((-1)))) &&& v4))) else v6))
def PLA_X1_firstWrong_r26_r8_6 : Nat → (Ln : Nat) → (I A : Nat → Nat → Int32) → Int32 → Int32 → Int32 → Int32 → Int32 → (Option Int32) → (Option Int32) → Prop
  | 0, Ln, I, A, v2, v3, v4, v5, v6, j7, j8 => False
  | m + 1, Ln, I, A, v2, v3, v4, v5, v6, j7, j8 => (v3 ≤ v6 → True) ∧ (¬ (v3 ≤ v6) → ((zin (v2 + v6) 60 = true) ∧ (zin v6 60 = true) ∧ ((((A 8 (v2 + v6).toNatClampNeg) &&& ((((A 16 (v6).toNatClampNeg) &&& (v5 ^^^ ((-1)))) &&& v4) ^^^ ((-1)))) ≠ 0 → True) ∧ (¬ (((A 8 (v2 + v6).toNatClampNeg) &&& ((((A 16 (v6).toNatClampNeg) &&& (v5 ^^^ ((-1)))) &&& v4) ^^^ ((-1)))) ≠ 0) → ((P_X0_carries_r11 Ln I A (A 8 (v2 + v6).toNatClampNeg)) ∧ (((V_X0_carries_r11 Ln I A (A 8 (v2 + v6).toNatClampNeg)) ≠ 0 → (PLA_X1_firstWrong_r26_r8_6 m Ln I A v2 v3 v4 (v5 ||| (A 8 (v2 + v6).toNatClampNeg)) (v6 + 1) (some (A 8 (v2 + v6).toNatClampNeg)) (some (((A 16 (v6).toNatClampNeg) &&& (v5 ^^^ ((-1)))) &&& v4)))) ∧ (¬ ((V_X0_carries_r11 Ln I A (A 8 (v2 + v6).toNatClampNeg)) ≠ 0) → True)))))))
set_option maxRecDepth 100000 in
theorem MLA_X1_firstWrong_r26_r8_6 (m Ln : Nat) : ∀ (I A : Nat → Nat → Int32) (v2 : Int32) (v3 : Int32) (v4 : Int32) (v5 : Int32) (v6 : Int32) (j7 : Option Int32) (j8 : Option Int32), PLA_X1_firstWrong_r26_r8_6 m Ln I A v2 v3 v4 v5 v6 j7 j8 → zEv 10 6 0 0 [some (.ref 26), some (.ref 8), some (.int v2), some (.int v3), some (.int v4), some (.int v5), some (.int v6), (Option.map Value.int j7), (Option.map Value.int j8)] [] (zGs Ln I A) (some (.int (LA_X1_firstWrong_r26_r8_6 m Ln I A v2 v3 v4 v5 v6 j7 j8)), zGs Ln I A) := by
  induction m with
  | zero => intro I A v2 v3 v4 v5 v6 j7 j8 h; exact h.elim
  | succ m ih =>
    intro I A v2 v3 v4 v5 v6 j7 j8 h
    simp only [PLA_X1_firstWrong_r26_r8_6] at h
    simp only [LA_X1_firstWrong_r26_r8_6]
    refine B_X1_firstWrong_r26_r8_6 Ln I A v2 v3 v4 v5 v6 j7 j8  (fun q2 => ?_) (fun q2 => ?_)
    · try simp only [if_pos q2]
      exact B_X1_firstWrong_r26_r8_78 Ln I A v2 v3 v4 v5 v6 j7 j8 
    · try simp only [if_neg q2]
      have h3 := h.2 q2
      obtain ⟨g4_0, g4_1, r5_⟩ := h3
      refine B_X1_firstWrong_r26_r8_12 Ln I A v2 v3 v4 v5 v6 j7 j8 g4_0 g4_1 (fun q6 => ?_) (fun q6 => ?_)
      · try simp only [if_pos q6]
        exact B_X1_firstWrong_r26_r8_62 Ln I A v2 v3 v4 v5 v6 (A 8 (v2 + v6).toNatClampNeg) (((A 16 (v6).toNatClampNeg) &&& (v5 ^^^ ((-1)))) &&& v4) 
      · try simp only [if_neg q6]
        have h7 := r5_.2 q6
        obtain ⟨g8_0, r9_⟩ := h7
        refine B_X1_firstWrong_r26_r8_50 Ln I A v2 v3 v4 v5 v6 (A 8 (v2 + v6).toNatClampNeg) (((A 16 (v6).toNatClampNeg) &&& (v5 ^^^ ((-1)))) &&& v4)  (M_X0_carries_r11 Ln I A (A 8 (v2 + v6).toNatClampNeg) g8_0) rfl ?_
        refine B_X1_firstWrong_r26_r8_59_s1 Ln I A v2 v3 v4 v5 v6 (A 8 (v2 + v6).toNatClampNeg) (((A 16 (v6).toNatClampNeg) &&& (v5 ^^^ ((-1)))) &&& v4) (V_X0_carries_r11 Ln I A (A 8 (v2 + v6).toNatClampNeg))  (fun q12 => ?_) (fun q12 => ?_)
        · try simp only [if_pos q12]
          have h13 := r9_.1 q12
          refine B_X1_firstWrong_r26_r8_65 Ln I A v2 v3 v4 v5 v6 (A 8 (v2 + v6).toNatClampNeg) (((A 16 (v6).toNatClampNeg) &&& (v5 ^^^ ((-1)))) &&& v4)  ?_
          exact ih I A v2 v3 v4 (v5 ||| (A 8 (v2 + v6).toNatClampNeg)) (v6 + 1) (some (A 8 (v2 + v6).toNatClampNeg)) (some (((A 16 (v6).toNatClampNeg) &&& (v5 ^^^ ((-1)))) &&& v4)) h13
        · try simp only [if_neg q12]
          exact B_X1_firstWrong_r26_r8_62 Ln I A v2 v3 v4 v5 v6 (A 8 (v2 + v6).toNatClampNeg) (((A 16 (v6).toNatClampNeg) &&& (v5 ^^^ ((-1)))) &&& v4) 
def V_X1_firstWrong_r26_r8 (Ln : Nat) (I A : Nat → Nat → Int32) (v2 : Int32) (v3 : Int32) (v4 : Int32) : Int32 := LA_X1_firstWrong_r26_r8_6 1000 Ln I A v2 v3 v4 0 0 none none
def P_X1_firstWrong_r26_r8 (Ln : Nat) (I A : Nat → Nat → Int32) (v2 : Int32) (v3 : Int32) (v4 : Int32) : Prop := PLA_X1_firstWrong_r26_r8_6 1000 Ln I A v2 v3 v4 0 0 none none
set_option maxRecDepth 100000 in
theorem M_X1_firstWrong_r26_r8 (Ln : Nat) (I A : Nat → Nat → Int32) (v2 : Int32) (v3 : Int32) (v4 : Int32) (h : P_X1_firstWrong_r26_r8 Ln I A v2 v3 v4) : zEv 10 0 0 0 [some (.ref 26), some (.ref 8), some (.int v2), some (.int v3), some (.int v4), none, none, none, none] [] (zGs Ln I A) (some (.int (V_X1_firstWrong_r26_r8 Ln I A v2 v3 v4)), zGs Ln (I) (A)) := by
  unfold P_X1_firstWrong_r26_r8 at h
  unfold V_X1_firstWrong_r26_r8
  refine B_X1_firstWrong_r26_r8_0 Ln I A v2 v3 v4  ?_
  exact MLA_X1_firstWrong_r26_r8_6 1000 Ln I A v2 v3 v4 0 0 none none h
def LA_X1_firstWrong_r26_r10_6 : Nat → (Ln : Nat) → (I A : Nat → Nat → Int32) → Int32 → Int32 → Int32 → Int32 → Int32 → (Option Int32) → (Option Int32) → Int32
  | 0, Ln, I, A, v2, v3, v4, v5, v6, j7, j8 => 0
  | m + 1, Ln, I, A, v2, v3, v4, v5, v6, j7, j8 => if v3 ≤ v6 then (-9) else (if ((A 10 (v2 + v6).toNatClampNeg) &&& ((((A 16 (v6).toNatClampNeg) &&& (v5 ^^^ ((-1)))) &&& v4) ^^^ ((-1)))) ≠ 0 then v6 else (if (V_X0_carries_r11 Ln I A (A 10 (v2 + v6).toNatClampNeg)) ≠ 0 then (LA_X1_firstWrong_r26_r10_6 m Ln I A v2 v3 v4 (v5 ||| (A 10 (v2 + v6).toNatClampNeg)) (v6 + 1) (some (A 10 (v2 + v6).toNatClampNeg)) (some (((A 16 (v6).toNatClampNeg) &&& (v5 ^^^ ((-1)))) &&& v4))) else v6))
def PLA_X1_firstWrong_r26_r10_6 : Nat → (Ln : Nat) → (I A : Nat → Nat → Int32) → Int32 → Int32 → Int32 → Int32 → Int32 → (Option Int32) → (Option Int32) → Prop
  | 0, Ln, I, A, v2, v3, v4, v5, v6, j7, j8 => False
  | m + 1, Ln, I, A, v2, v3, v4, v5, v6, j7, j8 => (v3 ≤ v6 → True) ∧ (¬ (v3 ≤ v6) → ((zin (v2 + v6) 60 = true) ∧ (zin v6 60 = true) ∧ ((((A 10 (v2 + v6).toNatClampNeg) &&& ((((A 16 (v6).toNatClampNeg) &&& (v5 ^^^ ((-1)))) &&& v4) ^^^ ((-1)))) ≠ 0 → True) ∧ (¬ (((A 10 (v2 + v6).toNatClampNeg) &&& ((((A 16 (v6).toNatClampNeg) &&& (v5 ^^^ ((-1)))) &&& v4) ^^^ ((-1)))) ≠ 0) → ((P_X0_carries_r11 Ln I A (A 10 (v2 + v6).toNatClampNeg)) ∧ (((V_X0_carries_r11 Ln I A (A 10 (v2 + v6).toNatClampNeg)) ≠ 0 → (PLA_X1_firstWrong_r26_r10_6 m Ln I A v2 v3 v4 (v5 ||| (A 10 (v2 + v6).toNatClampNeg)) (v6 + 1) (some (A 10 (v2 + v6).toNatClampNeg)) (some (((A 16 (v6).toNatClampNeg) &&& (v5 ^^^ ((-1)))) &&& v4)))) ∧ (¬ ((V_X0_carries_r11 Ln I A (A 10 (v2 + v6).toNatClampNeg)) ≠ 0) → True)))))))
set_option maxRecDepth 100000 in
theorem MLA_X1_firstWrong_r26_r10_6 (m Ln : Nat) : ∀ (I A : Nat → Nat → Int32) (v2 : Int32) (v3 : Int32) (v4 : Int32) (v5 : Int32) (v6 : Int32) (j7 : Option Int32) (j8 : Option Int32), PLA_X1_firstWrong_r26_r10_6 m Ln I A v2 v3 v4 v5 v6 j7 j8 → zEv 10 6 0 0 [some (.ref 26), some (.ref 10), some (.int v2), some (.int v3), some (.int v4), some (.int v5), some (.int v6), (Option.map Value.int j7), (Option.map Value.int j8)] [] (zGs Ln I A) (some (.int (LA_X1_firstWrong_r26_r10_6 m Ln I A v2 v3 v4 v5 v6 j7 j8)), zGs Ln I A) := by
  induction m with
  | zero => intro I A v2 v3 v4 v5 v6 j7 j8 h; exact h.elim
  | succ m ih =>
    intro I A v2 v3 v4 v5 v6 j7 j8 h
    simp only [PLA_X1_firstWrong_r26_r10_6] at h
    simp only [LA_X1_firstWrong_r26_r10_6]
    refine B_X1_firstWrong_r26_r10_6 Ln I A v2 v3 v4 v5 v6 j7 j8  (fun q2 => ?_) (fun q2 => ?_)
    · try simp only [if_pos q2]
      exact B_X1_firstWrong_r26_r10_78 Ln I A v2 v3 v4 v5 v6 j7 j8 
    · try simp only [if_neg q2]
      have h3 := h.2 q2
      obtain ⟨g4_0, g4_1, r5_⟩ := h3
      refine B_X1_firstWrong_r26_r10_12 Ln I A v2 v3 v4 v5 v6 j7 j8 g4_0 g4_1 (fun q6 => ?_) (fun q6 => ?_)
      · try simp only [if_pos q6]
        exact B_X1_firstWrong_r26_r10_62 Ln I A v2 v3 v4 v5 v6 (A 10 (v2 + v6).toNatClampNeg) (((A 16 (v6).toNatClampNeg) &&& (v5 ^^^ ((-1)))) &&& v4) 
      · try simp only [if_neg q6]
        have h7 := r5_.2 q6
        obtain ⟨g8_0, r9_⟩ := h7
        refine B_X1_firstWrong_r26_r10_50 Ln I A v2 v3 v4 v5 v6 (A 10 (v2 + v6).toNatClampNeg) (((A 16 (v6).toNatClampNeg) &&& (v5 ^^^ ((-1)))) &&& v4)  (M_X0_carries_r11 Ln I A (A 10 (v2 + v6).toNatClampNeg) g8_0) rfl ?_
        refine B_X1_firstWrong_r26_r10_59_s1 Ln I A v2 v3 v4 v5 v6 (A 10 (v2 + v6).toNatClampNeg) (((A 16 (v6).toNatClampNeg) &&& (v5 ^^^ ((-1)))) &&& v4) (V_X0_carries_r11 Ln I A (A 10 (v2 + v6).toNatClampNeg))  (fun q12 => ?_) (fun q12 => ?_)
        · try simp only [if_pos q12]
          have h13 := r9_.1 q12
          refine B_X1_firstWrong_r26_r10_65 Ln I A v2 v3 v4 v5 v6 (A 10 (v2 + v6).toNatClampNeg) (((A 16 (v6).toNatClampNeg) &&& (v5 ^^^ ((-1)))) &&& v4)  ?_
          exact ih I A v2 v3 v4 (v5 ||| (A 10 (v2 + v6).toNatClampNeg)) (v6 + 1) (some (A 10 (v2 + v6).toNatClampNeg)) (some (((A 16 (v6).toNatClampNeg) &&& (v5 ^^^ ((-1)))) &&& v4)) h13
        · try simp only [if_neg q12]
          exact B_X1_firstWrong_r26_r10_62 Ln I A v2 v3 v4 v5 v6 (A 10 (v2 + v6).toNatClampNeg) (((A 16 (v6).toNatClampNeg) &&& (v5 ^^^ ((-1)))) &&& v4) 
def V_X1_firstWrong_r26_r10 (Ln : Nat) (I A : Nat → Nat → Int32) (v2 : Int32) (v3 : Int32) (v4 : Int32) : Int32 := LA_X1_firstWrong_r26_r10_6 1000 Ln I A v2 v3 v4 0 0 none none
def P_X1_firstWrong_r26_r10 (Ln : Nat) (I A : Nat → Nat → Int32) (v2 : Int32) (v3 : Int32) (v4 : Int32) : Prop := PLA_X1_firstWrong_r26_r10_6 1000 Ln I A v2 v3 v4 0 0 none none
set_option maxRecDepth 100000 in
theorem M_X1_firstWrong_r26_r10 (Ln : Nat) (I A : Nat → Nat → Int32) (v2 : Int32) (v3 : Int32) (v4 : Int32) (h : P_X1_firstWrong_r26_r10 Ln I A v2 v3 v4) : zEv 10 0 0 0 [some (.ref 26), some (.ref 10), some (.int v2), some (.int v3), some (.int v4), none, none, none, none] [] (zGs Ln I A) (some (.int (V_X1_firstWrong_r26_r10 Ln I A v2 v3 v4)), zGs Ln (I) (A)) := by
  unfold P_X1_firstWrong_r26_r10 at h
  unfold V_X1_firstWrong_r26_r10
  refine B_X1_firstWrong_r26_r10_0 Ln I A v2 v3 v4  ?_
  exact MLA_X1_firstWrong_r26_r10_6 1000 Ln I A v2 v3 v4 0 0 none none h
def V_X5_mayStand (Ln : Nat) (I A : Nat → Nat → Int32) (v0 : Int32) (v1 : Int32) (v2 : Int32) : Int32 := if 5 ≤ v0 then (if 41 ≤ v0 then 0 else (if (V_X5_mayStandInPart Ln I A ((v0 - 5) - (v0 - 5) / 6 * 6) v1) = 0 then 0 else 1)) else (V_X5_mayStandInHead Ln I A v0 v1 v2)
set_option maxRecDepth 100000 in
theorem M_X5_mayStand (Ln : Nat) (I A : Nat → Nat → Int32) (v0 : Int32) (v1 : Int32) (v2 : Int32) : zEv 27 0 0 0 [some (.int v0), some (.int v1), some (.int v2)] [] (zGs Ln I A) (some (.int (V_X5_mayStand Ln I A v0 v1 v2)), zGs Ln (I) (A)) := by
  unfold V_X5_mayStand
  refine B_X5_mayStand_0 Ln I A v0 v1 v2  (fun q0 => ?_) (fun q0 => ?_)
  · try simp only [if_pos q0]
    refine B_X5_mayStand_12 Ln I A v0 v1 v2  (fun q1 => ?_) (fun q1 => ?_)
    · try simp only [if_pos q1]
      refine B_X5_mayStand_35 Ln I A v0 v1 v2  ?_
      exact B_X5_mayStand_36_s1 Ln I A v0 v1 v2 0 
    · try simp only [if_neg q1]
      refine B_X5_mayStand_18 Ln I A v0 v1 v2  (M_X5_mayStandInPart Ln I A ((v0 - 5) - (v0 - 5) / 6 * 6) v1 ) rfl ?_
      refine B_X5_mayStand_28_s1 Ln I A v0 v1 v2 (V_X5_mayStandInPart Ln I A ((v0 - 5) - (v0 - 5) / 6 * 6) v1)  (fun q2 => ?_) (fun q2 => ?_)
      · try simp only [if_pos q2]
        refine B_X5_mayStand_35 Ln I A v0 v1 v2  ?_
        exact B_X5_mayStand_36_s1 Ln I A v0 v1 v2 0 
      · try simp only [if_neg q2]
        refine B_X5_mayStand_31 Ln I A v0 v1 v2  ?_
        exact B_X5_mayStand_36_s1 Ln I A v0 v1 v2 1 
  · try simp only [if_neg q0]
    refine B_X5_mayStand_5 Ln I A v0 v1 v2  (M_X5_mayStandInHead Ln I A v0 v1 v2 ) rfl ?_
    exact B_X5_mayStand_11_s1 Ln I A v0 v1 v2 (V_X5_mayStandInHead Ln I A v0 v1 v2) 
def V_X7_least_r1 (Ln : Nat) (I A : Nat → Nat → Int32) : Int32 := if (V_X7_noBank_r1 Ln I A ) = 0 then (V_X1_leastWaiting_r26 Ln I A (V_X0_whoPays_r11_r42 Ln I A )) else (-3)
def SA_X7_least_r1 (Ln : Nat) (I A : Nat → Nat → Int32) : Nat → Nat → Int32 := if (V_X7_noBank_r1 Ln I A ) = 0 then (SA_X1_leastWaiting_r26 Ln I A (V_X0_whoPays_r11_r42 Ln I A )) else A
def P_X7_least_r1 (Ln : Nat) (I A : Nat → Nat → Int32) : Prop := ((V_X7_noBank_r1 Ln I A ) = 0 → ((P_X0_whoPays_r11_r42 Ln I A ) ∧ (P_X1_leastWaiting_r26 Ln I A (V_X0_whoPays_r11_r42 Ln I A )))) ∧ (¬ ((V_X7_noBank_r1 Ln I A ) = 0) → True)
set_option maxRecDepth 100000 in
theorem M_X7_least_r1 (Ln : Nat) (I A : Nat → Nat → Int32) (h : P_X7_least_r1 Ln I A) : zEv 58 0 0 0 [some (.ref 1)] [] (zGs Ln I A) (some (.int (V_X7_least_r1 Ln I A)), zGs Ln (I) (SA_X7_least_r1 Ln I A)) := by
  unfold P_X7_least_r1 at h
  unfold V_X7_least_r1 SA_X7_least_r1
  refine B_X7_least_r1_0 Ln I A   (M_X7_noBank_r1 Ln I A  ) rfl ?_
  refine B_X7_least_r1_4_s1 Ln I A (V_X7_noBank_r1 Ln I A )  (fun q4 => ?_) (fun q4 => ?_)
  · try simp only [if_pos q4]
    have h5 := h.1 q4
    obtain ⟨g6_0, r7_⟩ := h5
    refine B_X7_least_r1_12 Ln I A   (M_X0_whoPays_r11_r42 Ln I A  g6_0) rfl ?_
    refine B_X7_least_r1_27_s2 Ln I A (V_X0_whoPays_r11_r42 Ln I A )  (M_X1_leastWaiting_r26 Ln I A (V_X0_whoPays_r11_r42 Ln I A ) r7_) rfl ?_
    exact B_X7_least_r1_30_s1 Ln I (SA_X1_leastWaiting_r26 Ln I A (V_X0_whoPays_r11_r42 Ln I A )) (V_X1_leastWaiting_r26 Ln I A (V_X0_whoPays_r11_r42 Ln I A )) 
  · try simp only [if_neg q4]
    refine B_X7_least_r1_7 Ln I A   ?_
    exact B_X7_least_r1_30_s1 Ln I A (-3) 
def LA_X7_laws_r1_27 : Nat → (Ln : Nat) → (I A : Nat → Nat → Int32) → Int32 → Int32 → Int32 → Int32 × (Nat → Nat → Int32)
  | 0, Ln, I, A, v1, v2, v3 => (0, A)
  | m + 1, Ln, I, A, v1, v2, v3 => if 3 ≤ v3 then (v2, A) else (if v1 < (V_X6_longestWait_r35 Ln I (SA_X6_goThrough_r35_r42 Ln I A v3) ) then (LA_X7_laws_r1_27 m Ln I (SA_X6_goThrough_r35_r42 Ln I A v3) v1 v2 (v3 + 1)) else (LA_X7_laws_r1_27 m Ln I (SA_X6_goThrough_r35_r42 Ln I A v3) v1 (v2 ||| (1 <<< (v3 &&& 31))) (v3 + 1)))
def PLA_X7_laws_r1_27 : Nat → (Ln : Nat) → (I A : Nat → Nat → Int32) → Int32 → Int32 → Int32 → Prop
  | 0, Ln, I, A, v1, v2, v3 => False
  | m + 1, Ln, I, A, v1, v2, v3 => (3 ≤ v3 → True) ∧ (¬ (3 ≤ v3) → ((P_X6_goThrough_r35_r42 Ln I A v3) ∧ ((P_X6_longestWait_r35 Ln I (SA_X6_goThrough_r35_r42 Ln I A v3) ) ∧ ((v1 < (V_X6_longestWait_r35 Ln I (SA_X6_goThrough_r35_r42 Ln I A v3) ) → (PLA_X7_laws_r1_27 m Ln I (SA_X6_goThrough_r35_r42 Ln I A v3) v1 v2 (v3 + 1))) ∧ (¬ (v1 < (V_X6_longestWait_r35 Ln I (SA_X6_goThrough_r35_r42 Ln I A v3) )) → (PLA_X7_laws_r1_27 m Ln I (SA_X6_goThrough_r35_r42 Ln I A v3) v1 (v2 ||| (1 <<< (v3 &&& 31))) (v3 + 1)))))))
set_option maxRecDepth 100000 in
theorem MLA_X7_laws_r1_27 (m Ln : Nat) : ∀ (I A : Nat → Nat → Int32) (v1 : Int32) (v2 : Int32) (v3 : Int32), PLA_X7_laws_r1_27 m Ln I A v1 v2 v3 → zEv 59 27 0 0 [some (.ref 1), some (.int v1), some (.int v2), some (.int v3)] [] (zGs Ln I A) (some (.int (LA_X7_laws_r1_27 m Ln I A v1 v2 v3).1), zGs Ln I (LA_X7_laws_r1_27 m Ln I A v1 v2 v3).2) := by
  induction m with
  | zero => intro I A v1 v2 v3 h; exact h.elim
  | succ m ih =>
    intro I A v1 v2 v3 h
    simp only [PLA_X7_laws_r1_27] at h
    simp only [LA_X7_laws_r1_27]
    refine B_X7_laws_r1_27 Ln I A v1 v2 v3  (fun q2 => ?_) (fun q2 => ?_)
    · try simp only [if_pos q2]
      exact B_X7_laws_r1_67 Ln I A v1 v2 v3 
    · try simp only [if_neg q2]
      have h3 := h.2 q2
      obtain ⟨g4_0, r5_⟩ := h3
      refine B_X7_laws_r1_32 Ln I A v1 v2 v3  (M_X6_goThrough_r35_r42 Ln I A v3 g4_0) rfl ?_
      obtain ⟨g6_0, r7_⟩ := r5_
      refine B_X7_laws_r1_44 Ln I (SA_X6_goThrough_r35_r42 Ln I A v3) v1 v2 v3  (M_X6_longestWait_r35 Ln I (SA_X6_goThrough_r35_r42 Ln I A v3)  g6_0) rfl ?_
      refine B_X7_laws_r1_51_s1 Ln I (SA_X6_goThrough_r35_r42 Ln I A v3) v1 v2 v3 (V_X6_longestWait_r35 Ln I (SA_X6_goThrough_r35_r42 Ln I A v3) )  (fun q10 => ?_) (fun q10 => ?_)
      · try simp only [if_pos q10]
        have h11 := r7_.1 q10
        refine B_X7_laws_r1_61 Ln I (SA_X6_goThrough_r35_r42 Ln I A v3) v1 v2 v3  ?_
        exact ih I (SA_X6_goThrough_r35_r42 Ln I A v3) v1 v2 (v3 + 1) h11
      · try simp only [if_neg q10]
        have h14 := r7_.2 q10
        refine B_X7_laws_r1_55 Ln I (SA_X6_goThrough_r35_r42 Ln I A v3) v1 v2 v3  ?_
        refine B_X7_laws_r1_61 Ln I (SA_X6_goThrough_r35_r42 Ln I A v3) v1 (v2 ||| (1 <<< (v3 &&& 31))) v3  ?_
        exact ih I (SA_X6_goThrough_r35_r42 Ln I A v3) v1 (v2 ||| (1 <<< (v3 &&& 31))) (v3 + 1) h14
def V_X7_laws_r1 (Ln : Nat) (I A : Nat → Nat → Int32) (v1 : Int32) : Int32 := if v1 < 0 then (-2) else (if v1 ≤ 60 then (if (V_X7_noBank_r1 Ln I A ) = 0 then ((LA_X7_laws_r1_27 1000 Ln I A v1 0 0).1) else (-3)) else (-2))
def SA_X7_laws_r1 (Ln : Nat) (I A : Nat → Nat → Int32) (v1 : Int32) : Nat → Nat → Int32 := if v1 < 0 then A else (if v1 ≤ 60 then (if (V_X7_noBank_r1 Ln I A ) = 0 then ((LA_X7_laws_r1_27 1000 Ln I A v1 0 0).2) else A) else A)
def P_X7_laws_r1 (Ln : Nat) (I A : Nat → Nat → Int32) (v1 : Int32) : Prop := (v1 < 0 → True) ∧ (¬ (v1 < 0) → ((v1 ≤ 60 → (((V_X7_noBank_r1 Ln I A ) = 0 → (PLA_X7_laws_r1_27 1000 Ln I A v1 0 0)) ∧ (¬ ((V_X7_noBank_r1 Ln I A ) = 0) → True))) ∧ (¬ (v1 ≤ 60) → True)))
set_option maxRecDepth 100000 in
theorem M_X7_laws_r1 (Ln : Nat) (I A : Nat → Nat → Int32) (v1 : Int32) (h : P_X7_laws_r1 Ln I A v1) : zEv 59 0 0 0 [some (.ref 1), some (.int v1), none, none] [] (zGs Ln I A) (some (.int (V_X7_laws_r1 Ln I A v1)), zGs Ln (I) (SA_X7_laws_r1 Ln I A v1)) := by
  unfold P_X7_laws_r1 at h
  unfold V_X7_laws_r1 SA_X7_laws_r1
  refine B_X7_laws_r1_0 Ln I A v1  (fun q2 => ?_) (fun q2 => ?_)
  · try simp only [if_pos q2]
    exact B_X7_laws_r1_10 Ln I A v1 
  · try simp only [if_neg q2]
    have h3 := h.2 q2
    refine B_X7_laws_r1_4 Ln I A v1  (fun q6 => ?_) (fun q6 => ?_)
    · try simp only [if_pos q6]
      have h7 := h3.1 q6
      refine B_X7_laws_r1_13 Ln I A v1  (M_X7_noBank_r1 Ln I A  ) rfl ?_
      refine B_X7_laws_r1_17_s1 Ln I A v1 (V_X7_noBank_r1 Ln I A )  (fun q12 => ?_) (fun q12 => ?_)
      · try simp only [if_pos q12]
        have h13 := h7.1 q12
        refine B_X7_laws_r1_23 Ln I A v1  ?_
        exact MLA_X7_laws_r1_27 1000 Ln I A v1 0 0 h13
      · try simp only [if_neg q12]
        exact B_X7_laws_r1_20 Ln I A v1 
    · try simp only [if_neg q6]
      exact B_X7_laws_r1_10 Ln I A v1 
def LA_X7_favours_r1_28 : Nat → (Ln : Nat) → (I A : Nat → Nat → Int32) → Int32 → Int32 → Int32 × (Nat → Nat → Int32)
  | 0, Ln, I, A, v1, v2 => (0, A)
  | m + 1, Ln, I, A, v1, v2 => if 9 < v2 then ((-9), A) else (if ((SA_X6_goThrough_r35_r43 Ln I (zw (zcp A 42 43 0 0 6) 43 ((v1).toNatClampNeg) ((((zcp A 42 43 0 0 6) 43) (v1).toNatClampNeg) + (v2 - (V_X2_lentTo_r18 Ln I (zcp A 42 43 0 0 6) v1)))) (I 1 9)) 36 (v1).toNatClampNeg) = ((-9)) then (LA_X7_favours_r1_28 m Ln I (SA_X6_goThrough_r35_r43 Ln I (zw (zcp A 42 43 0 0 6) 43 ((v1).toNatClampNeg) ((((zcp A 42 43 0 0 6) 43) (v1).toNatClampNeg) + (v2 - (V_X2_lentTo_r18 Ln I (zcp A 42 43 0 0 6) v1)))) (I 1 9)) v1 (v2 + 1)) else (v2, (SA_X6_goThrough_r35_r43 Ln I (zw (zcp A 42 43 0 0 6) 43 ((v1).toNatClampNeg) ((((zcp A 42 43 0 0 6) 43) (v1).toNatClampNeg) + (v2 - (V_X2_lentTo_r18 Ln I (zcp A 42 43 0 0 6) v1)))) (I 1 9))))
def PLA_X7_favours_r1_28 : Nat → (Ln : Nat) → (I A : Nat → Nat → Int32) → Int32 → Int32 → Prop
  | 0, Ln, I, A, v1, v2 => False
  | m + 1, Ln, I, A, v1, v2 => (9 < v2 → True) ∧ (¬ (9 < v2) → ((zin v1 6 = true) ∧ (P_X2_lentTo_r18 Ln I (zcp A 42 43 0 0 6) v1) ∧ ((zin v1 6 = true) ∧ (P_X6_goThrough_r35_r43 Ln I (zw (zcp A 42 43 0 0 6) 43 ((v1).toNatClampNeg) ((((zcp A 42 43 0 0 6) 43) (v1).toNatClampNeg) + (v2 - (V_X2_lentTo_r18 Ln I (zcp A 42 43 0 0 6) v1)))) (I 1 9)) ∧ ((zin v1 6 = true) ∧ ((((SA_X6_goThrough_r35_r43 Ln I (zw (zcp A 42 43 0 0 6) 43 ((v1).toNatClampNeg) ((((zcp A 42 43 0 0 6) 43) (v1).toNatClampNeg) + (v2 - (V_X2_lentTo_r18 Ln I (zcp A 42 43 0 0 6) v1)))) (I 1 9)) 36 (v1).toNatClampNeg) = ((-9)) → (PLA_X7_favours_r1_28 m Ln I (SA_X6_goThrough_r35_r43 Ln I (zw (zcp A 42 43 0 0 6) 43 ((v1).toNatClampNeg) ((((zcp A 42 43 0 0 6) 43) (v1).toNatClampNeg) + (v2 - (V_X2_lentTo_r18 Ln I (zcp A 42 43 0 0 6) v1)))) (I 1 9)) v1 (v2 + 1))) ∧ (¬ (((SA_X6_goThrough_r35_r43 Ln I (zw (zcp A 42 43 0 0 6) 43 ((v1).toNatClampNeg) ((((zcp A 42 43 0 0 6) 43) (v1).toNatClampNeg) + (v2 - (V_X2_lentTo_r18 Ln I (zcp A 42 43 0 0 6) v1)))) (I 1 9)) 36 (v1).toNatClampNeg) = ((-9))) → True))))))
set_option maxRecDepth 100000 in
theorem MLA_X7_favours_r1_28 (m Ln : Nat) : ∀ (I A : Nat → Nat → Int32) (v1 : Int32) (v2 : Int32), PLA_X7_favours_r1_28 m Ln I A v1 v2 → zEv 61 28 0 0 [some (.ref 1), some (.int v1), some (.int v2)] [] (zGs Ln I A) (some (.int (LA_X7_favours_r1_28 m Ln I A v1 v2).1), zGs Ln I (LA_X7_favours_r1_28 m Ln I A v1 v2).2) := by
  induction m with
  | zero => intro I A v1 v2 h; exact h.elim
  | succ m ih =>
    intro I A v1 v2 h
    simp only [PLA_X7_favours_r1_28] at h
    simp only [LA_X7_favours_r1_28]
    refine B_X7_favours_r1_28 Ln I A v1 v2  (fun q2 => ?_) (fun q2 => ?_)
    · try simp only [if_pos q2]
      exact B_X7_favours_r1_105 Ln I A v1 v2 
    · try simp only [if_neg q2]
      have h3 := h.2 q2
      obtain ⟨g4_0, g4_1, r5_⟩ := h3
      refine B_X7_favours_r1_34 Ln I A v1 v2 g4_0 (M_X2_lentTo_r18 Ln I (zcp A 42 43 0 0 6) v1 g4_1) rfl ?_
      obtain ⟨g6_0, g6_1, r7_⟩ := r5_
      refine B_X7_favours_r1_65_s5 Ln I (zcp A 42 43 0 0 6) v1 v2 v1 (((zcp A 42 43 0 0 6) 43) (v1).toNatClampNeg) v2 (V_X2_lentTo_r18 Ln I (zcp A 42 43 0 0 6) v1) g6_0 (M_X6_goThrough_r35_r43 Ln I (zw (zcp A 42 43 0 0 6) 43 ((v1).toNatClampNeg) ((((zcp A 42 43 0 0 6) 43) (v1).toNatClampNeg) + (v2 - (V_X2_lentTo_r18 Ln I (zcp A 42 43 0 0 6) v1)))) (I 1 9) g6_1) rfl ?_
      obtain ⟨g8_0, r9_⟩ := r7_
      refine B_X7_favours_r1_83 Ln I (SA_X6_goThrough_r35_r43 Ln I (zw (zcp A 42 43 0 0 6) 43 ((v1).toNatClampNeg) ((((zcp A 42 43 0 0 6) 43) (v1).toNatClampNeg) + (v2 - (V_X2_lentTo_r18 Ln I (zcp A 42 43 0 0 6) v1)))) (I 1 9)) v1 v2 g8_0 (fun q10 => ?_) (fun q10 => ?_)
      · try simp only [if_pos q10]
        have h11 := r9_.1 q10
        refine B_X7_favours_r1_99 Ln I (SA_X6_goThrough_r35_r43 Ln I (zw (zcp A 42 43 0 0 6) 43 ((v1).toNatClampNeg) ((((zcp A 42 43 0 0 6) 43) (v1).toNatClampNeg) + (v2 - (V_X2_lentTo_r18 Ln I (zcp A 42 43 0 0 6) v1)))) (I 1 9)) v1 v2  ?_
        exact ih I (SA_X6_goThrough_r35_r43 Ln I (zw (zcp A 42 43 0 0 6) 43 ((v1).toNatClampNeg) ((((zcp A 42 43 0 0 6) 43) (v1).toNatClampNeg) + (v2 - (V_X2_lentTo_r18 Ln I (zcp A 42 43 0 0 6) v1)))) (I 1 9)) v1 (v2 + 1) h11
      · try simp only [if_neg q10]
        exact B_X7_favours_r1_97 Ln I (SA_X6_goThrough_r35_r43 Ln I (zw (zcp A 42 43 0 0 6) 43 ((v1).toNatClampNeg) ((((zcp A 42 43 0 0 6) 43) (v1).toNatClampNeg) + (v2 - (V_X2_lentTo_r18 Ln I (zcp A 42 43 0 0 6) v1)))) (I 1 9)) v1 v2 
def V_X7_favours_r1 (Ln : Nat) (I A : Nat → Nat → Int32) (v1 : Int32) : Int32 := if (V_X7_isShade_r1 Ln I A v1) ≠ 0 then (if (A 12 (v1).toNatClampNeg) = 2 then ((LA_X7_favours_r1_28 1000 Ln I A v1 0).1) else (-3)) else (-1)
def SA_X7_favours_r1 (Ln : Nat) (I A : Nat → Nat → Int32) (v1 : Int32) : Nat → Nat → Int32 := if (V_X7_isShade_r1 Ln I A v1) ≠ 0 then (if (A 12 (v1).toNatClampNeg) = 2 then ((LA_X7_favours_r1_28 1000 Ln I A v1 0).2) else A) else A
def P_X7_favours_r1 (Ln : Nat) (I A : Nat → Nat → Int32) (v1 : Int32) : Prop := ((V_X7_isShade_r1 Ln I A v1) ≠ 0 → ((zin v1 6 = true) ∧ (((A 12 (v1).toNatClampNeg) = 2 → (PLA_X7_favours_r1_28 1000 Ln I A v1 0)) ∧ (¬ ((A 12 (v1).toNatClampNeg) = 2) → True)))) ∧ (¬ ((V_X7_isShade_r1 Ln I A v1) ≠ 0) → True)
set_option maxRecDepth 100000 in
theorem M_X7_favours_r1 (Ln : Nat) (I A : Nat → Nat → Int32) (v1 : Int32) (h : P_X7_favours_r1 Ln I A v1) : zEv 61 0 0 0 [some (.ref 1), some (.int v1), none] [] (zGs Ln I A) (some (.int (V_X7_favours_r1 Ln I A v1)), zGs Ln (I) (SA_X7_favours_r1 Ln I A v1)) := by
  unfold P_X7_favours_r1 at h
  unfold V_X7_favours_r1 SA_X7_favours_r1
  refine B_X7_favours_r1_0 Ln I A v1  (M_X7_isShade_r1 Ln I A v1 ) rfl ?_
  refine B_X7_favours_r1_5_s1 Ln I A v1 (V_X7_isShade_r1 Ln I A v1)  (fun q4 => ?_) (fun q4 => ?_)
  · try simp only [if_pos q4]
    have h5 := h.1 q4
    obtain ⟨g6_0, r7_⟩ := h5
    refine B_X7_favours_r1_10 Ln I A v1 g6_0 (fun q8 => ?_) (fun q8 => ?_)
    · try simp only [if_pos q8]
      have h9 := r7_.1 q8
      refine B_X7_favours_r1_26 Ln I A v1  ?_
      exact MLA_X7_favours_r1_28 1000 Ln I A v1 0 h9
    · try simp only [if_neg q8]
      exact B_X7_favours_r1_23 Ln I A v1 
  · try simp only [if_neg q4]
    exact B_X7_favours_r1_8 Ln I A v1 
def LA_X7_rules_r1_14 : Nat → (Ln : Nat) → (I A : Nat → Nat → Int32) → Int32 → Int32 → Int32 × (Nat → Nat → Int32)
  | 0, Ln, I, A, v1, v2 => (0, A)
  | m + 1, Ln, I, A, v1, v2 => if 3 ≤ v2 then (v1, A) else (if (V_X3_allSo_r22_r35 Ln I (SA_X6_goThrough_r35_r42 Ln I A v2) ) = 0 then (LA_X7_rules_r1_14 m Ln I (SA_X6_goThrough_r35_r42 Ln I A v2) v1 (v2 + 1)) else (LA_X7_rules_r1_14 m Ln I (SA_X6_goThrough_r35_r42 Ln I A v2) (v1 ||| (1 <<< (v2 &&& 31))) (v2 + 1)))
def PLA_X7_rules_r1_14 : Nat → (Ln : Nat) → (I A : Nat → Nat → Int32) → Int32 → Int32 → Prop
  | 0, Ln, I, A, v1, v2 => False
  | m + 1, Ln, I, A, v1, v2 => (3 ≤ v2 → True) ∧ (¬ (3 ≤ v2) → ((P_X6_goThrough_r35_r42 Ln I A v2) ∧ ((P_X3_allSo_r22_r35 Ln I (SA_X6_goThrough_r35_r42 Ln I A v2) ) ∧ (((V_X3_allSo_r22_r35 Ln I (SA_X6_goThrough_r35_r42 Ln I A v2) ) = 0 → (PLA_X7_rules_r1_14 m Ln I (SA_X6_goThrough_r35_r42 Ln I A v2) v1 (v2 + 1))) ∧ (¬ ((V_X3_allSo_r22_r35 Ln I (SA_X6_goThrough_r35_r42 Ln I A v2) ) = 0) → (PLA_X7_rules_r1_14 m Ln I (SA_X6_goThrough_r35_r42 Ln I A v2) (v1 ||| (1 <<< (v2 &&& 31))) (v2 + 1)))))))
set_option maxRecDepth 100000 in
theorem MLA_X7_rules_r1_14 (m Ln : Nat) : ∀ (I A : Nat → Nat → Int32) (v1 : Int32) (v2 : Int32), PLA_X7_rules_r1_14 m Ln I A v1 v2 → zEv 65 14 0 0 [some (.ref 1), some (.int v1), some (.int v2)] [] (zGs Ln I A) (some (.int (LA_X7_rules_r1_14 m Ln I A v1 v2).1), zGs Ln I (LA_X7_rules_r1_14 m Ln I A v1 v2).2) := by
  induction m with
  | zero => intro I A v1 v2 h; exact h.elim
  | succ m ih =>
    intro I A v1 v2 h
    simp only [PLA_X7_rules_r1_14] at h
    simp only [LA_X7_rules_r1_14]
    refine B_X7_rules_r1_14 Ln I A v1 v2  (fun q2 => ?_) (fun q2 => ?_)
    · try simp only [if_pos q2]
      exact B_X7_rules_r1_57 Ln I A v1 v2 
    · try simp only [if_neg q2]
      have h3 := h.2 q2
      obtain ⟨g4_0, r5_⟩ := h3
      refine B_X7_rules_r1_19 Ln I A v1 v2  (M_X6_goThrough_r35_r42 Ln I A v2 g4_0) rfl ?_
      obtain ⟨g6_0, r7_⟩ := r5_
      refine B_X7_rules_r1_31 Ln I (SA_X6_goThrough_r35_r42 Ln I A v2) v1 v2  (M_X3_allSo_r22_r35 Ln I (SA_X6_goThrough_r35_r42 Ln I A v2)  g6_0) rfl ?_
      refine B_X7_rules_r1_42_s1 Ln I (SA_X6_goThrough_r35_r42 Ln I A v2) v1 v2 (V_X3_allSo_r22_r35 Ln I (SA_X6_goThrough_r35_r42 Ln I A v2) )  (fun q10 => ?_) (fun q10 => ?_)
      · try simp only [if_pos q10]
        have h11 := r7_.1 q10
        refine B_X7_rules_r1_51 Ln I (SA_X6_goThrough_r35_r42 Ln I A v2) v1 v2  ?_
        exact ih I (SA_X6_goThrough_r35_r42 Ln I A v2) v1 (v2 + 1) h11
      · try simp only [if_neg q10]
        have h14 := r7_.2 q10
        refine B_X7_rules_r1_45 Ln I (SA_X6_goThrough_r35_r42 Ln I A v2) v1 v2  ?_
        refine B_X7_rules_r1_51 Ln I (SA_X6_goThrough_r35_r42 Ln I A v2) (v1 ||| (1 <<< (v2 &&& 31))) v2  ?_
        exact ih I (SA_X6_goThrough_r35_r42 Ln I A v2) (v1 ||| (1 <<< (v2 &&& 31))) (v2 + 1) h14
def V_X7_rules_r1 (Ln : Nat) (I A : Nat → Nat → Int32) : Int32 := if (V_X7_noBank_r1 Ln I A ) = 0 then ((LA_X7_rules_r1_14 1000 Ln I A 0 0).1) else (-3)
def SA_X7_rules_r1 (Ln : Nat) (I A : Nat → Nat → Int32) : Nat → Nat → Int32 := if (V_X7_noBank_r1 Ln I A ) = 0 then ((LA_X7_rules_r1_14 1000 Ln I A 0 0).2) else A
def P_X7_rules_r1 (Ln : Nat) (I A : Nat → Nat → Int32) : Prop := ((V_X7_noBank_r1 Ln I A ) = 0 → (PLA_X7_rules_r1_14 1000 Ln I A 0 0)) ∧ (¬ ((V_X7_noBank_r1 Ln I A ) = 0) → True)
set_option maxRecDepth 100000 in
theorem M_X7_rules_r1 (Ln : Nat) (I A : Nat → Nat → Int32) (h : P_X7_rules_r1 Ln I A) : zEv 65 0 0 0 [some (.ref 1), none, none] [] (zGs Ln I A) (some (.int (V_X7_rules_r1 Ln I A)), zGs Ln (I) (SA_X7_rules_r1 Ln I A)) := by
  unfold P_X7_rules_r1 at h
  unfold V_X7_rules_r1 SA_X7_rules_r1
  refine B_X7_rules_r1_0 Ln I A   (M_X7_noBank_r1 Ln I A  ) rfl ?_
  refine B_X7_rules_r1_4_s1 Ln I A (V_X7_noBank_r1 Ln I A )  (fun q4 => ?_) (fun q4 => ?_)
  · try simp only [if_pos q4]
    have h5 := h.1 q4
    refine B_X7_rules_r1_10 Ln I A   ?_
    exact MLA_X7_rules_r1_14 1000 Ln I A 0 0 h5
  · try simp only [if_neg q4]
    exact B_X7_rules_r1_7 Ln I A  
def LA_X7_goThroughNights_r1_2 : Nat → (Ln : Nat) → (I A : Nat → Nat → Int32) → Int32 → (Nat → Nat → Int32)
  | 0, Ln, I, A, v1 => A
  | m + 1, Ln, I, A, v1 => if (I 11 0) ≤ v1 then (SA_X6_goThrough_r28_r42 Ln I A (I 1 9)) else (LA_X7_goThroughNights_r1_2 m Ln I (zw A 42 ((v1).toNatClampNeg) (((A 13 (v1).toNatClampNeg) - (V_X2_lentBy_r18 Ln I A v1)) + (V_X2_lentTo_r18 Ln I A v1))) (v1 + 1))
def PLA_X7_goThroughNights_r1_2 : Nat → (Ln : Nat) → (I A : Nat → Nat → Int32) → Int32 → Prop
  | 0, Ln, I, A, v1 => False
  | m + 1, Ln, I, A, v1 => ((I 11 0) ≤ v1 → (P_X6_goThrough_r28_r42 Ln I A (I 1 9))) ∧ (¬ ((I 11 0) ≤ v1) → ((zin v1 6 = true) ∧ (P_X2_lentBy_r18 Ln I A v1) ∧ ((P_X2_lentTo_r18 Ln I A v1) ∧ ((zin v1 6 = true) ∧ (PLA_X7_goThroughNights_r1_2 m Ln I (zw A 42 ((v1).toNatClampNeg) (((A 13 (v1).toNatClampNeg) - (V_X2_lentBy_r18 Ln I A v1)) + (V_X2_lentTo_r18 Ln I A v1))) (v1 + 1))))))
set_option maxRecDepth 100000 in
theorem MLA_X7_goThroughNights_r1_2 (m Ln : Nat) : ∀ (I A : Nat → Nat → Int32) (v1 : Int32), PLA_X7_goThroughNights_r1_2 m Ln I A v1 → zEv 85 2 0 0 [some (.ref 1), some (.int v1)] [] (zGs Ln I A) (none, zGs Ln I (LA_X7_goThroughNights_r1_2 m Ln I A v1)) := by
  induction m with
  | zero => intro I A v1 h; exact h.elim
  | succ m ih =>
    intro I A v1 h
    simp only [PLA_X7_goThroughNights_r1_2] at h
    simp only [LA_X7_goThroughNights_r1_2]
    refine B_X7_goThroughNights_r1_2 Ln I A v1  (fun q2 => ?_) (fun q2 => ?_)
    · try simp only [if_pos q2]
      have h3 := h.1 q2
      refine B_X7_goThroughNights_r1_52 Ln I A v1  (M_X6_goThrough_r28_r42 Ln I A (I 1 9) h3) rfl ?_
      exact B_X7_goThroughNights_r1_67 Ln I (SA_X6_goThrough_r28_r42 Ln I A (I 1 9)) v1 
    · try simp only [if_neg q2]
      have h5 := h.2 q2
      obtain ⟨g6_0, g6_1, r7_⟩ := h5
      refine B_X7_goThroughNights_r1_13 Ln I A v1 g6_0 (M_X2_lentBy_r18 Ln I A v1 g6_1) rfl ?_
      obtain ⟨g8_0, r9_⟩ := r7_
      refine B_X7_goThroughNights_r1_35_s4 Ln I A v1 v1 (A 13 (v1).toNatClampNeg) (V_X2_lentBy_r18 Ln I A v1)  (M_X2_lentTo_r18 Ln I A v1 g8_0) rfl ?_
      obtain ⟨g10_0, r11_⟩ := r9_
      refine B_X7_goThroughNights_r1_44_s4 Ln I A v1 v1 ((A 13 (v1).toNatClampNeg) - (V_X2_lentBy_r18 Ln I A v1)) (V_X2_lentTo_r18 Ln I A v1) g10_0 ?_
      exact ih I (zw A 42 ((v1).toNatClampNeg) (((A 13 (v1).toNatClampNeg) - (V_X2_lentBy_r18 Ln I A v1)) + (V_X2_lentTo_r18 Ln I A v1))) (v1 + 1) r11_
def SA_X7_goThroughNights_r1 (Ln : Nat) (I A : Nat → Nat → Int32) : Nat → Nat → Int32 := LA_X7_goThroughNights_r1_2 1000 Ln I A 0
def P_X7_goThroughNights_r1 (Ln : Nat) (I A : Nat → Nat → Int32) : Prop := PLA_X7_goThroughNights_r1_2 1000 Ln I A 0
set_option maxRecDepth 100000 in
theorem M_X7_goThroughNights_r1 (Ln : Nat) (I A : Nat → Nat → Int32) (h : P_X7_goThroughNights_r1 Ln I A) : zEv 85 0 0 0 [some (.ref 1), none] [] (zGs Ln I A) (none, zGs Ln (I) (SA_X7_goThroughNights_r1 Ln I A)) := by
  unfold P_X7_goThroughNights_r1 at h
  unfold SA_X7_goThroughNights_r1
  refine B_X7_goThroughNights_r1_0 Ln I A   ?_
  exact MLA_X7_goThroughNights_r1_2 1000 Ln I A 0 h
def SA_X7_tryLoan_r1 (Ln : Nat) (I A : Nat → Nat → Int32) (v1 : Int32) (v2 : Int32) : Nat → Nat → Int32 := (SA_X6_goThrough_r35_r43 Ln I (zw (zw (zcp A 42 43 0 0 6) 43 ((v1).toNatClampNeg) ((((zcp A 42 43 0 0 6) 43) (v1).toNatClampNeg) - 1)) 43 ((v2).toNatClampNeg) ((((zw (zcp A 42 43 0 0 6) 43 ((v1).toNatClampNeg) ((((zcp A 42 43 0 0 6) 43) (v1).toNatClampNeg) - 1)) 43) (v2).toNatClampNeg) + 1)) (I 1 9))
def P_X7_tryLoan_r1 (Ln : Nat) (I A : Nat → Nat → Int32) (v1 : Int32) (v2 : Int32) : Prop := (zin v1 6 = true) ∧ (zin v1 6 = true) ∧ (zin v2 6 = true) ∧ (zin v2 6 = true) ∧ (P_X6_goThrough_r35_r43 Ln I (zw (zw (zcp A 42 43 0 0 6) 43 ((v1).toNatClampNeg) ((((zcp A 42 43 0 0 6) 43) (v1).toNatClampNeg) - 1)) 43 ((v2).toNatClampNeg) ((((zw (zcp A 42 43 0 0 6) 43 ((v1).toNatClampNeg) ((((zcp A 42 43 0 0 6) 43) (v1).toNatClampNeg) - 1)) 43) (v2).toNatClampNeg) + 1)) (I 1 9))
set_option maxRecDepth 100000 in
theorem M_X7_tryLoan_r1 (Ln : Nat) (I A : Nat → Nat → Int32) (v1 : Int32) (v2 : Int32) (h : P_X7_tryLoan_r1 Ln I A v1 v2) : zEv 86 0 0 0 [some (.ref 1), some (.int v1), some (.int v2)] [] (zGs Ln I A) (none, zGs Ln (I) (SA_X7_tryLoan_r1 Ln I A v1 v2)) := by
  unfold P_X7_tryLoan_r1 at h
  unfold SA_X7_tryLoan_r1
  obtain ⟨g0_0, g0_1, g0_2, g0_3, g0_4⟩ := h
  refine B_X7_tryLoan_r1_0 Ln I A v1 v2 g0_0 g0_1 g0_2 g0_3 (M_X6_goThrough_r35_r43 Ln I (zw (zw (zcp A 42 43 0 0 6) 43 ((v1).toNatClampNeg) ((((zcp A 42 43 0 0 6) 43) (v1).toNatClampNeg) - 1)) 43 ((v2).toNatClampNeg) ((((zw (zcp A 42 43 0 0 6) 43 ((v1).toNatClampNeg) ((((zcp A 42 43 0 0 6) 43) (v1).toNatClampNeg) - 1)) 43) (v2).toNatClampNeg) + 1)) (I 1 9) g0_4) rfl ?_
  exact B_X7_tryLoan_r1_50 Ln I (SA_X6_goThrough_r35_r43 Ln I (zw (zw (zcp A 42 43 0 0 6) 43 ((v1).toNatClampNeg) ((((zcp A 42 43 0 0 6) 43) (v1).toNatClampNeg) - 1)) 43 ((v2).toNatClampNeg) ((((zw (zcp A 42 43 0 0 6) 43 ((v1).toNatClampNeg) ((((zcp A 42 43 0 0 6) 43) (v1).toNatClampNeg) - 1)) 43) (v2).toNatClampNeg) + 1)) (I 1 9)) v1 v2 
