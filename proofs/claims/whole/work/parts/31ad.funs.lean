/-! methods, by program (wip/whole/gen_fun.py, gen_loop.py) -/
def LB_X0_findComing_r11_17 : Nat → (Ln : Nat) → (I A : Nat → Nat → Int32) → Int32 → Int32 → Int32 × (Nat → Nat → Int32)
  | 0, Ln, I, A, v1, v2 => (0, A)
  | m + 1, Ln, I, A, v1, v2 => if (I 11 0) ≤ v2 then (v2, A) else (if v1 < (A 15 (v2).toNatClampNeg) then (LB_X0_findComing_r11_17 m Ln I A v1 (v2 + 1)) else (LB_X0_findComing_r11_17 m Ln I (zw A 16 ((v1).toNatClampNeg) ((A 16 (v1).toNatClampNeg) ||| (1 <<< (v2 &&& 31)))) v1 (v2 + 1)))
def PLB_X0_findComing_r11_17 : Nat → (Ln : Nat) → (I A : Nat → Nat → Int32) → Int32 → Int32 → Prop
  | 0, Ln, I, A, v1, v2 => False
  | m + 1, Ln, I, A, v1, v2 => ((I 11 0) ≤ v2 → True) ∧ (¬ ((I 11 0) ≤ v2) → ((zin v2 6 = true) ∧ ((v1 < (A 15 (v2).toNatClampNeg) → (PLB_X0_findComing_r11_17 m Ln I A v1 (v2 + 1))) ∧ (¬ (v1 < (A 15 (v2).toNatClampNeg)) → ((zin v1 60 = true) ∧ (zin v1 60 = true) ∧ (PLB_X0_findComing_r11_17 m Ln I (zw A 16 ((v1).toNatClampNeg) ((A 16 (v1).toNatClampNeg) ||| (1 <<< (v2 &&& 31)))) v1 (v2 + 1)))))))
set_option maxRecDepth 100000 in
theorem MLB_X0_findComing_r11_17 (m Ln : Nat) : ∀ (I A : Nat → Nat → Int32) (v1 : Int32) (v2 : Int32) {r : zRs}, PLB_X0_findComing_r11_17 m Ln I A v1 v2 → zEv 2 53 0 0 [some (.ref 11), some (.int v1), some (.int ((LB_X0_findComing_r11_17 m Ln I A v1 v2).1))] [] (zGs Ln I (LB_X0_findComing_r11_17 m Ln I A v1 v2).2) r → zEv 2 17 0 0 [some (.ref 11), some (.int v1), some (.int v2)] [] (zGs Ln I A) r := by
  induction m with
  | zero => intro I A v1 v2 r h hk; exact h.elim
  | succ m ih =>
    intro I A v1 v2 r h hk
    simp only [PLB_X0_findComing_r11_17] at h
    simp only [LB_X0_findComing_r11_17] at hk
    refine B_X0_findComing_r11_17 Ln I A v1 v2  (fun q2 => ?_) (fun q2 => ?_)
    · try simp only [if_pos q2] at hk ⊢
      exact hk
    · try simp only [if_neg q2] at hk ⊢
      have h3 := h.2 q2
      obtain ⟨g4_0, r5_⟩ := h3
      refine B_X0_findComing_r11_25 Ln I A v1 v2 g4_0 (fun q6 => ?_) (fun q6 => ?_)
      · try simp only [if_pos q6] at hk ⊢
        have h7 := r5_.1 q6
        refine B_X0_findComing_r11_47 Ln I A v1 v2  ?_
        exact ih I A v1 (v2 + 1) h7 hk
      · try simp only [if_neg q6] at hk ⊢
        have h10 := r5_.2 q6
        obtain ⟨g11_0, g11_1, r12_⟩ := h10
        refine B_X0_findComing_r11_35 Ln I A v1 v2 g11_0 g11_1 ?_
        refine B_X0_findComing_r11_47 Ln I (zw A 16 ((v1).toNatClampNeg) ((A 16 (v1).toNatClampNeg) ||| (1 <<< (v2 &&& 31)))) v1 v2  ?_
        exact ih I (zw A 16 ((v1).toNatClampNeg) ((A 16 (v1).toNatClampNeg) ||| (1 <<< (v2 &&& 31)))) v1 (v2 + 1) r12_ hk
def LA_X0_findComing_r11_2 : Nat → (Ln : Nat) → (I A : Nat → Nat → Int32) → Int32 → (Option Int32) → (Nat → Nat → Int32)
  | 0, Ln, I, A, v1, j2 => A
  | m + 1, Ln, I, A, v1, j2 => if 60 ≤ v1 then A else (LA_X0_findComing_r11_2 m Ln I ((LB_X0_findComing_r11_17 1000 Ln I (zw A 16 ((v1).toNatClampNeg) 0) v1 0).2) (v1 + 1) (some ((LB_X0_findComing_r11_17 1000 Ln I (zw A 16 ((v1).toNatClampNeg) 0) v1 0).1)))
def PLA_X0_findComing_r11_2 : Nat → (Ln : Nat) → (I A : Nat → Nat → Int32) → Int32 → (Option Int32) → Prop
  | 0, Ln, I, A, v1, j2 => False
  | m + 1, Ln, I, A, v1, j2 => (60 ≤ v1 → True) ∧ (¬ (60 ≤ v1) → ((zin v1 60 = true) ∧ ((PLB_X0_findComing_r11_17 1000 Ln I (zw A 16 ((v1).toNatClampNeg) 0) v1 0) ∧ (PLA_X0_findComing_r11_2 m Ln I ((LB_X0_findComing_r11_17 1000 Ln I (zw A 16 ((v1).toNatClampNeg) 0) v1 0).2) (v1 + 1) (some ((LB_X0_findComing_r11_17 1000 Ln I (zw A 16 ((v1).toNatClampNeg) 0) v1 0).1))))))
set_option maxRecDepth 100000 in
theorem MLA_X0_findComing_r11_2 (m Ln : Nat) : ∀ (I A : Nat → Nat → Int32) (v1 : Int32) (j2 : Option Int32), PLA_X0_findComing_r11_2 m Ln I A v1 j2 → zEv 2 2 0 0 [some (.ref 11), some (.int v1), (Option.map Value.int j2)] [] (zGs Ln I A) (none, zGs Ln I (LA_X0_findComing_r11_2 m Ln I A v1 j2)) := by
  induction m with
  | zero => intro I A v1 j2 h; exact h.elim
  | succ m ih =>
    intro I A v1 j2 h
    simp only [PLA_X0_findComing_r11_2] at h
    simp only [LA_X0_findComing_r11_2]
    refine B_X0_findComing_r11_2 Ln I A v1 j2  (fun q2 => ?_) (fun q2 => ?_)
    · try simp only [if_pos q2]
      exact B_X0_findComing_r11_59 Ln I A v1 j2 
    · try simp only [if_neg q2]
      have h3 := h.2 q2
      obtain ⟨g4_0, r5_⟩ := h3
      refine B_X0_findComing_r11_8 Ln I A v1 j2 g4_0 ?_
      obtain ⟨b6, c6_⟩ := r5_
      refine MLB_X0_findComing_r11_17 1000 Ln I (zw A 16 ((v1).toNatClampNeg) 0) v1 0 b6 ?_
      refine B_X0_findComing_r11_53 Ln I ((LB_X0_findComing_r11_17 1000 Ln I (zw A 16 ((v1).toNatClampNeg) 0) v1 0).2) v1 ((LB_X0_findComing_r11_17 1000 Ln I (zw A 16 ((v1).toNatClampNeg) 0) v1 0).1)  ?_
      exact ih I ((LB_X0_findComing_r11_17 1000 Ln I (zw A 16 ((v1).toNatClampNeg) 0) v1 0).2) (v1 + 1) (some ((LB_X0_findComing_r11_17 1000 Ln I (zw A 16 ((v1).toNatClampNeg) 0) v1 0).1)) c6_
def SA_X0_findComing_r11 (Ln : Nat) (I A : Nat → Nat → Int32) : Nat → Nat → Int32 := LA_X0_findComing_r11_2 1000 Ln I A 0 none
def P_X0_findComing_r11 (Ln : Nat) (I A : Nat → Nat → Int32) : Prop := PLA_X0_findComing_r11_2 1000 Ln I A 0 none
set_option maxRecDepth 100000 in
theorem M_X0_findComing_r11 (Ln : Nat) (I A : Nat → Nat → Int32) (h : P_X0_findComing_r11 Ln I A) : zEv 2 0 0 0 [some (.ref 11), none, none] [] (zGs Ln I A) (none, zGs Ln (I) (SA_X0_findComing_r11 Ln I A)) := by
  unfold P_X0_findComing_r11 at h
  unfold SA_X0_findComing_r11
  refine B_X0_findComing_r11_0 Ln I A   ?_
  exact MLA_X0_findComing_r11_2 1000 Ln I A 0 none h
def LB_X0_findLoads_r11_17 : Nat → (Ln : Nat) → (I A : Nat → Nat → Int32) → Int32 → Int32 → Int32 × (Nat → Nat → Int32)
  | 0, Ln, I, A, v1, v2 => (0, A)
  | m + 1, Ln, I, A, v1, v2 => if (I 11 0) ≤ v2 then (v2, A) else (if ((v1 >>> (v2 &&& 31)) &&& 1) ≠ 1 then (LB_X0_findLoads_r11_17 m Ln I A v1 (v2 + 1)) else (LB_X0_findLoads_r11_17 m Ln I (zw A 17 ((v1).toNatClampNeg) ((A 17 (v1).toNatClampNeg) + (V_X0_heavy_r11 Ln I A v2))) v1 (v2 + 1)))
def PLB_X0_findLoads_r11_17 : Nat → (Ln : Nat) → (I A : Nat → Nat → Int32) → Int32 → Int32 → Prop
  | 0, Ln, I, A, v1, v2 => False
  | m + 1, Ln, I, A, v1, v2 => ((I 11 0) ≤ v2 → True) ∧ (¬ ((I 11 0) ≤ v2) → ((((v1 >>> (v2 &&& 31)) &&& 1) ≠ 1 → (PLB_X0_findLoads_r11_17 m Ln I A v1 (v2 + 1))) ∧ (¬ (((v1 >>> (v2 &&& 31)) &&& 1) ≠ 1) → ((zin v1 64 = true) ∧ (P_X0_heavy_r11 Ln I A v2) ∧ ((zin v1 64 = true) ∧ (PLB_X0_findLoads_r11_17 m Ln I (zw A 17 ((v1).toNatClampNeg) ((A 17 (v1).toNatClampNeg) + (V_X0_heavy_r11 Ln I A v2))) v1 (v2 + 1)))))))
set_option maxRecDepth 100000 in
theorem MLB_X0_findLoads_r11_17 (m Ln : Nat) : ∀ (I A : Nat → Nat → Int32) (v1 : Int32) (v2 : Int32) {r : zRs}, PLB_X0_findLoads_r11_17 m Ln I A v1 v2 → zEv 3 54 0 0 [some (.ref 11), some (.int v1), some (.int ((LB_X0_findLoads_r11_17 m Ln I A v1 v2).1))] [] (zGs Ln I (LB_X0_findLoads_r11_17 m Ln I A v1 v2).2) r → zEv 3 17 0 0 [some (.ref 11), some (.int v1), some (.int v2)] [] (zGs Ln I A) r := by
  induction m with
  | zero => intro I A v1 v2 r h hk; exact h.elim
  | succ m ih =>
    intro I A v1 v2 r h hk
    simp only [PLB_X0_findLoads_r11_17] at h
    simp only [LB_X0_findLoads_r11_17] at hk
    refine B_X0_findLoads_r11_17 Ln I A v1 v2  (fun q2 => ?_) (fun q2 => ?_)
    · try simp only [if_pos q2] at hk ⊢
      exact hk
    · try simp only [if_neg q2] at hk ⊢
      have h3 := h.2 q2
      refine B_X0_findLoads_r11_25 Ln I A v1 v2  (fun q6 => ?_) (fun q6 => ?_)
      · try simp only [if_pos q6] at hk ⊢
        have h7 := h3.1 q6
        refine B_X0_findLoads_r11_48 Ln I A v1 v2  ?_
        exact ih I A v1 (v2 + 1) h7 hk
      · try simp only [if_neg q6] at hk ⊢
        have h10 := h3.2 q6
        obtain ⟨g11_0, g11_1, r12_⟩ := h10
        refine B_X0_findLoads_r11_34 Ln I A v1 v2 g11_0 (M_X0_heavy_r11 Ln I A v2 g11_1) rfl ?_
        obtain ⟨g13_0, r14_⟩ := r12_
        refine B_X0_findLoads_r11_46_s4 Ln I A v1 v2 v1 (A 17 (v1).toNatClampNeg) (V_X0_heavy_r11 Ln I A v2) g13_0 ?_
        refine B_X0_findLoads_r11_48 Ln I (zw A 17 ((v1).toNatClampNeg) ((A 17 (v1).toNatClampNeg) + (V_X0_heavy_r11 Ln I A v2))) v1 v2  ?_
        exact ih I (zw A 17 ((v1).toNatClampNeg) ((A 17 (v1).toNatClampNeg) + (V_X0_heavy_r11 Ln I A v2))) v1 (v2 + 1) r14_ hk
def LA_X0_findLoads_r11_2 : Nat → (Ln : Nat) → (I A : Nat → Nat → Int32) → Int32 → (Option Int32) → (Nat → Nat → Int32)
  | 0, Ln, I, A, v1, j2 => A
  | m + 1, Ln, I, A, v1, j2 => if 64 ≤ v1 then A else (LA_X0_findLoads_r11_2 m Ln I ((LB_X0_findLoads_r11_17 1000 Ln I (zw A 17 ((v1).toNatClampNeg) 0) v1 0).2) (v1 + 1) (some ((LB_X0_findLoads_r11_17 1000 Ln I (zw A 17 ((v1).toNatClampNeg) 0) v1 0).1)))
def PLA_X0_findLoads_r11_2 : Nat → (Ln : Nat) → (I A : Nat → Nat → Int32) → Int32 → (Option Int32) → Prop
  | 0, Ln, I, A, v1, j2 => False
  | m + 1, Ln, I, A, v1, j2 => (64 ≤ v1 → True) ∧ (¬ (64 ≤ v1) → ((zin v1 64 = true) ∧ ((PLB_X0_findLoads_r11_17 1000 Ln I (zw A 17 ((v1).toNatClampNeg) 0) v1 0) ∧ (PLA_X0_findLoads_r11_2 m Ln I ((LB_X0_findLoads_r11_17 1000 Ln I (zw A 17 ((v1).toNatClampNeg) 0) v1 0).2) (v1 + 1) (some ((LB_X0_findLoads_r11_17 1000 Ln I (zw A 17 ((v1).toNatClampNeg) 0) v1 0).1))))))
set_option maxRecDepth 100000 in
theorem MLA_X0_findLoads_r11_2 (m Ln : Nat) : ∀ (I A : Nat → Nat → Int32) (v1 : Int32) (j2 : Option Int32), PLA_X0_findLoads_r11_2 m Ln I A v1 j2 → zEv 3 2 0 0 [some (.ref 11), some (.int v1), (Option.map Value.int j2)] [] (zGs Ln I A) (none, zGs Ln I (LA_X0_findLoads_r11_2 m Ln I A v1 j2)) := by
  induction m with
  | zero => intro I A v1 j2 h; exact h.elim
  | succ m ih =>
    intro I A v1 j2 h
    simp only [PLA_X0_findLoads_r11_2] at h
    simp only [LA_X0_findLoads_r11_2]
    refine B_X0_findLoads_r11_2 Ln I A v1 j2  (fun q2 => ?_) (fun q2 => ?_)
    · try simp only [if_pos q2]
      exact B_X0_findLoads_r11_60 Ln I A v1 j2 
    · try simp only [if_neg q2]
      have h3 := h.2 q2
      obtain ⟨g4_0, r5_⟩ := h3
      refine B_X0_findLoads_r11_8 Ln I A v1 j2 g4_0 ?_
      obtain ⟨b6, c6_⟩ := r5_
      refine MLB_X0_findLoads_r11_17 1000 Ln I (zw A 17 ((v1).toNatClampNeg) 0) v1 0 b6 ?_
      refine B_X0_findLoads_r11_54 Ln I ((LB_X0_findLoads_r11_17 1000 Ln I (zw A 17 ((v1).toNatClampNeg) 0) v1 0).2) v1 ((LB_X0_findLoads_r11_17 1000 Ln I (zw A 17 ((v1).toNatClampNeg) 0) v1 0).1)  ?_
      exact ih I ((LB_X0_findLoads_r11_17 1000 Ln I (zw A 17 ((v1).toNatClampNeg) 0) v1 0).2) (v1 + 1) (some ((LB_X0_findLoads_r11_17 1000 Ln I (zw A 17 ((v1).toNatClampNeg) 0) v1 0).1)) c6_
def SA_X0_findLoads_r11 (Ln : Nat) (I A : Nat → Nat → Int32) : Nat → Nat → Int32 := LA_X0_findLoads_r11_2 1000 Ln I A 0 none
def P_X0_findLoads_r11 (Ln : Nat) (I A : Nat → Nat → Int32) : Prop := PLA_X0_findLoads_r11_2 1000 Ln I A 0 none
set_option maxRecDepth 100000 in
theorem M_X0_findLoads_r11 (Ln : Nat) (I A : Nat → Nat → Int32) (h : P_X0_findLoads_r11 Ln I A) : zEv 3 0 0 0 [some (.ref 11), none, none] [] (zGs Ln I A) (none, zGs Ln (I) (SA_X0_findLoads_r11 Ln I A)) := by
  unfold P_X0_findLoads_r11 at h
  unfold SA_X0_findLoads_r11
  refine B_X0_findLoads_r11_0 Ln I A   ?_
  exact MLA_X0_findLoads_r11_2 1000 Ln I A 0 none h
def V_X5_digit_r6 (Ln : Nat) (I A : Nat → Nat → Int32) (v1 : Int32) : Int32 := (A 6 (v1).toNatClampNeg) - 48
def P_X5_digit_r6 (Ln : Nat) (I A : Nat → Nat → Int32) (v1 : Int32) : Prop := (zin v1 60 = true)
set_option maxRecDepth 100000 in
theorem M_X5_digit_r6 (Ln : Nat) (I A : Nat → Nat → Int32) (v1 : Int32) (h : P_X5_digit_r6 Ln I A v1) : zEv 32 0 0 0 [some (.ref 6), some (.int v1)] [] (zGs Ln I A) (some (.int (V_X5_digit_r6 Ln I A v1)), zGs Ln (I) (A)) := by
  unfold P_X5_digit_r6 at h
  unfold V_X5_digit_r6
  exact B_X5_digit_r6_0 Ln I A v1 h
def V_X5_twoDigits_r6 (Ln : Nat) (I A : Nat → Nat → Int32) (v1 : Int32) : Int32 := (10 * (V_X5_digit_r6 Ln I A v1)) + (V_X5_digit_r6 Ln I A (v1 + 1))
def P_X5_twoDigits_r6 (Ln : Nat) (I A : Nat → Nat → Int32) (v1 : Int32) : Prop := (P_X5_digit_r6 Ln I A v1) ∧ (P_X5_digit_r6 Ln I A (v1 + 1))
set_option maxRecDepth 100000 in
theorem M_X5_twoDigits_r6 (Ln : Nat) (I A : Nat → Nat → Int32) (v1 : Int32) (h : P_X5_twoDigits_r6 Ln I A v1) : zEv 33 0 0 0 [some (.ref 6), some (.int v1)] [] (zGs Ln I A) (some (.int (V_X5_twoDigits_r6 Ln I A v1)), zGs Ln (I) (A)) := by
  unfold P_X5_twoDigits_r6 at h
  unfold V_X5_twoDigits_r6
  obtain ⟨g0_0, r1_⟩ := h
  refine B_X5_twoDigits_r6_0 Ln I A v1  (M_X5_digit_r6 Ln I A v1 g0_0) rfl ?_
  refine B_X5_twoDigits_r6_7_s2 Ln I A v1 10 (V_X5_digit_r6 Ln I A v1)  (M_X5_digit_r6 Ln I A (v1 + 1) r1_) rfl ?_
  exact B_X5_twoDigits_r6_15_s2 Ln I A v1 (10 * (V_X5_digit_r6 Ln I A v1)) (V_X5_digit_r6 Ln I A (v1 + 1)) 
def V_X5_digit_r8 (Ln : Nat) (I A : Nat → Nat → Int32) (v1 : Int32) : Int32 := (A 8 (v1).toNatClampNeg) - 48
def P_X5_digit_r8 (Ln : Nat) (I A : Nat → Nat → Int32) (v1 : Int32) : Prop := (zin v1 60 = true)
set_option maxRecDepth 100000 in
theorem M_X5_digit_r8 (Ln : Nat) (I A : Nat → Nat → Int32) (v1 : Int32) (h : P_X5_digit_r8 Ln I A v1) : zEv 32 0 0 0 [some (.ref 8), some (.int v1)] [] (zGs Ln I A) (some (.int (V_X5_digit_r8 Ln I A v1)), zGs Ln (I) (A)) := by
  unfold P_X5_digit_r8 at h
  unfold V_X5_digit_r8
  exact B_X5_digit_r8_0 Ln I A v1 h
def V_X5_twoDigits_r8 (Ln : Nat) (I A : Nat → Nat → Int32) (v1 : Int32) : Int32 := (10 * (V_X5_digit_r8 Ln I A v1)) + (V_X5_digit_r8 Ln I A (v1 + 1))
def P_X5_twoDigits_r8 (Ln : Nat) (I A : Nat → Nat → Int32) (v1 : Int32) : Prop := (P_X5_digit_r8 Ln I A v1) ∧ (P_X5_digit_r8 Ln I A (v1 + 1))
set_option maxRecDepth 100000 in
theorem M_X5_twoDigits_r8 (Ln : Nat) (I A : Nat → Nat → Int32) (v1 : Int32) (h : P_X5_twoDigits_r8 Ln I A v1) : zEv 33 0 0 0 [some (.ref 8), some (.int v1)] [] (zGs Ln I A) (some (.int (V_X5_twoDigits_r8 Ln I A v1)), zGs Ln (I) (A)) := by
  unfold P_X5_twoDigits_r8 at h
  unfold V_X5_twoDigits_r8
  obtain ⟨g0_0, r1_⟩ := h
  refine B_X5_twoDigits_r8_0 Ln I A v1  (M_X5_digit_r8 Ln I A v1 g0_0) rfl ?_
  refine B_X5_twoDigits_r8_7_s2 Ln I A v1 10 (V_X5_digit_r8 Ln I A v1)  (M_X5_digit_r8 Ln I A (v1 + 1) r1_) rfl ?_
  exact B_X5_twoDigits_r8_15_s2 Ln I A v1 (10 * (V_X5_digit_r8 Ln I A v1)) (V_X5_digit_r8 Ln I A (v1 + 1)) 
def V_X5_digit_r10 (Ln : Nat) (I A : Nat → Nat → Int32) (v1 : Int32) : Int32 := (A 10 (v1).toNatClampNeg) - 48
def P_X5_digit_r10 (Ln : Nat) (I A : Nat → Nat → Int32) (v1 : Int32) : Prop := (zin v1 60 = true)
set_option maxRecDepth 100000 in
theorem M_X5_digit_r10 (Ln : Nat) (I A : Nat → Nat → Int32) (v1 : Int32) (h : P_X5_digit_r10 Ln I A v1) : zEv 32 0 0 0 [some (.ref 10), some (.int v1)] [] (zGs Ln I A) (some (.int (V_X5_digit_r10 Ln I A v1)), zGs Ln (I) (A)) := by
  unfold P_X5_digit_r10 at h
  unfold V_X5_digit_r10
  exact B_X5_digit_r10_0 Ln I A v1 h
def V_X5_twoDigits_r10 (Ln : Nat) (I A : Nat → Nat → Int32) (v1 : Int32) : Int32 := (10 * (V_X5_digit_r10 Ln I A v1)) + (V_X5_digit_r10 Ln I A (v1 + 1))
def P_X5_twoDigits_r10 (Ln : Nat) (I A : Nat → Nat → Int32) (v1 : Int32) : Prop := (P_X5_digit_r10 Ln I A v1) ∧ (P_X5_digit_r10 Ln I A (v1 + 1))
set_option maxRecDepth 100000 in
theorem M_X5_twoDigits_r10 (Ln : Nat) (I A : Nat → Nat → Int32) (v1 : Int32) (h : P_X5_twoDigits_r10 Ln I A v1) : zEv 33 0 0 0 [some (.ref 10), some (.int v1)] [] (zGs Ln I A) (some (.int (V_X5_twoDigits_r10 Ln I A v1)), zGs Ln (I) (A)) := by
  unfold P_X5_twoDigits_r10 at h
  unfold V_X5_twoDigits_r10
  obtain ⟨g0_0, r1_⟩ := h
  refine B_X5_twoDigits_r10_0 Ln I A v1  (M_X5_digit_r10 Ln I A v1 g0_0) rfl ?_
  refine B_X5_twoDigits_r10_7_s2 Ln I A v1 10 (V_X5_digit_r10 Ln I A v1)  (M_X5_digit_r10 Ln I A (v1 + 1) r1_) rfl ?_
  exact B_X5_twoDigits_r10_15_s2 Ln I A v1 (10 * (V_X5_digit_r10 Ln I A v1)) (V_X5_digit_r10 Ln I A (v1 + 1)) 
def LA_J7_fill_53178_r4_5 : Nat → (Ln : Nat) → (I A : Nat → Nat → Int32) → Int32 → Int32 → Int32 → (Nat → Nat → Int32)
  | 0, Ln, I, A, v1, v2, v3 => A
  | m + 1, Ln, I, A, v1, v2, v3 => if v3 ≤ v2 then A else (LA_J7_fill_53178_r4_5 m Ln I (zw A 4 ((v2).toNatClampNeg) v1) v1 (v2 + 1) v3)
def PLA_J7_fill_53178_r4_5 : Nat → (Ln : Nat) → (I A : Nat → Nat → Int32) → Int32 → Int32 → Int32 → Prop
  | 0, Ln, I, A, v1, v2, v3 => False
  | m + 1, Ln, I, A, v1, v2, v3 => (v3 ≤ v2 → True) ∧ (¬ (v3 ≤ v2) → ((zin v2 60 = true) ∧ (PLA_J7_fill_53178_r4_5 m Ln I (zw A 4 ((v2).toNatClampNeg) v1) v1 (v2 + 1) v3)))
set_option maxRecDepth 100000 in
theorem MLA_J7_fill_53178_r4_5 (m Ln : Nat) : ∀ (I A : Nat → Nat → Int32) (v1 : Int32) (v2 : Int32) (v3 : Int32), PLA_J7_fill_53178_r4_5 m Ln I A v1 v2 v3 → zEv 163 5 0 0 [some (.ref 4), some (.int v1), some (.int v2), some (.int v3)] [] (zGs Ln I A) (none, zGs Ln I (LA_J7_fill_53178_r4_5 m Ln I A v1 v2 v3)) := by
  induction m with
  | zero => intro I A v1 v2 v3 h; exact h.elim
  | succ m ih =>
    intro I A v1 v2 v3 h
    simp only [PLA_J7_fill_53178_r4_5] at h
    simp only [LA_J7_fill_53178_r4_5]
    refine B_J7_fill_53178_r4_5 Ln I A v1 v2 v3  (fun q2 => ?_) (fun q2 => ?_)
    · try simp only [if_pos q2]
      exact B_J7_fill_53178_r4_20 Ln I A v1 v2 v3 
    · try simp only [if_neg q2]
      have h3 := h.2 q2
      obtain ⟨g4_0, r5_⟩ := h3
      refine B_J7_fill_53178_r4_10 Ln I A v1 v2 v3 g4_0 ?_
      exact ih I (zw A 4 ((v2).toNatClampNeg) v1) v1 (v2 + 1) v3 r5_
def SA_J7_fill_53178_r4 (Ln : Nat) (I A : Nat → Nat → Int32) (v1 : Int32) : Nat → Nat → Int32 := LA_J7_fill_53178_r4_5 1000 Ln I A v1 0 60
def P_J7_fill_53178_r4 (Ln : Nat) (I A : Nat → Nat → Int32) (v1 : Int32) : Prop := PLA_J7_fill_53178_r4_5 1000 Ln I A v1 0 60
set_option maxRecDepth 100000 in
theorem M_J7_fill_53178_r4 (Ln : Nat) (I A : Nat → Nat → Int32) (v1 : Int32) (h : P_J7_fill_53178_r4 Ln I A v1) : zEv 163 0 0 0 [some (.ref 4), some (.int v1), none, none] [] (zGs Ln I A) (none, zGs Ln (I) (SA_J7_fill_53178_r4 Ln I A v1)) := by
  unfold P_J7_fill_53178_r4 at h
  unfold SA_J7_fill_53178_r4
  refine B_J7_fill_53178_r4_0 Ln I A v1  ?_
  exact MLA_J7_fill_53178_r4_5 1000 Ln I A v1 0 60 h
def LA_J7_fill_53178_r6_5 : Nat → (Ln : Nat) → (I A : Nat → Nat → Int32) → Int32 → Int32 → Int32 → (Nat → Nat → Int32)
  | 0, Ln, I, A, v1, v2, v3 => A
  | m + 1, Ln, I, A, v1, v2, v3 => if v3 ≤ v2 then A else (LA_J7_fill_53178_r6_5 m Ln I (zw A 6 ((v2).toNatClampNeg) v1) v1 (v2 + 1) v3)
def PLA_J7_fill_53178_r6_5 : Nat → (Ln : Nat) → (I A : Nat → Nat → Int32) → Int32 → Int32 → Int32 → Prop
  | 0, Ln, I, A, v1, v2, v3 => False
  | m + 1, Ln, I, A, v1, v2, v3 => (v3 ≤ v2 → True) ∧ (¬ (v3 ≤ v2) → ((zin v2 60 = true) ∧ (PLA_J7_fill_53178_r6_5 m Ln I (zw A 6 ((v2).toNatClampNeg) v1) v1 (v2 + 1) v3)))
set_option maxRecDepth 100000 in
theorem MLA_J7_fill_53178_r6_5 (m Ln : Nat) : ∀ (I A : Nat → Nat → Int32) (v1 : Int32) (v2 : Int32) (v3 : Int32), PLA_J7_fill_53178_r6_5 m Ln I A v1 v2 v3 → zEv 163 5 0 0 [some (.ref 6), some (.int v1), some (.int v2), some (.int v3)] [] (zGs Ln I A) (none, zGs Ln I (LA_J7_fill_53178_r6_5 m Ln I A v1 v2 v3)) := by
  induction m with
  | zero => intro I A v1 v2 v3 h; exact h.elim
  | succ m ih =>
    intro I A v1 v2 v3 h
    simp only [PLA_J7_fill_53178_r6_5] at h
    simp only [LA_J7_fill_53178_r6_5]
    refine B_J7_fill_53178_r6_5 Ln I A v1 v2 v3  (fun q2 => ?_) (fun q2 => ?_)
    · try simp only [if_pos q2]
      exact B_J7_fill_53178_r6_20 Ln I A v1 v2 v3 
    · try simp only [if_neg q2]
      have h3 := h.2 q2
      obtain ⟨g4_0, r5_⟩ := h3
      refine B_J7_fill_53178_r6_10 Ln I A v1 v2 v3 g4_0 ?_
      exact ih I (zw A 6 ((v2).toNatClampNeg) v1) v1 (v2 + 1) v3 r5_
def SA_J7_fill_53178_r6 (Ln : Nat) (I A : Nat → Nat → Int32) (v1 : Int32) : Nat → Nat → Int32 := LA_J7_fill_53178_r6_5 1000 Ln I A v1 0 60
def P_J7_fill_53178_r6 (Ln : Nat) (I A : Nat → Nat → Int32) (v1 : Int32) : Prop := PLA_J7_fill_53178_r6_5 1000 Ln I A v1 0 60
set_option maxRecDepth 100000 in
theorem M_J7_fill_53178_r6 (Ln : Nat) (I A : Nat → Nat → Int32) (v1 : Int32) (h : P_J7_fill_53178_r6 Ln I A v1) : zEv 163 0 0 0 [some (.ref 6), some (.int v1), none, none] [] (zGs Ln I A) (none, zGs Ln (I) (SA_J7_fill_53178_r6 Ln I A v1)) := by
  unfold P_J7_fill_53178_r6 at h
  unfold SA_J7_fill_53178_r6
  refine B_J7_fill_53178_r6_0 Ln I A v1  ?_
  exact MLA_J7_fill_53178_r6_5 1000 Ln I A v1 0 60 h
def LA_J7_fill_53178_r8_5 : Nat → (Ln : Nat) → (I A : Nat → Nat → Int32) → Int32 → Int32 → Int32 → (Nat → Nat → Int32)
  | 0, Ln, I, A, v1, v2, v3 => A
  | m + 1, Ln, I, A, v1, v2, v3 => if v3 ≤ v2 then A else (LA_J7_fill_53178_r8_5 m Ln I (zw A 8 ((v2).toNatClampNeg) v1) v1 (v2 + 1) v3)
def PLA_J7_fill_53178_r8_5 : Nat → (Ln : Nat) → (I A : Nat → Nat → Int32) → Int32 → Int32 → Int32 → Prop
  | 0, Ln, I, A, v1, v2, v3 => False
  | m + 1, Ln, I, A, v1, v2, v3 => (v3 ≤ v2 → True) ∧ (¬ (v3 ≤ v2) → ((zin v2 60 = true) ∧ (PLA_J7_fill_53178_r8_5 m Ln I (zw A 8 ((v2).toNatClampNeg) v1) v1 (v2 + 1) v3)))
set_option maxRecDepth 100000 in
theorem MLA_J7_fill_53178_r8_5 (m Ln : Nat) : ∀ (I A : Nat → Nat → Int32) (v1 : Int32) (v2 : Int32) (v3 : Int32), PLA_J7_fill_53178_r8_5 m Ln I A v1 v2 v3 → zEv 163 5 0 0 [some (.ref 8), some (.int v1), some (.int v2), some (.int v3)] [] (zGs Ln I A) (none, zGs Ln I (LA_J7_fill_53178_r8_5 m Ln I A v1 v2 v3)) := by
  induction m with
  | zero => intro I A v1 v2 v3 h; exact h.elim
  | succ m ih =>
    intro I A v1 v2 v3 h
    simp only [PLA_J7_fill_53178_r8_5] at h
    simp only [LA_J7_fill_53178_r8_5]
    refine B_J7_fill_53178_r8_5 Ln I A v1 v2 v3  (fun q2 => ?_) (fun q2 => ?_)
    · try simp only [if_pos q2]
      exact B_J7_fill_53178_r8_20 Ln I A v1 v2 v3 
    · try simp only [if_neg q2]
      have h3 := h.2 q2
      obtain ⟨g4_0, r5_⟩ := h3
      refine B_J7_fill_53178_r8_10 Ln I A v1 v2 v3 g4_0 ?_
      exact ih I (zw A 8 ((v2).toNatClampNeg) v1) v1 (v2 + 1) v3 r5_
def SA_J7_fill_53178_r8 (Ln : Nat) (I A : Nat → Nat → Int32) (v1 : Int32) : Nat → Nat → Int32 := LA_J7_fill_53178_r8_5 1000 Ln I A v1 0 60
def P_J7_fill_53178_r8 (Ln : Nat) (I A : Nat → Nat → Int32) (v1 : Int32) : Prop := PLA_J7_fill_53178_r8_5 1000 Ln I A v1 0 60
set_option maxRecDepth 100000 in
theorem M_J7_fill_53178_r8 (Ln : Nat) (I A : Nat → Nat → Int32) (v1 : Int32) (h : P_J7_fill_53178_r8 Ln I A v1) : zEv 163 0 0 0 [some (.ref 8), some (.int v1), none, none] [] (zGs Ln I A) (none, zGs Ln (I) (SA_J7_fill_53178_r8 Ln I A v1)) := by
  unfold P_J7_fill_53178_r8 at h
  unfold SA_J7_fill_53178_r8
  refine B_J7_fill_53178_r8_0 Ln I A v1  ?_
  exact MLA_J7_fill_53178_r8_5 1000 Ln I A v1 0 60 h
def LA_J7_fill_53178_r10_5 : Nat → (Ln : Nat) → (I A : Nat → Nat → Int32) → Int32 → Int32 → Int32 → (Nat → Nat → Int32)
  | 0, Ln, I, A, v1, v2, v3 => A
  | m + 1, Ln, I, A, v1, v2, v3 => if v3 ≤ v2 then A else (LA_J7_fill_53178_r10_5 m Ln I (zw A 10 ((v2).toNatClampNeg) v1) v1 (v2 + 1) v3)
def PLA_J7_fill_53178_r10_5 : Nat → (Ln : Nat) → (I A : Nat → Nat → Int32) → Int32 → Int32 → Int32 → Prop
  | 0, Ln, I, A, v1, v2, v3 => False
  | m + 1, Ln, I, A, v1, v2, v3 => (v3 ≤ v2 → True) ∧ (¬ (v3 ≤ v2) → ((zin v2 60 = true) ∧ (PLA_J7_fill_53178_r10_5 m Ln I (zw A 10 ((v2).toNatClampNeg) v1) v1 (v2 + 1) v3)))
set_option maxRecDepth 100000 in
theorem MLA_J7_fill_53178_r10_5 (m Ln : Nat) : ∀ (I A : Nat → Nat → Int32) (v1 : Int32) (v2 : Int32) (v3 : Int32), PLA_J7_fill_53178_r10_5 m Ln I A v1 v2 v3 → zEv 163 5 0 0 [some (.ref 10), some (.int v1), some (.int v2), some (.int v3)] [] (zGs Ln I A) (none, zGs Ln I (LA_J7_fill_53178_r10_5 m Ln I A v1 v2 v3)) := by
  induction m with
  | zero => intro I A v1 v2 v3 h; exact h.elim
  | succ m ih =>
    intro I A v1 v2 v3 h
    simp only [PLA_J7_fill_53178_r10_5] at h
    simp only [LA_J7_fill_53178_r10_5]
    refine B_J7_fill_53178_r10_5 Ln I A v1 v2 v3  (fun q2 => ?_) (fun q2 => ?_)
    · try simp only [if_pos q2]
      exact B_J7_fill_53178_r10_20 Ln I A v1 v2 v3 
    · try simp only [if_neg q2]
      have h3 := h.2 q2
      obtain ⟨g4_0, r5_⟩ := h3
      refine B_J7_fill_53178_r10_10 Ln I A v1 v2 v3 g4_0 ?_
      exact ih I (zw A 10 ((v2).toNatClampNeg) v1) v1 (v2 + 1) v3 r5_
def SA_J7_fill_53178_r10 (Ln : Nat) (I A : Nat → Nat → Int32) (v1 : Int32) : Nat → Nat → Int32 := LA_J7_fill_53178_r10_5 1000 Ln I A v1 0 60
def P_J7_fill_53178_r10 (Ln : Nat) (I A : Nat → Nat → Int32) (v1 : Int32) : Prop := PLA_J7_fill_53178_r10_5 1000 Ln I A v1 0 60
set_option maxRecDepth 100000 in
theorem M_J7_fill_53178_r10 (Ln : Nat) (I A : Nat → Nat → Int32) (v1 : Int32) (h : P_J7_fill_53178_r10 Ln I A v1) : zEv 163 0 0 0 [some (.ref 10), some (.int v1), none, none] [] (zGs Ln I A) (none, zGs Ln (I) (SA_J7_fill_53178_r10 Ln I A v1)) := by
  unfold P_J7_fill_53178_r10 at h
  unfold SA_J7_fill_53178_r10
  refine B_J7_fill_53178_r10_0 Ln I A v1  ?_
  exact MLA_J7_fill_53178_r10_5 1000 Ln I A v1 0 60 h
def V_J6_bitCount_0f7a4 (Ln : Nat) (I A : Nat → Nat → Int32) (v0 : Int32) : Int32 := (((((((v0 - (((Int32.toUInt32 v0 >>> (Int32.toUInt32 1 &&& Int32.toUInt32 31)).toInt32) &&& 1431655765)) &&& 858993459) + (((Int32.toUInt32 (v0 - (((Int32.toUInt32 v0 >>> (Int32.toUInt32 1 &&& Int32.toUInt32 31)).toInt32) &&& 1431655765)) >>> (Int32.toUInt32 2 &&& Int32.toUInt32 31)).toInt32) &&& 858993459)) + ((Int32.toUInt32 (((v0 - (((Int32.toUInt32 v0 >>> (Int32.toUInt32 1 &&& Int32.toUInt32 31)).toInt32) &&& 1431655765)) &&& 858993459) + (((Int32.toUInt32 (v0 - (((Int32.toUInt32 v0 >>> (Int32.toUInt32 1 &&& Int32.toUInt32 31)).toInt32) &&& 1431655765)) >>> (Int32.toUInt32 2 &&& Int32.toUInt32 31)).toInt32) &&& 858993459)) >>> (Int32.toUInt32 4 &&& Int32.toUInt32 31)).toInt32)) &&& 252645135) + ((Int32.toUInt32 (((((v0 - (((Int32.toUInt32 v0 >>> (Int32.toUInt32 1 &&& Int32.toUInt32 31)).toInt32) &&& 1431655765)) &&& 858993459) + (((Int32.toUInt32 (v0 - (((Int32.toUInt32 v0 >>> (Int32.toUInt32 1 &&& Int32.toUInt32 31)).toInt32) &&& 1431655765)) >>> (Int32.toUInt32 2 &&& Int32.toUInt32 31)).toInt32) &&& 858993459)) + ((Int32.toUInt32 (((v0 - (((Int32.toUInt32 v0 >>> (Int32.toUInt32 1 &&& Int32.toUInt32 31)).toInt32) &&& 1431655765)) &&& 858993459) + (((Int32.toUInt32 (v0 - (((Int32.toUInt32 v0 >>> (Int32.toUInt32 1 &&& Int32.toUInt32 31)).toInt32) &&& 1431655765)) >>> (Int32.toUInt32 2 &&& Int32.toUInt32 31)).toInt32) &&& 858993459)) >>> (Int32.toUInt32 4 &&& Int32.toUInt32 31)).toInt32)) &&& 252645135) >>> (Int32.toUInt32 8 &&& Int32.toUInt32 31)).toInt32)) + ((Int32.toUInt32 ((((((v0 - (((Int32.toUInt32 v0 >>> (Int32.toUInt32 1 &&& Int32.toUInt32 31)).toInt32) &&& 1431655765)) &&& 858993459) + (((Int32.toUInt32 (v0 - (((Int32.toUInt32 v0 >>> (Int32.toUInt32 1 &&& Int32.toUInt32 31)).toInt32) &&& 1431655765)) >>> (Int32.toUInt32 2 &&& Int32.toUInt32 31)).toInt32) &&& 858993459)) + ((Int32.toUInt32 (((v0 - (((Int32.toUInt32 v0 >>> (Int32.toUInt32 1 &&& Int32.toUInt32 31)).toInt32) &&& 1431655765)) &&& 858993459) + (((Int32.toUInt32 (v0 - (((Int32.toUInt32 v0 >>> (Int32.toUInt32 1 &&& Int32.toUInt32 31)).toInt32) &&& 1431655765)) >>> (Int32.toUInt32 2 &&& Int32.toUInt32 31)).toInt32) &&& 858993459)) >>> (Int32.toUInt32 4 &&& Int32.toUInt32 31)).toInt32)) &&& 252645135) + ((Int32.toUInt32 (((((v0 - (((Int32.toUInt32 v0 >>> (Int32.toUInt32 1 &&& Int32.toUInt32 31)).toInt32) &&& 1431655765)) &&& 858993459) + (((Int32.toUInt32 (v0 - (((Int32.toUInt32 v0 >>> (Int32.toUInt32 1 &&& Int32.toUInt32 31)).toInt32) &&& 1431655765)) >>> (Int32.toUInt32 2 &&& Int32.toUInt32 31)).toInt32) &&& 858993459)) + ((Int32.toUInt32 (((v0 - (((Int32.toUInt32 v0 >>> (Int32.toUInt32 1 &&& Int32.toUInt32 31)).toInt32) &&& 1431655765)) &&& 858993459) + (((Int32.toUInt32 (v0 - (((Int32.toUInt32 v0 >>> (Int32.toUInt32 1 &&& Int32.toUInt32 31)).toInt32) &&& 1431655765)) >>> (Int32.toUInt32 2 &&& Int32.toUInt32 31)).toInt32) &&& 858993459)) >>> (Int32.toUInt32 4 &&& Int32.toUInt32 31)).toInt32)) &&& 252645135) >>> (Int32.toUInt32 8 &&& Int32.toUInt32 31)).toInt32)) >>> (Int32.toUInt32 16 &&& Int32.toUInt32 31)).toInt32)) &&& 63
set_option maxRecDepth 100000 in
theorem M_J6_bitCount_0f7a4 (Ln : Nat) (I A : Nat → Nat → Int32) (v0 : Int32) : zEv 162 0 0 0 [some (.int v0)] [] (zGs Ln I A) (some (.int (V_J6_bitCount_0f7a4 Ln I A v0)), zGs Ln (I) (A)) := by
  unfold V_J6_bitCount_0f7a4
  exact B_J6_bitCount_0f7a4_0 Ln I A v0 
def V_X6_rank_r35_r42 (Ln : Nat) (I A : Nat → Nat → Int32) (v1 : Int32) (v3 : Int32) : Int32 := if (v3 : Int32).toInt = 1 then (V_X0_heavy_r11 Ln I A v1) else (if (v3 : Int32).toInt = 2 then (-(A 42 (v1).toNatClampNeg)) else (A 15 (v1).toNatClampNeg))
def P_X6_rank_r35_r42 (Ln : Nat) (I A : Nat → Nat → Int32) (v1 : Int32) (v3 : Int32) : Prop := ((v3 : Int32).toInt = 1 → (P_X0_heavy_r11 Ln I A v1)) ∧ ((v3 : Int32).toInt = 2 → (zin v1 6 = true)) ∧ (¬ (v3 : Int32).toInt = 1 → ¬ (v3 : Int32).toInt = 2 → (zin v1 6 = true))
set_option maxRecDepth 100000 in
theorem M_X6_rank_r35_r42 (Ln : Nat) (I A : Nat → Nat → Int32) (v1 : Int32) (v3 : Int32) (h : P_X6_rank_r35_r42 Ln I A v1 v3) : zEv 37 0 0 0 [some (.ref 35), some (.int v1), some (.ref 42), some (.int v3)] [] (zGs Ln I A) (some (.int (V_X6_rank_r35_r42 Ln I A v1 v3)), zGs Ln (I) (A)) := by
  unfold P_X6_rank_r35_r42 at h
  unfold V_X6_rank_r35_r42
  refine B_X6_rank_r35_r42_0 Ln I A v1 v3  (fun c0 => ?_) (fun c1 => ?_) (fun c0 c1 => ?_)
  ·  try simp only [if_pos c0]
    have h2 := h.1 c0
    refine B_X6_rank_r35_r42_28 Ln I A v1 v3  (M_X0_heavy_r11 Ln I A v1 h2) rfl ?_
    exact B_X6_rank_r35_r42_36_s1 Ln I A v1 v3 (V_X0_heavy_r11 Ln I A v1) 
  · have n0 : ¬ (v3 : Int32).toInt = 1 := (fun q => absurd (q.symm.trans c1) (by decide)); try simp only [if_neg n0, if_pos c1]
    have h4 := h.2.1 c1
    exact B_X6_rank_r35_r42_37 Ln I A v1 v3 h4
  · try simp only [if_neg c0, if_neg c1]
    have h6 := h.2.2 c0 c1
    exact B_X6_rank_r35_r42_42 Ln I A v1 v3 h6
def V_X6_rank_r35_r43 (Ln : Nat) (I A : Nat → Nat → Int32) (v1 : Int32) (v3 : Int32) : Int32 := if (v3 : Int32).toInt = 1 then (V_X0_heavy_r11 Ln I A v1) else (if (v3 : Int32).toInt = 2 then (-(A 43 (v1).toNatClampNeg)) else (A 15 (v1).toNatClampNeg))
def P_X6_rank_r35_r43 (Ln : Nat) (I A : Nat → Nat → Int32) (v1 : Int32) (v3 : Int32) : Prop := ((v3 : Int32).toInt = 1 → (P_X0_heavy_r11 Ln I A v1)) ∧ ((v3 : Int32).toInt = 2 → (zin v1 6 = true)) ∧ (¬ (v3 : Int32).toInt = 1 → ¬ (v3 : Int32).toInt = 2 → (zin v1 6 = true))
set_option maxRecDepth 100000 in
theorem M_X6_rank_r35_r43 (Ln : Nat) (I A : Nat → Nat → Int32) (v1 : Int32) (v3 : Int32) (h : P_X6_rank_r35_r43 Ln I A v1 v3) : zEv 37 0 0 0 [some (.ref 35), some (.int v1), some (.ref 43), some (.int v3)] [] (zGs Ln I A) (some (.int (V_X6_rank_r35_r43 Ln I A v1 v3)), zGs Ln (I) (A)) := by
  unfold P_X6_rank_r35_r43 at h
  unfold V_X6_rank_r35_r43
  refine B_X6_rank_r35_r43_0 Ln I A v1 v3  (fun c0 => ?_) (fun c1 => ?_) (fun c0 c1 => ?_)
  ·  try simp only [if_pos c0]
    have h2 := h.1 c0
    refine B_X6_rank_r35_r43_28 Ln I A v1 v3  (M_X0_heavy_r11 Ln I A v1 h2) rfl ?_
    exact B_X6_rank_r35_r43_36_s1 Ln I A v1 v3 (V_X0_heavy_r11 Ln I A v1) 
  · have n0 : ¬ (v3 : Int32).toInt = 1 := (fun q => absurd (q.symm.trans c1) (by decide)); try simp only [if_neg n0, if_pos c1]
    have h4 := h.2.1 c1
    exact B_X6_rank_r35_r43_37 Ln I A v1 v3 h4
  · try simp only [if_neg c0, if_neg c1]
    have h6 := h.2.2 c0 c1
    exact B_X6_rank_r35_r43_42 Ln I A v1 v3 h6
def V_X6_rank_r28_r42 (Ln : Nat) (I A : Nat → Nat → Int32) (v1 : Int32) (v3 : Int32) : Int32 := if (v3 : Int32).toInt = 1 then (V_X0_heavy_r11 Ln I A v1) else (if (v3 : Int32).toInt = 2 then (-(A 42 (v1).toNatClampNeg)) else (A 15 (v1).toNatClampNeg))
def P_X6_rank_r28_r42 (Ln : Nat) (I A : Nat → Nat → Int32) (v1 : Int32) (v3 : Int32) : Prop := ((v3 : Int32).toInt = 1 → (P_X0_heavy_r11 Ln I A v1)) ∧ ((v3 : Int32).toInt = 2 → (zin v1 6 = true)) ∧ (¬ (v3 : Int32).toInt = 1 → ¬ (v3 : Int32).toInt = 2 → (zin v1 6 = true))
set_option maxRecDepth 100000 in
theorem M_X6_rank_r28_r42 (Ln : Nat) (I A : Nat → Nat → Int32) (v1 : Int32) (v3 : Int32) (h : P_X6_rank_r28_r42 Ln I A v1 v3) : zEv 37 0 0 0 [some (.ref 28), some (.int v1), some (.ref 42), some (.int v3)] [] (zGs Ln I A) (some (.int (V_X6_rank_r28_r42 Ln I A v1 v3)), zGs Ln (I) (A)) := by
  unfold P_X6_rank_r28_r42 at h
  unfold V_X6_rank_r28_r42
  refine B_X6_rank_r28_r42_0 Ln I A v1 v3  (fun c0 => ?_) (fun c1 => ?_) (fun c0 c1 => ?_)
  ·  try simp only [if_pos c0]
    have h2 := h.1 c0
    refine B_X6_rank_r28_r42_28 Ln I A v1 v3  (M_X0_heavy_r11 Ln I A v1 h2) rfl ?_
    exact B_X6_rank_r28_r42_36_s1 Ln I A v1 v3 (V_X0_heavy_r11 Ln I A v1) 
  · have n0 : ¬ (v3 : Int32).toInt = 1 := (fun q => absurd (q.symm.trans c1) (by decide)); try simp only [if_neg n0, if_pos c1]
    have h4 := h.2.1 c1
    exact B_X6_rank_r28_r42_37 Ln I A v1 v3 h4
  · try simp only [if_neg c0, if_neg c1]
    have h6 := h.2.2 c0 c1
    exact B_X6_rank_r28_r42_42 Ln I A v1 v3 h6
def V_X5_isDigit (Ln : Nat) (I A : Nat → Nat → Int32) (v0 : Int32) (v1 : Int32) (v2 : Int32) : Int32 := if v0 < (48 + v1) then 0 else (if (48 + v2) < v0 then 0 else 1)
set_option maxRecDepth 100000 in
theorem M_X5_isDigit (Ln : Nat) (I A : Nat → Nat → Int32) (v0 : Int32) (v1 : Int32) (v2 : Int32) : zEv 30 0 0 0 [some (.int v0), some (.int v1), some (.int v2)] [] (zGs Ln I A) (some (.int (V_X5_isDigit Ln I A v0 v1 v2)), zGs Ln (I) (A)) := by
  unfold V_X5_isDigit
  refine B_X5_isDigit_0 Ln I A v0 v1 v2  (fun q0 => ?_) (fun q0 => ?_)
  · try simp only [if_pos q0]
    refine B_X5_isDigit_20 Ln I A v0 v1 v2  ?_
    exact B_X5_isDigit_21_s1 Ln I A v0 v1 v2 0 
  · try simp only [if_neg q0]
    refine B_X5_isDigit_8 Ln I A v0 v1 v2  (fun q1 => ?_) (fun q1 => ?_)
    · try simp only [if_pos q1]
      refine B_X5_isDigit_20 Ln I A v0 v1 v2  ?_
      exact B_X5_isDigit_21_s1 Ln I A v0 v1 v2 0 
    · try simp only [if_neg q1]
      refine B_X5_isDigit_16 Ln I A v0 v1 v2  ?_
      exact B_X5_isDigit_21_s1 Ln I A v0 v1 v2 1 
def V_X7_ofShade_r1 (Ln : Nat) (I A : Nat → Nat → Int32) (v1 : Int32) (v2 : Int32) : Int32 := if (V_X7_isShade_r1 Ln I A v1) ≠ 0 then (if (v2 : Int32).toInt = 0 then (A 12 (v1).toNatClampNeg) else (if (v2 : Int32).toInt = 1 then (A 13 (v1).toNatClampNeg) else (if (v2 : Int32).toInt = 2 then (A 14 (v1).toNatClampNeg) else (if (v2 : Int32).toInt = 3 then (A 15 (v1).toNatClampNeg) else (if (v2 : Int32).toInt = 4 then (V_X0_price_r11 Ln I A v1) else (if (v2 : Int32).toInt = 5 then (V_X0_heavy_r11 Ln I A v1) else (if (v2 : Int32).toInt = 6 then (A 42 (v1).toNatClampNeg) else (-2)))))))) else (-1)
def P_X7_ofShade_r1 (Ln : Nat) (I A : Nat → Nat → Int32) (v1 : Int32) (v2 : Int32) : Prop := ((V_X7_isShade_r1 Ln I A v1) ≠ 0 → (((v2 : Int32).toInt = 0 → (zin v1 6 = true)) ∧ ((v2 : Int32).toInt = 1 → (zin v1 6 = true)) ∧ ((v2 : Int32).toInt = 2 → (zin v1 6 = true)) ∧ ((v2 : Int32).toInt = 3 → (zin v1 6 = true)) ∧ ((v2 : Int32).toInt = 4 → (P_X0_price_r11 Ln I A v1)) ∧ ((v2 : Int32).toInt = 5 → (P_X0_heavy_r11 Ln I A v1)) ∧ ((v2 : Int32).toInt = 6 → (zin v1 6 = true)) ∧ (¬ (v2 : Int32).toInt = 0 → ¬ (v2 : Int32).toInt = 1 → ¬ (v2 : Int32).toInt = 2 → ¬ (v2 : Int32).toInt = 3 → ¬ (v2 : Int32).toInt = 4 → ¬ (v2 : Int32).toInt = 5 → ¬ (v2 : Int32).toInt = 6 → True))) ∧ (¬ ((V_X7_isShade_r1 Ln I A v1) ≠ 0) → True)
set_option maxRecDepth 100000 in
theorem M_X7_ofShade_r1 (Ln : Nat) (I A : Nat → Nat → Int32) (v1 : Int32) (v2 : Int32) (h : P_X7_ofShade_r1 Ln I A v1 v2) : zEv 47 0 0 0 [some (.ref 1), some (.int v1), some (.int v2)] [] (zGs Ln I A) (some (.int (V_X7_ofShade_r1 Ln I A v1 v2)), zGs Ln (I) (A)) := by
  unfold P_X7_ofShade_r1 at h
  unfold V_X7_ofShade_r1
  refine B_X7_ofShade_r1_0 Ln I A v1 v2  (M_X7_isShade_r1 Ln I A v1 ) rfl ?_
  refine B_X7_ofShade_r1_5_s1 Ln I A v1 v2 (V_X7_isShade_r1 Ln I A v1)  (fun q4 => ?_) (fun q4 => ?_)
  · try simp only [if_pos q4]
    have h5 := h.1 q4
    refine B_X7_ofShade_r1_10 Ln I A v1 v2  (fun c0 => ?_) (fun c1 => ?_) (fun c2 => ?_) (fun c3 => ?_) (fun c4 => ?_) (fun c5 => ?_) (fun c6 => ?_) (fun c0 c1 c2 c3 c4 c5 c6 => ?_)
    ·  try simp only [if_pos c0]
      have h8 := h5.1 c0
      exact B_X7_ofShade_r1_52 Ln I A v1 v2 h8
    · have n0 : ¬ (v2 : Int32).toInt = 0 := (fun q => absurd (q.symm.trans c1) (by decide)); try simp only [if_neg n0, if_pos c1]
      have h10 := h5.2.1 c1
      exact B_X7_ofShade_r1_62 Ln I A v1 v2 h10
    · have n0 : ¬ (v2 : Int32).toInt = 0 := (fun q => absurd (q.symm.trans c2) (by decide)); have n1 : ¬ (v2 : Int32).toInt = 1 := (fun q => absurd (q.symm.trans c2) (by decide)); try simp only [if_neg n0, if_neg n1, if_pos c2]
      have h12 := h5.2.2.1 c2
      exact B_X7_ofShade_r1_72 Ln I A v1 v2 h12
    · have n0 : ¬ (v2 : Int32).toInt = 0 := (fun q => absurd (q.symm.trans c3) (by decide)); have n1 : ¬ (v2 : Int32).toInt = 1 := (fun q => absurd (q.symm.trans c3) (by decide)); have n2 : ¬ (v2 : Int32).toInt = 2 := (fun q => absurd (q.symm.trans c3) (by decide)); try simp only [if_neg n0, if_neg n1, if_neg n2, if_pos c3]
      have h14 := h5.2.2.2.1 c3
      exact B_X7_ofShade_r1_82 Ln I A v1 v2 h14
    · have n0 : ¬ (v2 : Int32).toInt = 0 := (fun q => absurd (q.symm.trans c4) (by decide)); have n1 : ¬ (v2 : Int32).toInt = 1 := (fun q => absurd (q.symm.trans c4) (by decide)); have n2 : ¬ (v2 : Int32).toInt = 2 := (fun q => absurd (q.symm.trans c4) (by decide)); have n3 : ¬ (v2 : Int32).toInt = 3 := (fun q => absurd (q.symm.trans c4) (by decide)); try simp only [if_neg n0, if_neg n1, if_neg n2, if_neg n3, if_pos c4]
      have h16 := h5.2.2.2.2.1 c4
      refine B_X7_ofShade_r1_92 Ln I A v1 v2  (M_X0_price_r11 Ln I A v1 h16) rfl ?_
      exact B_X7_ofShade_r1_100_s1 Ln I A v1 v2 (V_X0_price_r11 Ln I A v1) 
    · have n0 : ¬ (v2 : Int32).toInt = 0 := (fun q => absurd (q.symm.trans c5) (by decide)); have n1 : ¬ (v2 : Int32).toInt = 1 := (fun q => absurd (q.symm.trans c5) (by decide)); have n2 : ¬ (v2 : Int32).toInt = 2 := (fun q => absurd (q.symm.trans c5) (by decide)); have n3 : ¬ (v2 : Int32).toInt = 3 := (fun q => absurd (q.symm.trans c5) (by decide)); have n4 : ¬ (v2 : Int32).toInt = 4 := (fun q => absurd (q.symm.trans c5) (by decide)); try simp only [if_neg n0, if_neg n1, if_neg n2, if_neg n3, if_neg n4, if_pos c5]
      have h18 := h5.2.2.2.2.2.1 c5
      refine B_X7_ofShade_r1_101 Ln I A v1 v2  (M_X0_heavy_r11 Ln I A v1 h18) rfl ?_
      exact B_X7_ofShade_r1_109_s1 Ln I A v1 v2 (V_X0_heavy_r11 Ln I A v1) 
    · have n0 : ¬ (v2 : Int32).toInt = 0 := (fun q => absurd (q.symm.trans c6) (by decide)); have n1 : ¬ (v2 : Int32).toInt = 1 := (fun q => absurd (q.symm.trans c6) (by decide)); have n2 : ¬ (v2 : Int32).toInt = 2 := (fun q => absurd (q.symm.trans c6) (by decide)); have n3 : ¬ (v2 : Int32).toInt = 3 := (fun q => absurd (q.symm.trans c6) (by decide)); have n4 : ¬ (v2 : Int32).toInt = 4 := (fun q => absurd (q.symm.trans c6) (by decide)); have n5 : ¬ (v2 : Int32).toInt = 5 := (fun q => absurd (q.symm.trans c6) (by decide)); try simp only [if_neg n0, if_neg n1, if_neg n2, if_neg n3, if_neg n4, if_neg n5, if_pos c6]
      have h20 := h5.2.2.2.2.2.2.1 c6
      exact B_X7_ofShade_r1_110 Ln I A v1 v2 h20
    · try simp only [if_neg c0, if_neg c1, if_neg c2, if_neg c3, if_neg c4, if_neg c5, if_neg c6]
      exact B_X7_ofShade_r1_117 Ln I A v1 v2 
  · try simp only [if_neg q4]
    exact B_X7_ofShade_r1_8 Ln I A v1 v2 
def V_X7_over_r1 (Ln : Nat) (I A : Nat → Nat → Int32) (v1 : Int32) : Int32 := if (V_X7_isShade_r1 Ln I A v1) = 0 then (-1) else (A 29 (v1).toNatClampNeg)
def P_X7_over_r1 (Ln : Nat) (I A : Nat → Nat → Int32) (v1 : Int32) : Prop := ((V_X7_isShade_r1 Ln I A v1) = 0 → True) ∧ (¬ ((V_X7_isShade_r1 Ln I A v1) = 0) → (zin v1 6 = true))
set_option maxRecDepth 100000 in
theorem M_X7_over_r1 (Ln : Nat) (I A : Nat → Nat → Int32) (v1 : Int32) (h : P_X7_over_r1 Ln I A v1) : zEv 51 0 0 0 [some (.ref 1), some (.int v1)] [] (zGs Ln I A) (some (.int (V_X7_over_r1 Ln I A v1)), zGs Ln (I) (A)) := by
  unfold P_X7_over_r1 at h
  unfold V_X7_over_r1
  refine B_X7_over_r1_0 Ln I A v1  (M_X7_isShade_r1 Ln I A v1 ) rfl ?_
  refine B_X7_over_r1_5_s1 Ln I A v1 (V_X7_isShade_r1 Ln I A v1)  (fun q4 => ?_) (fun q4 => ?_)
  · try simp only [if_pos q4]
    refine B_X7_over_r1_20 Ln I A v1  ?_
    exact B_X7_over_r1_21_s1 Ln I A v1 (-1) 
  · try simp only [if_neg q4]
    have h5 := h.2 q4
    refine B_X7_over_r1_8 Ln I A v1 h5 ?_
    exact B_X7_over_r1_21_s1 Ln I A v1 (A 29 (v1).toNatClampNeg) 
def V_X7_waits_r1 (Ln : Nat) (I A : Nat → Nat → Int32) (v1 : Int32) : Int32 := if (V_X7_isShade_r1 Ln I A v1) = 0 then (-1) else (V_X6_waitOf_r28 Ln I A v1)
def P_X7_waits_r1 (Ln : Nat) (I A : Nat → Nat → Int32) (v1 : Int32) : Prop := ((V_X7_isShade_r1 Ln I A v1) = 0 → True) ∧ (¬ ((V_X7_isShade_r1 Ln I A v1) = 0) → (P_X6_waitOf_r28 Ln I A v1))
set_option maxRecDepth 100000 in
theorem M_X7_waits_r1 (Ln : Nat) (I A : Nat → Nat → Int32) (v1 : Int32) (h : P_X7_waits_r1 Ln I A v1) : zEv 55 0 0 0 [some (.ref 1), some (.int v1)] [] (zGs Ln I A) (some (.int (V_X7_waits_r1 Ln I A v1)), zGs Ln (I) (A)) := by
  unfold P_X7_waits_r1 at h
  unfold V_X7_waits_r1
  refine B_X7_waits_r1_0 Ln I A v1  (M_X7_isShade_r1 Ln I A v1 ) rfl ?_
  refine B_X7_waits_r1_5_s1 Ln I A v1 (V_X7_isShade_r1 Ln I A v1)  (fun q4 => ?_) (fun q4 => ?_)
  · try simp only [if_pos q4]
    refine B_X7_waits_r1_19 Ln I A v1  ?_
    exact B_X7_waits_r1_20_s1 Ln I A v1 (-1) 
  · try simp only [if_neg q4]
    have h5 := h.2 q4
    refine B_X7_waits_r1_8 Ln I A v1  (M_X6_waitOf_r28 Ln I A v1 h5) rfl ?_
    refine B_X7_waits_r1_16_s1 Ln I A v1 (V_X6_waitOf_r28 Ln I A v1)  ?_
    exact B_X7_waits_r1_20_s1 Ln I A v1 (V_X6_waitOf_r28 Ln I A v1) 
def V_X7_allWait_r1 (Ln : Nat) (I A : Nat → Nat → Int32) : Int32 := if (V_X7_noBank_r1 Ln I A ) = 0 then (V_X6_waitOfAll_r28 Ln I A ) else (-3)
def P_X7_allWait_r1 (Ln : Nat) (I A : Nat → Nat → Int32) : Prop := ((V_X7_noBank_r1 Ln I A ) = 0 → (P_X6_waitOfAll_r28 Ln I A )) ∧ (¬ ((V_X7_noBank_r1 Ln I A ) = 0) → True)
set_option maxRecDepth 100000 in
theorem M_X7_allWait_r1 (Ln : Nat) (I A : Nat → Nat → Int32) (h : P_X7_allWait_r1 Ln I A) : zEv 56 0 0 0 [some (.ref 1)] [] (zGs Ln I A) (some (.int (V_X7_allWait_r1 Ln I A)), zGs Ln (I) (A)) := by
  unfold P_X7_allWait_r1 at h
  unfold V_X7_allWait_r1
  refine B_X7_allWait_r1_0 Ln I A   (M_X7_noBank_r1 Ln I A  ) rfl ?_
  refine B_X7_allWait_r1_4_s1 Ln I A (V_X7_noBank_r1 Ln I A )  (fun q4 => ?_) (fun q4 => ?_)
  · try simp only [if_pos q4]
    have h5 := h.1 q4
    refine B_X7_allWait_r1_12 Ln I A   (M_X6_waitOfAll_r28 Ln I A  h5) rfl ?_
    exact B_X7_allWait_r1_19_s1 Ln I A (V_X6_waitOfAll_r28 Ln I A ) 
  · try simp only [if_neg q4]
    refine B_X7_allWait_r1_7 Ln I A   ?_
    exact B_X7_allWait_r1_19_s1 Ln I A (-3) 
def V_X7_reading_r1 (Ln : Nat) (I A : Nat → Nat → Int32) (v1 : Int32) (v2 : Int32) (v3 : Int32) : Int32 := if (V_X7_isShade_r1 Ln I A v1) = 0 then (-1) else (if (V_X7_isNight Ln I A v2) ≠ 0 then (if (I 22 3) ≠ 6 then (V_X3_add_r22 Ln I A v1 v2 v3) else (-4)) else (-1))
def SI_X7_reading_r1 (Ln : Nat) (I A : Nat → Nat → Int32) (v1 : Int32) (v2 : Int32) (v3 : Int32) : Nat → Nat → Int32 := if (V_X7_isShade_r1 Ln I A v1) = 0 then I else (if (V_X7_isNight Ln I A v2) ≠ 0 then (if (I 22 3) ≠ 6 then (SI_X3_add_r22 Ln I A v1 v2 v3) else I) else I)
def SA_X7_reading_r1 (Ln : Nat) (I A : Nat → Nat → Int32) (v1 : Int32) (v2 : Int32) (v3 : Int32) : Nat → Nat → Int32 := if (V_X7_isShade_r1 Ln I A v1) = 0 then A else (if (V_X7_isNight Ln I A v2) ≠ 0 then (if (I 22 3) ≠ 6 then (SA_X3_add_r22 Ln I A v1 v2 v3) else A) else A)
def P_X7_reading_r1 (Ln : Nat) (I A : Nat → Nat → Int32) (v1 : Int32) (v2 : Int32) (v3 : Int32) : Prop := ((V_X7_isShade_r1 Ln I A v1) = 0 → True) ∧ (¬ ((V_X7_isShade_r1 Ln I A v1) = 0) → (((V_X7_isNight Ln I A v2) ≠ 0 → (((I 22 3) ≠ 6 → (P_X3_add_r22 Ln I A v1 v2 v3)) ∧ (¬ ((I 22 3) ≠ 6) → True))) ∧ (¬ ((V_X7_isNight Ln I A v2) ≠ 0) → True)))
set_option maxRecDepth 100000 in
theorem M_X7_reading_r1 (Ln : Nat) (I A : Nat → Nat → Int32) (v1 : Int32) (v2 : Int32) (v3 : Int32) (h : P_X7_reading_r1 Ln I A v1 v2 v3) : zEv 62 0 0 0 [some (.ref 1), some (.int v1), some (.int v2), some (.int v3)] [] (zGs Ln I A) (some (.int (V_X7_reading_r1 Ln I A v1 v2 v3)), zGs Ln (SI_X7_reading_r1 Ln I A v1 v2 v3) (SA_X7_reading_r1 Ln I A v1 v2 v3)) := by
  unfold P_X7_reading_r1 at h
  unfold V_X7_reading_r1 SI_X7_reading_r1 SA_X7_reading_r1
  refine B_X7_reading_r1_0 Ln I A v1 v2 v3  (M_X7_isShade_r1 Ln I A v1 ) rfl ?_
  refine B_X7_reading_r1_5_s1 Ln I A v1 v2 v3 (V_X7_isShade_r1 Ln I A v1)  (fun q4 => ?_) (fun q4 => ?_)
  · try simp only [if_pos q4]
    exact B_X7_reading_r1_15 Ln I A v1 v2 v3 
  · try simp only [if_neg q4]
    have h5 := h.2 q4
    refine B_X7_reading_r1_8 Ln I A v1 v2 v3  (M_X7_isNight Ln I A v2 ) rfl ?_
    refine B_X7_reading_r1_12_s1 Ln I A v1 v2 v3 (V_X7_isNight Ln I A v2)  (fun q10 => ?_) (fun q10 => ?_)
    · try simp only [if_pos q10]
      have h11 := h5.1 q10
      refine B_X7_reading_r1_17 Ln I A v1 v2 v3  (fun q14 => ?_) (fun q14 => ?_)
      · try simp only [if_pos q14]
        have h15 := h11.1 q14
        refine B_X7_reading_r1_32 Ln I A v1 v2 v3  (M_X3_add_r22 Ln I A v1 v2 v3 h15) rfl ?_
        exact B_X7_reading_r1_42_s1 Ln (SI_X3_add_r22 Ln I A v1 v2 v3) (SA_X3_add_r22 Ln I A v1 v2 v3) v1 v2 v3 (V_X3_add_r22 Ln I A v1 v2 v3) 
      · try simp only [if_neg q14]
        exact B_X7_reading_r1_29 Ln I A v1 v2 v3 
    · try simp only [if_neg q10]
      exact B_X7_reading_r1_15 Ln I A v1 v2 v3 
