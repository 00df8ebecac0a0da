/-! methods, by program (wip/whole/gen_fun.py, gen_loop.py) -/
def LB_X6_lineUp_r35_r42_16 : Nat → (Ln : Nat) → (I A : Nat → Nat → Int32) → Int32 → Int32 → Int32 → Int32 × (Nat → Nat → Int32)
  | 0, Ln, I, A, v2, v3, v4 => (0, A)
  | m + 1, Ln, I, A, v2, v3, v4 => if v4 ≤ 0 then (v4, A) else (if (V_X6_rank_r35_r42 Ln I A (A 40 (v4 - 1).toNatClampNeg) v2) ≤ (V_X6_rank_r35_r42 Ln I A v3 v2) then (v4, A) else (LB_X6_lineUp_r35_r42_16 m Ln I (zw A 40 ((v4).toNatClampNeg) (A 40 (v4 - 1).toNatClampNeg)) v2 v3 (v4 + (Int32.ofInt (-1)))))
def PLB_X6_lineUp_r35_r42_16 : Nat → (Ln : Nat) → (I A : Nat → Nat → Int32) → Int32 → Int32 → Int32 → Prop
  | 0, Ln, I, A, v2, v3, v4 => False
  | m + 1, Ln, I, A, v2, v3, v4 => (v4 ≤ 0 → True) ∧ (¬ (v4 ≤ 0) → ((zin (v4 - 1) 6 = true) ∧ (P_X6_rank_r35_r42 Ln I A (A 40 (v4 - 1).toNatClampNeg) v2) ∧ ((P_X6_rank_r35_r42 Ln I A v3 v2) ∧ (((V_X6_rank_r35_r42 Ln I A (A 40 (v4 - 1).toNatClampNeg) v2) ≤ (V_X6_rank_r35_r42 Ln I A v3 v2) → True) ∧ (¬ ((V_X6_rank_r35_r42 Ln I A (A 40 (v4 - 1).toNatClampNeg) v2) ≤ (V_X6_rank_r35_r42 Ln I A v3 v2)) → ((zin (v4 - 1) 6 = true) ∧ (zin v4 6 = true) ∧ (PLB_X6_lineUp_r35_r42_16 m Ln I (zw A 40 ((v4).toNatClampNeg) (A 40 (v4 - 1).toNatClampNeg)) v2 v3 (v4 + (Int32.ofInt (-1))))))))))
set_option maxRecDepth 100000 in
theorem MLB_X6_lineUp_r35_r42_16 (m Ln : Nat) : ∀ (I A : Nat → Nat → Int32) (v2 : Int32) (v3 : Int32) (v4 : Int32) {r : zRs}, PLB_X6_lineUp_r35_r42_16 m Ln I A v2 v3 v4 → zEv 36 68 0 0 [some (.ref 35), some (.ref 42), some (.int v2), some (.int v3), some (.int ((LB_X6_lineUp_r35_r42_16 m Ln I A v2 v3 v4).1))] [] (zGs Ln I (LB_X6_lineUp_r35_r42_16 m Ln I A v2 v3 v4).2) r → zEv 36 16 0 0 [some (.ref 35), some (.ref 42), some (.int v2), some (.int v3), some (.int v4)] [] (zGs Ln I A) r := by
  induction m with
  | zero => intro I A v2 v3 v4 r h hk; exact h.elim
  | succ m ih =>
    intro I A v2 v3 v4 r h hk
    simp only [PLB_X6_lineUp_r35_r42_16] at h
    simp only [LB_X6_lineUp_r35_r42_16] at hk
    refine B_X6_lineUp_r35_r42_16 Ln I A v2 v3 v4  (fun q2 => ?_) (fun q2 => ?_)
    · try simp only [if_pos q2] at hk ⊢
      exact hk
    · try simp only [if_neg q2] at hk ⊢
      have h3 := h.2 q2
      obtain ⟨g4_0, g4_1, r5_⟩ := h3
      refine B_X6_lineUp_r35_r42_21 Ln I A v2 v3 v4 g4_0 (M_X6_rank_r35_r42 Ln I A (A 40 (v4 - 1).toNatClampNeg) v2 g4_1) rfl ?_
      obtain ⟨g6_0, r7_⟩ := r5_
      refine B_X6_lineUp_r35_r42_36_s1 Ln I A v2 v3 v4 (V_X6_rank_r35_r42 Ln I A (A 40 (v4 - 1).toNatClampNeg) v2)  (M_X6_rank_r35_r42 Ln I A v3 v2 g6_0) rfl ?_
      refine B_X6_lineUp_r35_r42_43_s2 Ln I A v2 v3 v4 (V_X6_rank_r35_r42 Ln I A (A 40 (v4 - 1).toNatClampNeg) v2) (V_X6_rank_r35_r42 Ln I A v3 v2)  (fun q10 => ?_) (fun q10 => ?_)
      · try simp only [if_pos q10] at hk ⊢
        exact hk
      · try simp only [if_neg q10] at hk ⊢
        have h11 := r7_.2 q10
        obtain ⟨g12_0, g12_1, r13_⟩ := h11
        refine B_X6_lineUp_r35_r42_46 Ln I A v2 v3 v4 g12_0 g12_1 ?_
        exact ih I (zw A 40 ((v4).toNatClampNeg) (A 40 (v4 - 1).toNatClampNeg)) v2 v3 (v4 + (Int32.ofInt (-1))) r13_ hk
def LA_X6_lineUp_r35_r42_2 : Nat → (Ln : Nat) → (I A : Nat → Nat → Int32) → Int32 → Int32 → (Option Int32) → (Nat → Nat → Int32)
  | 0, Ln, I, A, v2, v3, j4 => A
  | m + 1, Ln, I, A, v2, v3, j4 => if (I 11 0) ≤ v3 then A else (LA_X6_lineUp_r35_r42_2 m Ln I (zw ((LB_X6_lineUp_r35_r42_16 1000 Ln I A v2 v3 v3).2) 40 ((((LB_X6_lineUp_r35_r42_16 1000 Ln I A v2 v3 v3).1)).toNatClampNeg) v3) v2 (v3 + 1) (some ((LB_X6_lineUp_r35_r42_16 1000 Ln I A v2 v3 v3).1)))
def PLA_X6_lineUp_r35_r42_2 : Nat → (Ln : Nat) → (I A : Nat → Nat → Int32) → Int32 → Int32 → (Option Int32) → Prop
  | 0, Ln, I, A, v2, v3, j4 => False
  | m + 1, Ln, I, A, v2, v3, j4 => ((I 11 0) ≤ v3 → True) ∧ (¬ ((I 11 0) ≤ v3) → ((PLB_X6_lineUp_r35_r42_16 1000 Ln I A v2 v3 v3) ∧ ((zin ((LB_X6_lineUp_r35_r42_16 1000 Ln I A v2 v3 v3).1) 6 = true) ∧ (PLA_X6_lineUp_r35_r42_2 m Ln I (zw ((LB_X6_lineUp_r35_r42_16 1000 Ln I A v2 v3 v3).2) 40 ((((LB_X6_lineUp_r35_r42_16 1000 Ln I A v2 v3 v3).1)).toNatClampNeg) v3) v2 (v3 + 1) (some ((LB_X6_lineUp_r35_r42_16 1000 Ln I A v2 v3 v3).1))))))
set_option maxRecDepth 100000 in
theorem MLA_X6_lineUp_r35_r42_2 (m Ln : Nat) : ∀ (I A : Nat → Nat → Int32) (v2 : Int32) (v3 : Int32) (j4 : Option Int32), PLA_X6_lineUp_r35_r42_2 m Ln I A v2 v3 j4 → zEv 36 2 0 0 [some (.ref 35), some (.ref 42), some (.int v2), some (.int v3), (Option.map Value.int j4)] [] (zGs Ln I A) (none, zGs Ln I (LA_X6_lineUp_r35_r42_2 m Ln I A v2 v3 j4)) := by
  induction m with
  | zero => intro I A v2 v3 j4 h; exact h.elim
  | succ m ih =>
    intro I A v2 v3 j4 h
    simp only [PLA_X6_lineUp_r35_r42_2] at h
    simp only [LA_X6_lineUp_r35_r42_2]
    refine B_X6_lineUp_r35_r42_2 Ln I A v2 v3 j4  (fun q2 => ?_) (fun q2 => ?_)
    · try simp only [if_pos q2]
      exact B_X6_lineUp_r35_r42_82 Ln I A v2 v3 j4 
    · try simp only [if_neg q2]
      have h3 := h.2 q2
      refine B_X6_lineUp_r35_r42_13 Ln I A v2 v3 j4  ?_
      obtain ⟨b6, c6_⟩ := h3
      refine MLB_X6_lineUp_r35_r42_16 1000 Ln I A v2 v3 v3 b6 ?_
      obtain ⟨g7_0, r8_⟩ := c6_
      refine B_X6_lineUp_r35_r42_68 Ln I ((LB_X6_lineUp_r35_r42_16 1000 Ln I A v2 v3 v3).2) v2 v3 ((LB_X6_lineUp_r35_r42_16 1000 Ln I A v2 v3 v3).1) g7_0 ?_
      exact ih I (zw ((LB_X6_lineUp_r35_r42_16 1000 Ln I A v2 v3 v3).2) 40 ((((LB_X6_lineUp_r35_r42_16 1000 Ln I A v2 v3 v3).1)).toNatClampNeg) v3) v2 (v3 + 1) (some ((LB_X6_lineUp_r35_r42_16 1000 Ln I A v2 v3 v3).1)) r8_
def SA_X6_lineUp_r35_r42 (Ln : Nat) (I A : Nat → Nat → Int32) (v2 : Int32) : Nat → Nat → Int32 := LA_X6_lineUp_r35_r42_2 1000 Ln I A v2 0 none
def P_X6_lineUp_r35_r42 (Ln : Nat) (I A : Nat → Nat → Int32) (v2 : Int32) : Prop := PLA_X6_lineUp_r35_r42_2 1000 Ln I A v2 0 none
set_option maxRecDepth 100000 in
theorem M_X6_lineUp_r35_r42 (Ln : Nat) (I A : Nat → Nat → Int32) (v2 : Int32) (h : P_X6_lineUp_r35_r42 Ln I A v2) : zEv 36 0 0 0 [some (.ref 35), some (.ref 42), some (.int v2), none, none] [] (zGs Ln I A) (none, zGs Ln (I) (SA_X6_lineUp_r35_r42 Ln I A v2)) := by
  unfold P_X6_lineUp_r35_r42 at h
  unfold SA_X6_lineUp_r35_r42
  refine B_X6_lineUp_r35_r42_0 Ln I A v2  ?_
  exact MLA_X6_lineUp_r35_r42_2 1000 Ln I A v2 0 none h
def LA_X6_seat_r35_4 : Nat → (Ln : Nat) → (I A : Nat → Nat → Int32) → Int32 → Int32 → Int32 → (Option Int32) → Int32
  | 0, Ln, I, A, v1, v2, v3, j4 => 0
  | m + 1, Ln, I, A, v1, v2, v3, j4 => if (I 11 0) ≤ v3 then v2 else (if (V_X0_carries_r11 Ln I A (v2 ||| (v1 &&& (1 <<< ((A 40 (v3).toNatClampNeg) &&& 31))))) = 0 then (LA_X6_seat_r35_4 m Ln I A v1 v2 (v3 + 1) (some (v1 &&& (1 <<< ((A 40 (v3).toNatClampNeg) &&& 31))))) else (LA_X6_seat_r35_4 m Ln I A v1 (v2 ||| (v1 &&& (1 <<< ((A 40 (v3).toNatClampNeg) &&& 31)))) (v3 + 1) (some (v1 &&& (1 <<< ((A 40 (v3).toNatClampNeg) &&& 31))))))
def PLA_X6_seat_r35_4 : Nat → (Ln : Nat) → (I A : Nat → Nat → Int32) → Int32 → Int32 → Int32 → (Option Int32) → Prop
  | 0, Ln, I, A, v1, v2, v3, j4 => False
  | m + 1, Ln, I, A, v1, v2, v3, j4 => ((I 11 0) ≤ v3 → True) ∧ (¬ ((I 11 0) ≤ v3) → ((zin v3 6 = true) ∧ (P_X0_carries_r11 Ln I A (v2 ||| (v1 &&& (1 <<< ((A 40 (v3).toNatClampNeg) &&& 31))))) ∧ (((V_X0_carries_r11 Ln I A (v2 ||| (v1 &&& (1 <<< ((A 40 (v3).toNatClampNeg) &&& 31))))) = 0 → (PLA_X6_seat_r35_4 m Ln I A v1 v2 (v3 + 1) (some (v1 &&& (1 <<< ((A 40 (v3).toNatClampNeg) &&& 31)))))) ∧ (¬ ((V_X0_carries_r11 Ln I A (v2 ||| (v1 &&& (1 <<< ((A 40 (v3).toNatClampNeg) &&& 31))))) = 0) → (PLA_X6_seat_r35_4 m Ln I A v1 (v2 ||| (v1 &&& (1 <<< ((A 40 (v3).toNatClampNeg) &&& 31)))) (v3 + 1) (some (v1 &&& (1 <<< ((A 40 (v3).toNatClampNeg) &&& 31)))))))))
set_option maxRecDepth 100000 in
theorem MLA_X6_seat_r35_4 (m Ln : Nat) : ∀ (I A : Nat → Nat → Int32) (v1 : Int32) (v2 : Int32) (v3 : Int32) (j4 : Option Int32), PLA_X6_seat_r35_4 m Ln I A v1 v2 v3 j4 → zEv 39 4 0 0 [some (.ref 35), some (.int v1), some (.int v2), some (.int v3), (Option.map Value.int j4)] [] (zGs Ln I A) (some (.int (LA_X6_seat_r35_4 m Ln I A v1 v2 v3 j4)), zGs Ln I A) := by
  induction m with
  | zero => intro I A v1 v2 v3 j4 h; exact h.elim
  | succ m ih =>
    intro I A v1 v2 v3 j4 h
    simp only [PLA_X6_seat_r35_4] at h
    simp only [LA_X6_seat_r35_4]
    refine B_X6_seat_r35_4 Ln I A v1 v2 v3 j4  (fun q2 => ?_) (fun q2 => ?_)
    · try simp only [if_pos q2]
      exact B_X6_seat_r35_52 Ln I A v1 v2 v3 j4 
    · try simp only [if_neg q2]
      have h3 := h.2 q2
      obtain ⟨g4_0, g4_1, r5_⟩ := h3
      refine B_X6_seat_r35_15 Ln I A v1 v2 v3 j4 g4_0 (M_X0_carries_r11 Ln I A (v2 ||| (v1 &&& (1 <<< ((A 40 (v3).toNatClampNeg) &&& 31)))) g4_1) rfl ?_
      refine B_X6_seat_r35_38_s1 Ln I A v1 v2 v3 (v1 &&& (1 <<< ((A 40 (v3).toNatClampNeg) &&& 31))) (V_X0_carries_r11 Ln I A (v2 ||| (v1 &&& (1 <<< ((A 40 (v3).toNatClampNeg) &&& 31)))))  (fun q8 => ?_) (fun q8 => ?_)
      · try simp only [if_pos q8]
        have h9 := r5_.1 q8
        refine B_X6_seat_r35_46 Ln I A v1 v2 v3 (v1 &&& (1 <<< ((A 40 (v3).toNatClampNeg) &&& 31)))  ?_
        exact ih I A v1 v2 (v3 + 1) (some (v1 &&& (1 <<< ((A 40 (v3).toNatClampNeg) &&& 31)))) h9
      · try simp only [if_neg q8]
        have h12 := r5_.2 q8
        refine B_X6_seat_r35_41 Ln I A v1 v2 v3 (v1 &&& (1 <<< ((A 40 (v3).toNatClampNeg) &&& 31)))  ?_
        refine B_X6_seat_r35_46 Ln I A v1 (v2 ||| (v1 &&& (1 <<< ((A 40 (v3).toNatClampNeg) &&& 31)))) v3 (v1 &&& (1 <<< ((A 40 (v3).toNatClampNeg) &&& 31)))  ?_
        exact ih I A v1 (v2 ||| (v1 &&& (1 <<< ((A 40 (v3).toNatClampNeg) &&& 31)))) (v3 + 1) (some (v1 &&& (1 <<< ((A 40 (v3).toNatClampNeg) &&& 31)))) h12
def V_X6_seat_r35 (Ln : Nat) (I A : Nat → Nat → Int32) (v1 : Int32) : Int32 := LA_X6_seat_r35_4 1000 Ln I A v1 0 0 none
def P_X6_seat_r35 (Ln : Nat) (I A : Nat → Nat → Int32) (v1 : Int32) : Prop := PLA_X6_seat_r35_4 1000 Ln I A v1 0 0 none
set_option maxRecDepth 100000 in
theorem M_X6_seat_r35 (Ln : Nat) (I A : Nat → Nat → Int32) (v1 : Int32) (h : P_X6_seat_r35 Ln I A v1) : zEv 39 0 0 0 [some (.ref 35), some (.int v1), none, none, none] [] (zGs Ln I A) (some (.int (V_X6_seat_r35 Ln I A v1)), zGs Ln (I) (A)) := by
  unfold P_X6_seat_r35 at h
  unfold V_X6_seat_r35
  refine B_X6_seat_r35_0 Ln I A v1  ?_
  exact MLA_X6_seat_r35_4 1000 Ln I A v1 0 0 none h
def LB_X6_lineUp_r35_r43_16 : Nat → (Ln : Nat) → (I A : Nat → Nat → Int32) → Int32 → Int32 → Int32 → Int32 × (Nat → Nat → Int32)
  | 0, Ln, I, A, v2, v3, v4 => (0, A)
  | m + 1, Ln, I, A, v2, v3, v4 => if v4 ≤ 0 then (v4, A) else (if (V_X6_rank_r35_r43 Ln I A (A 40 (v4 - 1).toNatClampNeg) v2) ≤ (V_X6_rank_r35_r43 Ln I A v3 v2) then (v4, A) else (LB_X6_lineUp_r35_r43_16 m Ln I (zw A 40 ((v4).toNatClampNeg) (A 40 (v4 - 1).toNatClampNeg)) v2 v3 (v4 + (Int32.ofInt (-1)))))
def PLB_X6_lineUp_r35_r43_16 : Nat → (Ln : Nat) → (I A : Nat → Nat → Int32) → Int32 → Int32 → Int32 → Prop
  | 0, Ln, I, A, v2, v3, v4 => False
  | m + 1, Ln, I, A, v2, v3, v4 => (v4 ≤ 0 → True) ∧ (¬ (v4 ≤ 0) → ((zin (v4 - 1) 6 = true) ∧ (P_X6_rank_r35_r43 Ln I A (A 40 (v4 - 1).toNatClampNeg) v2) ∧ ((P_X6_rank_r35_r43 Ln I A v3 v2) ∧ (((V_X6_rank_r35_r43 Ln I A (A 40 (v4 - 1).toNatClampNeg) v2) ≤ (V_X6_rank_r35_r43 Ln I A v3 v2) → True) ∧ (¬ ((V_X6_rank_r35_r43 Ln I A (A 40 (v4 - 1).toNatClampNeg) v2) ≤ (V_X6_rank_r35_r43 Ln I A v3 v2)) → ((zin (v4 - 1) 6 = true) ∧ (zin v4 6 = true) ∧ (PLB_X6_lineUp_r35_r43_16 m Ln I (zw A 40 ((v4).toNatClampNeg) (A 40 (v4 - 1).toNatClampNeg)) v2 v3 (v4 + (Int32.ofInt (-1))))))))))
set_option maxRecDepth 100000 in
theorem MLB_X6_lineUp_r35_r43_16 (m Ln : Nat) : ∀ (I A : Nat → Nat → Int32) (v2 : Int32) (v3 : Int32) (v4 : Int32) {r : zRs}, PLB_X6_lineUp_r35_r43_16 m Ln I A v2 v3 v4 → zEv 36 68 0 0 [some (.ref 35), some (.ref 43), some (.int v2), some (.int v3), some (.int ((LB_X6_lineUp_r35_r43_16 m Ln I A v2 v3 v4).1))] [] (zGs Ln I (LB_X6_lineUp_r35_r43_16 m Ln I A v2 v3 v4).2) r → zEv 36 16 0 0 [some (.ref 35), some (.ref 43), some (.int v2), some (.int v3), some (.int v4)] [] (zGs Ln I A) r := by
  induction m with
  | zero => intro I A v2 v3 v4 r h hk; exact h.elim
  | succ m ih =>
    intro I A v2 v3 v4 r h hk
    simp only [PLB_X6_lineUp_r35_r43_16] at h
    simp only [LB_X6_lineUp_r35_r43_16] at hk
    refine B_X6_lineUp_r35_r43_16 Ln I A v2 v3 v4  (fun q2 => ?_) (fun q2 => ?_)
    · try simp only [if_pos q2] at hk ⊢
      exact hk
    · try simp only [if_neg q2] at hk ⊢
      have h3 := h.2 q2
      obtain ⟨g4_0, g4_1, r5_⟩ := h3
      refine B_X6_lineUp_r35_r43_21 Ln I A v2 v3 v4 g4_0 (M_X6_rank_r35_r43 Ln I A (A 40 (v4 - 1).toNatClampNeg) v2 g4_1) rfl ?_
      obtain ⟨g6_0, r7_⟩ := r5_
      refine B_X6_lineUp_r35_r43_36_s1 Ln I A v2 v3 v4 (V_X6_rank_r35_r43 Ln I A (A 40 (v4 - 1).toNatClampNeg) v2)  (M_X6_rank_r35_r43 Ln I A v3 v2 g6_0) rfl ?_
      refine B_X6_lineUp_r35_r43_43_s2 Ln I A v2 v3 v4 (V_X6_rank_r35_r43 Ln I A (A 40 (v4 - 1).toNatClampNeg) v2) (V_X6_rank_r35_r43 Ln I A v3 v2)  (fun q10 => ?_) (fun q10 => ?_)
      · try simp only [if_pos q10] at hk ⊢
        exact hk
      · try simp only [if_neg q10] at hk ⊢
        have h11 := r7_.2 q10
        obtain ⟨g12_0, g12_1, r13_⟩ := h11
        refine B_X6_lineUp_r35_r43_46 Ln I A v2 v3 v4 g12_0 g12_1 ?_
        exact ih I (zw A 40 ((v4).toNatClampNeg) (A 40 (v4 - 1).toNatClampNeg)) v2 v3 (v4 + (Int32.ofInt (-1))) r13_ hk
def LA_X6_lineUp_r35_r43_2 : Nat → (Ln : Nat) → (I A : Nat → Nat → Int32) → Int32 → Int32 → (Option Int32) → (Nat → Nat → Int32)
  | 0, Ln, I, A, v2, v3, j4 => A
  | m + 1, Ln, I, A, v2, v3, j4 => if (I 11 0) ≤ v3 then A else (LA_X6_lineUp_r35_r43_2 m Ln I (zw ((LB_X6_lineUp_r35_r43_16 1000 Ln I A v2 v3 v3).2) 40 ((((LB_X6_lineUp_r35_r43_16 1000 Ln I A v2 v3 v3).1)).toNatClampNeg) v3) v2 (v3 + 1) (some ((LB_X6_lineUp_r35_r43_16 1000 Ln I A v2 v3 v3).1)))
def PLA_X6_lineUp_r35_r43_2 : Nat → (Ln : Nat) → (I A : Nat → Nat → Int32) → Int32 → Int32 → (Option Int32) → Prop
  | 0, Ln, I, A, v2, v3, j4 => False
  | m + 1, Ln, I, A, v2, v3, j4 => ((I 11 0) ≤ v3 → True) ∧ (¬ ((I 11 0) ≤ v3) → ((PLB_X6_lineUp_r35_r43_16 1000 Ln I A v2 v3 v3) ∧ ((zin ((LB_X6_lineUp_r35_r43_16 1000 Ln I A v2 v3 v3).1) 6 = true) ∧ (PLA_X6_lineUp_r35_r43_2 m Ln I (zw ((LB_X6_lineUp_r35_r43_16 1000 Ln I A v2 v3 v3).2) 40 ((((LB_X6_lineUp_r35_r43_16 1000 Ln I A v2 v3 v3).1)).toNatClampNeg) v3) v2 (v3 + 1) (some ((LB_X6_lineUp_r35_r43_16 1000 Ln I A v2 v3 v3).1))))))
set_option maxRecDepth 100000 in
theorem MLA_X6_lineUp_r35_r43_2 (m Ln : Nat) : ∀ (I A : Nat → Nat → Int32) (v2 : Int32) (v3 : Int32) (j4 : Option Int32), PLA_X6_lineUp_r35_r43_2 m Ln I A v2 v3 j4 → zEv 36 2 0 0 [some (.ref 35), some (.ref 43), some (.int v2), some (.int v3), (Option.map Value.int j4)] [] (zGs Ln I A) (none, zGs Ln I (LA_X6_lineUp_r35_r43_2 m Ln I A v2 v3 j4)) := by
  induction m with
  | zero => intro I A v2 v3 j4 h; exact h.elim
  | succ m ih =>
    intro I A v2 v3 j4 h
    simp only [PLA_X6_lineUp_r35_r43_2] at h
    simp only [LA_X6_lineUp_r35_r43_2]
    refine B_X6_lineUp_r35_r43_2 Ln I A v2 v3 j4  (fun q2 => ?_) (fun q2 => ?_)
    · try simp only [if_pos q2]
      exact B_X6_lineUp_r35_r43_82 Ln I A v2 v3 j4 
    · try simp only [if_neg q2]
      have h3 := h.2 q2
      refine B_X6_lineUp_r35_r43_13 Ln I A v2 v3 j4  ?_
      obtain ⟨b6, c6_⟩ := h3
      refine MLB_X6_lineUp_r35_r43_16 1000 Ln I A v2 v3 v3 b6 ?_
      obtain ⟨g7_0, r8_⟩ := c6_
      refine B_X6_lineUp_r35_r43_68 Ln I ((LB_X6_lineUp_r35_r43_16 1000 Ln I A v2 v3 v3).2) v2 v3 ((LB_X6_lineUp_r35_r43_16 1000 Ln I A v2 v3 v3).1) g7_0 ?_
      exact ih I (zw ((LB_X6_lineUp_r35_r43_16 1000 Ln I A v2 v3 v3).2) 40 ((((LB_X6_lineUp_r35_r43_16 1000 Ln I A v2 v3 v3).1)).toNatClampNeg) v3) v2 (v3 + 1) (some ((LB_X6_lineUp_r35_r43_16 1000 Ln I A v2 v3 v3).1)) r8_
def SA_X6_lineUp_r35_r43 (Ln : Nat) (I A : Nat → Nat → Int32) (v2 : Int32) : Nat → Nat → Int32 := LA_X6_lineUp_r35_r43_2 1000 Ln I A v2 0 none
def P_X6_lineUp_r35_r43 (Ln : Nat) (I A : Nat → Nat → Int32) (v2 : Int32) : Prop := PLA_X6_lineUp_r35_r43_2 1000 Ln I A v2 0 none
set_option maxRecDepth 100000 in
theorem M_X6_lineUp_r35_r43 (Ln : Nat) (I A : Nat → Nat → Int32) (v2 : Int32) (h : P_X6_lineUp_r35_r43 Ln I A v2) : zEv 36 0 0 0 [some (.ref 35), some (.ref 43), some (.int v2), none, none] [] (zGs Ln I A) (none, zGs Ln (I) (SA_X6_lineUp_r35_r43 Ln I A v2)) := by
  unfold P_X6_lineUp_r35_r43 at h
  unfold SA_X6_lineUp_r35_r43
  refine B_X6_lineUp_r35_r43_0 Ln I A v2  ?_
  exact MLA_X6_lineUp_r35_r43_2 1000 Ln I A v2 0 none h
def LB_X6_lineUp_r28_r42_16 : Nat → (Ln : Nat) → (I A : Nat → Nat → Int32) → Int32 → Int32 → Int32 → Int32 × (Nat → Nat → Int32)
  | 0, Ln, I, A, v2, v3, v4 => (0, A)
  | m + 1, Ln, I, A, v2, v3, v4 => if v4 ≤ 0 then (v4, A) else (if (V_X6_rank_r28_r42 Ln I A (A 33 (v4 - 1).toNatClampNeg) v2) ≤ (V_X6_rank_r28_r42 Ln I A v3 v2) then (v4, A) else (LB_X6_lineUp_r28_r42_16 m Ln I (zw A 33 ((v4).toNatClampNeg) (A 33 (v4 - 1).toNatClampNeg)) v2 v3 (v4 + (Int32.ofInt (-1)))))
def PLB_X6_lineUp_r28_r42_16 : Nat → (Ln : Nat) → (I A : Nat → Nat → Int32) → Int32 → Int32 → Int32 → Prop
  | 0, Ln, I, A, v2, v3, v4 => False
  | m + 1, Ln, I, A, v2, v3, v4 => (v4 ≤ 0 → True) ∧ (¬ (v4 ≤ 0) → ((zin (v4 - 1) 6 = true) ∧ (P_X6_rank_r28_r42 Ln I A (A 33 (v4 - 1).toNatClampNeg) v2) ∧ ((P_X6_rank_r28_r42 Ln I A v3 v2) ∧ (((V_X6_rank_r28_r42 Ln I A (A 33 (v4 - 1).toNatClampNeg) v2) ≤ (V_X6_rank_r28_r42 Ln I A v3 v2) → True) ∧ (¬ ((V_X6_rank_r28_r42 Ln I A (A 33 (v4 - 1).toNatClampNeg) v2) ≤ (V_X6_rank_r28_r42 Ln I A v3 v2)) → ((zin (v4 - 1) 6 = true) ∧ (zin v4 6 = true) ∧ (PLB_X6_lineUp_r28_r42_16 m Ln I (zw A 33 ((v4).toNatClampNeg) (A 33 (v4 - 1).toNatClampNeg)) v2 v3 (v4 + (Int32.ofInt (-1))))))))))
set_option maxRecDepth 100000 in
theorem MLB_X6_lineUp_r28_r42_16 (m Ln : Nat) : ∀ (I A : Nat → Nat → Int32) (v2 : Int32) (v3 : Int32) (v4 : Int32) {r : zRs}, PLB_X6_lineUp_r28_r42_16 m Ln I A v2 v3 v4 → zEv 36 68 0 0 [some (.ref 28), some (.ref 42), some (.int v2), some (.int v3), some (.int ((LB_X6_lineUp_r28_r42_16 m Ln I A v2 v3 v4).1))] [] (zGs Ln I (LB_X6_lineUp_r28_r42_16 m Ln I A v2 v3 v4).2) r → zEv 36 16 0 0 [some (.ref 28), some (.ref 42), some (.int v2), some (.int v3), some (.int v4)] [] (zGs Ln I A) r := by
  induction m with
  | zero => intro I A v2 v3 v4 r h hk; exact h.elim
  | succ m ih =>
    intro I A v2 v3 v4 r h hk
    simp only [PLB_X6_lineUp_r28_r42_16] at h
    simp only [LB_X6_lineUp_r28_r42_16] at hk
    refine B_X6_lineUp_r28_r42_16 Ln I A v2 v3 v4  (fun q2 => ?_) (fun q2 => ?_)
    · try simp only [if_pos q2] at hk ⊢
      exact hk
    · try simp only [if_neg q2] at hk ⊢
      have h3 := h.2 q2
      obtain ⟨g4_0, g4_1, r5_⟩ := h3
      refine B_X6_lineUp_r28_r42_21 Ln I A v2 v3 v4 g4_0 (M_X6_rank_r28_r42 Ln I A (A 33 (v4 - 1).toNatClampNeg) v2 g4_1) rfl ?_
      obtain ⟨g6_0, r7_⟩ := r5_
      refine B_X6_lineUp_r28_r42_36_s1 Ln I A v2 v3 v4 (V_X6_rank_r28_r42 Ln I A (A 33 (v4 - 1).toNatClampNeg) v2)  (M_X6_rank_r28_r42 Ln I A v3 v2 g6_0) rfl ?_
      refine B_X6_lineUp_r28_r42_43_s2 Ln I A v2 v3 v4 (V_X6_rank_r28_r42 Ln I A (A 33 (v4 - 1).toNatClampNeg) v2) (V_X6_rank_r28_r42 Ln I A v3 v2)  (fun q10 => ?_) (fun q10 => ?_)
      · try simp only [if_pos q10] at hk ⊢
        exact hk
      · try simp only [if_neg q10] at hk ⊢
        have h11 := r7_.2 q10
        obtain ⟨g12_0, g12_1, r13_⟩ := h11
        refine B_X6_lineUp_r28_r42_46 Ln I A v2 v3 v4 g12_0 g12_1 ?_
        exact ih I (zw A 33 ((v4).toNatClampNeg) (A 33 (v4 - 1).toNatClampNeg)) v2 v3 (v4 + (Int32.ofInt (-1))) r13_ hk
def LA_X6_lineUp_r28_r42_2 : Nat → (Ln : Nat) → (I A : Nat → Nat → Int32) → Int32 → Int32 → (Option Int32) → (Nat → Nat → Int32)
  | 0, Ln, I, A, v2, v3, j4 => A
  | m + 1, Ln, I, A, v2, v3, j4 => if (I 11 0) ≤ v3 then A else (LA_X6_lineUp_r28_r42_2 m Ln I (zw ((LB_X6_lineUp_r28_r42_16 1000 Ln I A v2 v3 v3).2) 33 ((((LB_X6_lineUp_r28_r42_16 1000 Ln I A v2 v3 v3).1)).toNatClampNeg) v3) v2 (v3 + 1) (some ((LB_X6_lineUp_r28_r42_16 1000 Ln I A v2 v3 v3).1)))
def PLA_X6_lineUp_r28_r42_2 : Nat → (Ln : Nat) → (I A : Nat → Nat → Int32) → Int32 → Int32 → (Option Int32) → Prop
  | 0, Ln, I, A, v2, v3, j4 => False
  | m + 1, Ln, I, A, v2, v3, j4 => ((I 11 0) ≤ v3 → True) ∧ (¬ ((I 11 0) ≤ v3) → ((PLB_X6_lineUp_r28_r42_16 1000 Ln I A v2 v3 v3) ∧ ((zin ((LB_X6_lineUp_r28_r42_16 1000 Ln I A v2 v3 v3).1) 6 = true) ∧ (PLA_X6_lineUp_r28_r42_2 m Ln I (zw ((LB_X6_lineUp_r28_r42_16 1000 Ln I A v2 v3 v3).2) 33 ((((LB_X6_lineUp_r28_r42_16 1000 Ln I A v2 v3 v3).1)).toNatClampNeg) v3) v2 (v3 + 1) (some ((LB_X6_lineUp_r28_r42_16 1000 Ln I A v2 v3 v3).1))))))
set_option maxRecDepth 100000 in
theorem MLA_X6_lineUp_r28_r42_2 (m Ln : Nat) : ∀ (I A : Nat → Nat → Int32) (v2 : Int32) (v3 : Int32) (j4 : Option Int32), PLA_X6_lineUp_r28_r42_2 m Ln I A v2 v3 j4 → zEv 36 2 0 0 [some (.ref 28), some (.ref 42), some (.int v2), some (.int v3), (Option.map Value.int j4)] [] (zGs Ln I A) (none, zGs Ln I (LA_X6_lineUp_r28_r42_2 m Ln I A v2 v3 j4)) := by
  induction m with
  | zero => intro I A v2 v3 j4 h; exact h.elim
  | succ m ih =>
    intro I A v2 v3 j4 h
    simp only [PLA_X6_lineUp_r28_r42_2] at h
    simp only [LA_X6_lineUp_r28_r42_2]
    refine B_X6_lineUp_r28_r42_2 Ln I A v2 v3 j4  (fun q2 => ?_) (fun q2 => ?_)
    · try simp only [if_pos q2]
      exact B_X6_lineUp_r28_r42_82 Ln I A v2 v3 j4 
    · try simp only [if_neg q2]
      have h3 := h.2 q2
      refine B_X6_lineUp_r28_r42_13 Ln I A v2 v3 j4  ?_
      obtain ⟨b6, c6_⟩ := h3
      refine MLB_X6_lineUp_r28_r42_16 1000 Ln I A v2 v3 v3 b6 ?_
      obtain ⟨g7_0, r8_⟩ := c6_
      refine B_X6_lineUp_r28_r42_68 Ln I ((LB_X6_lineUp_r28_r42_16 1000 Ln I A v2 v3 v3).2) v2 v3 ((LB_X6_lineUp_r28_r42_16 1000 Ln I A v2 v3 v3).1) g7_0 ?_
      exact ih I (zw ((LB_X6_lineUp_r28_r42_16 1000 Ln I A v2 v3 v3).2) 33 ((((LB_X6_lineUp_r28_r42_16 1000 Ln I A v2 v3 v3).1)).toNatClampNeg) v3) v2 (v3 + 1) (some ((LB_X6_lineUp_r28_r42_16 1000 Ln I A v2 v3 v3).1)) r8_
def SA_X6_lineUp_r28_r42 (Ln : Nat) (I A : Nat → Nat → Int32) (v2 : Int32) : Nat → Nat → Int32 := LA_X6_lineUp_r28_r42_2 1000 Ln I A v2 0 none
def P_X6_lineUp_r28_r42 (Ln : Nat) (I A : Nat → Nat → Int32) (v2 : Int32) : Prop := PLA_X6_lineUp_r28_r42_2 1000 Ln I A v2 0 none
set_option maxRecDepth 100000 in
theorem M_X6_lineUp_r28_r42 (Ln : Nat) (I A : Nat → Nat → Int32) (v2 : Int32) (h : P_X6_lineUp_r28_r42 Ln I A v2) : zEv 36 0 0 0 [some (.ref 28), some (.ref 42), some (.int v2), none, none] [] (zGs Ln I A) (none, zGs Ln (I) (SA_X6_lineUp_r28_r42 Ln I A v2)) := by
  unfold P_X6_lineUp_r28_r42 at h
  unfold SA_X6_lineUp_r28_r42
  refine B_X6_lineUp_r28_r42_0 Ln I A v2  ?_
  exact MLA_X6_lineUp_r28_r42_2 1000 Ln I A v2 0 none h
def LA_X6_seat_r28_4 : Nat → (Ln : Nat) → (I A : Nat → Nat → Int32) → Int32 → Int32 → Int32 → (Option Int32) → Int32
  | 0, Ln, I, A, v1, v2, v3, j4 => 0
  | m + 1, Ln, I, A, v1, v2, v3, j4 => if (I 11 0) ≤ v3 then v2 else (if (V_X0_carries_r11 Ln I A (v2 ||| (v1 &&& (1 <<< ((A 33 (v3).toNatClampNeg) &&& 31))))) = 0 then (LA_X6_seat_r28_4 m Ln I A v1 v2 (v3 + 1) (some (v1 &&& (1 <<< ((A 33 (v3).toNatClampNeg) &&& 31))))) else (LA_X6_seat_r28_4 m Ln I A v1 (v2 ||| (v1 &&& (1 <<< ((A 33 (v3).toNatClampNeg) &&& 31)))) (v3 + 1) (some (v1 &&& (1 <<< ((A 33 (v3).toNatClampNeg) &&& 31))))))
def PLA_X6_seat_r28_4 : Nat → (Ln : Nat) → (I A : Nat → Nat → Int32) → Int32 → Int32 → Int32 → (Option Int32) → Prop
  | 0, Ln, I, A, v1, v2, v3, j4 => False
  | m + 1, Ln, I, A, v1, v2, v3, j4 => ((I 11 0) ≤ v3 → True) ∧ (¬ ((I 11 0) ≤ v3) → ((zin v3 6 = true) ∧ (P_X0_carries_r11 Ln I A (v2 ||| (v1 &&& (1 <<< ((A 33 (v3).toNatClampNeg) &&& 31))))) ∧ (((V_X0_carries_r11 Ln I A (v2 ||| (v1 &&& (1 <<< ((A 33 (v3).toNatClampNeg) &&& 31))))) = 0 → (PLA_X6_seat_r28_4 m Ln I A v1 v2 (v3 + 1) (some (v1 &&& (1 <<< ((A 33 (v3).toNatClampNeg) &&& 31)))))) ∧ (¬ ((V_X0_carries_r11 Ln I A (v2 ||| (v1 &&& (1 <<< ((A 33 (v3).toNatClampNeg) &&& 31))))) = 0) → (PLA_X6_seat_r28_4 m Ln I A v1 (v2 ||| (v1 &&& (1 <<< ((A 33 (v3).toNatClampNeg) &&& 31)))) (v3 + 1) (some (v1 &&& (1 <<< ((A 33 (v3).toNatClampNeg) &&& 31)))))))))
set_option maxRecDepth 100000 in
theorem MLA_X6_seat_r28_4 (m Ln : Nat) : ∀ (I A : Nat → Nat → Int32) (v1 : Int32) (v2 : Int32) (v3 : Int32) (j4 : Option Int32), PLA_X6_seat_r28_4 m Ln I A v1 v2 v3 j4 → zEv 39 4 0 0 [some (.ref 28), some (.int v1), some (.int v2), some (.int v3), (Option.map Value.int j4)] [] (zGs Ln I A) (some (.int (LA_X6_seat_r28_4 m Ln I A v1 v2 v3 j4)), zGs Ln I A) := by
  induction m with
  | zero => intro I A v1 v2 v3 j4 h; exact h.elim
  | succ m ih =>
    intro I A v1 v2 v3 j4 h
    simp only [PLA_X6_seat_r28_4] at h
    simp only [LA_X6_seat_r28_4]
    refine B_X6_seat_r28_4 Ln I A v1 v2 v3 j4  (fun q2 => ?_) (fun q2 => ?_)
    · try simp only [if_pos q2]
      exact B_X6_seat_r28_52 Ln I A v1 v2 v3 j4 
    · try simp only [if_neg q2]
      have h3 := h.2 q2
      obtain ⟨g4_0, g4_1, r5_⟩ := h3
      refine B_X6_seat_r28_15 Ln I A v1 v2 v3 j4 g4_0 (M_X0_carries_r11 Ln I A (v2 ||| (v1 &&& (1 <<< ((A 33 (v3).toNatClampNeg) &&& 31)))) g4_1) rfl ?_
      refine B_X6_seat_r28_38_s1 Ln I A v1 v2 v3 (v1 &&& (1 <<< ((A 33 (v3).toNatClampNeg) &&& 31))) (V_X0_carries_r11 Ln I A (v2 ||| (v1 &&& (1 <<< ((A 33 (v3).toNatClampNeg) &&& 31)))))  (fun q8 => ?_) (fun q8 => ?_)
      · try simp only [if_pos q8]
        have h9 := r5_.1 q8
        refine B_X6_seat_r28_46 Ln I A v1 v2 v3 (v1 &&& (1 <<< ((A 33 (v3).toNatClampNeg) &&& 31)))  ?_
        exact ih I A v1 v2 (v3 + 1) (some (v1 &&& (1 <<< ((A 33 (v3).toNatClampNeg) &&& 31)))) h9
      · try simp only [if_neg q8]
        have h12 := r5_.2 q8
        refine B_X6_seat_r28_41 Ln I A v1 v2 v3 (v1 &&& (1 <<< ((A 33 (v3).toNatClampNeg) &&& 31)))  ?_
        refine B_X6_seat_r28_46 Ln I A v1 (v2 ||| (v1 &&& (1 <<< ((A 33 (v3).toNatClampNeg) &&& 31)))) v3 (v1 &&& (1 <<< ((A 33 (v3).toNatClampNeg) &&& 31)))  ?_
        exact ih I A v1 (v2 ||| (v1 &&& (1 <<< ((A 33 (v3).toNatClampNeg) &&& 31)))) (v3 + 1) (some (v1 &&& (1 <<< ((A 33 (v3).toNatClampNeg) &&& 31)))) h12
def V_X6_seat_r28 (Ln : Nat) (I A : Nat → Nat → Int32) (v1 : Int32) : Int32 := LA_X6_seat_r28_4 1000 Ln I A v1 0 0 none
def P_X6_seat_r28 (Ln : Nat) (I A : Nat → Nat → Int32) (v1 : Int32) : Prop := PLA_X6_seat_r28_4 1000 Ln I A v1 0 0 none
set_option maxRecDepth 100000 in
theorem M_X6_seat_r28 (Ln : Nat) (I A : Nat → Nat → Int32) (v1 : Int32) (h : P_X6_seat_r28 Ln I A v1) : zEv 39 0 0 0 [some (.ref 28), some (.int v1), none, none, none] [] (zGs Ln I A) (some (.int (V_X6_seat_r28 Ln I A v1)), zGs Ln (I) (A)) := by
  unfold P_X6_seat_r28 at h
  unfold V_X6_seat_r28
  refine B_X6_seat_r28_0 Ln I A v1  ?_
  exact MLA_X6_seat_r28_4 1000 Ln I A v1 0 0 none h
def V_X5_mayStandInHead (Ln : Nat) (I A : Nat → Nat → Int32) (v0 : Int32) (v1 : Int32) (v2 : Int32) : Int32 := if (v0 : Int32).toInt = 0 then (if v1 ≠ 114 then 0 else 1) else (if (v0 : Int32).toInt = 1 then (V_X5_isDigit Ln I A v1 1 4) else (if (v0 : Int32).toInt = 2 then (V_X5_isDigit Ln I A v1 0 9) else (if (v0 : Int32).toInt = 3 then (if v2 ≠ 48 then (V_X5_isDigit Ln I A v1 0 9) else (V_X5_isDigit Ln I A v1 1 9)) else (V_X5_isDigit Ln I A v1 1 4))))
set_option maxRecDepth 100000 in
theorem M_X5_mayStandInHead (Ln : Nat) (I A : Nat → Nat → Int32) (v0 : Int32) (v1 : Int32) (v2 : Int32) : zEv 28 0 0 0 [some (.int v0), some (.int v1), some (.int v2)] [] (zGs Ln I A) (some (.int (V_X5_mayStandInHead Ln I A v0 v1 v2)), zGs Ln (I) (A)) := by
  unfold V_X5_mayStandInHead
  refine B_X5_mayStandInHead_0 Ln I A v0 v1 v2  (fun c0 => ?_) (fun c1 => ?_) (fun c2 => ?_) (fun c3 => ?_) (fun c0 c1 c2 c3 => ?_)
  ·  try simp only [if_pos c0]
    refine B_X5_mayStandInHead_32 Ln I A v0 v1 v2  (fun q0 => ?_) (fun q0 => ?_)
    · try simp only [if_pos q0]
      refine B_X5_mayStandInHead_42 Ln I A v0 v1 v2  ?_
      exact B_X5_mayStandInHead_43_s1 Ln I A v0 v1 v2 0 
    · try simp only [if_neg q0]
      refine B_X5_mayStandInHead_38 Ln I A v0 v1 v2  ?_
      exact B_X5_mayStandInHead_43_s1 Ln I A v0 v1 v2 1 
  · have n0 : ¬ (v0 : Int32).toInt = 0 := (fun q => absurd (q.symm.trans c1) (by decide)); try simp only [if_neg n0, if_pos c1]
    refine B_X5_mayStandInHead_70 Ln I A v0 v1 v2  (M_X5_isDigit Ln I A v1 1 4 ) rfl ?_
    exact B_X5_mayStandInHead_76_s1 Ln I A v0 v1 v2 (V_X5_isDigit Ln I A v1 1 4) 
  · have n0 : ¬ (v0 : Int32).toInt = 0 := (fun q => absurd (q.symm.trans c2) (by decide)); have n1 : ¬ (v0 : Int32).toInt = 1 := (fun q => absurd (q.symm.trans c2) (by decide)); try simp only [if_neg n0, if_neg n1, if_pos c2]
    refine B_X5_mayStandInHead_44 Ln I A v0 v1 v2  (M_X5_isDigit Ln I A v1 0 9 ) rfl ?_
    exact B_X5_mayStandInHead_51_s1 Ln I A v0 v1 v2 (V_X5_isDigit Ln I A v1 0 9) 
  · have n0 : ¬ (v0 : Int32).toInt = 0 := (fun q => absurd (q.symm.trans c3) (by decide)); have n1 : ¬ (v0 : Int32).toInt = 1 := (fun q => absurd (q.symm.trans c3) (by decide)); have n2 : ¬ (v0 : Int32).toInt = 2 := (fun q => absurd (q.symm.trans c3) (by decide)); try simp only [if_neg n0, if_neg n1, if_neg n2, if_pos c3]
    refine B_X5_mayStandInHead_52 Ln I A v0 v1 v2  (fun q1 => ?_) (fun q1 => ?_)
    · try simp only [if_pos q1]
      refine B_X5_mayStandInHead_63_s1 Ln I A v0 v1 v2 v1  ?_
      refine B_X5_mayStandInHead_64_s2 Ln I A v0 v1 v2 v1 0  (M_X5_isDigit Ln I A v1 0 9 ) rfl ?_
      exact B_X5_mayStandInHead_69_s1 Ln I A v0 v1 v2 (V_X5_isDigit Ln I A v1 0 9) 
    · try simp only [if_neg q1]
      refine B_X5_mayStandInHead_59_s1 Ln I A v0 v1 v2 v1  ?_
      refine B_X5_mayStandInHead_64_s2 Ln I A v0 v1 v2 v1 1  (M_X5_isDigit Ln I A v1 1 9 ) rfl ?_
      exact B_X5_mayStandInHead_69_s1 Ln I A v0 v1 v2 (V_X5_isDigit Ln I A v1 1 9) 
  · try simp only [if_neg c0, if_neg c1, if_neg c2, if_neg c3]
    refine B_X5_mayStandInHead_70 Ln I A v0 v1 v2  (M_X5_isDigit Ln I A v1 1 4 ) rfl ?_
    exact B_X5_mayStandInHead_76_s1 Ln I A v0 v1 v2 (V_X5_isDigit Ln I A v1 1 4) 
def V_X5_mayStandInPart (Ln : Nat) (I A : Nat → Nat → Int32) (v0 : Int32) (v1 : Int32) : Int32 := if (v0 : Int32).toInt = 0 then (if v1 ≠ 59 then 0 else 1) else (if (v0 : Int32).toInt = 1 then (if v1 = 115 then 1 else (if v1 = 100 then 1 else (if v1 ≠ 108 then 0 else 1))) else (if (v0 : Int32).toInt = 2 then (V_X5_isDigit Ln I A v1 0 3) else (if (v0 : Int32).toInt = 3 then (V_X5_isDigit Ln I A v1 1 9) else (if (v0 : Int32).toInt = 4 then (V_X5_isDigit Ln I A v1 0 2) else (V_X5_isDigit Ln I A v1 0 9)))))
set_option maxRecDepth 100000 in
theorem M_X5_mayStandInPart (Ln : Nat) (I A : Nat → Nat → Int32) (v0 : Int32) (v1 : Int32) : zEv 29 0 0 0 [some (.int v0), some (.int v1)] [] (zGs Ln I A) (some (.int (V_X5_mayStandInPart Ln I A v0 v1)), zGs Ln (I) (A)) := by
  unfold V_X5_mayStandInPart
  refine B_X5_mayStandInPart_0 Ln I A v0 v1  (fun c0 => ?_) (fun c1 => ?_) (fun c2 => ?_) (fun c3 => ?_) (fun c4 => ?_) (fun c0 c1 c2 c3 c4 => ?_)
  ·  try simp only [if_pos c0]
    refine B_X5_mayStandInPart_36 Ln I A v0 v1  (fun q0 => ?_) (fun q0 => ?_)
    · try simp only [if_pos q0]
      refine B_X5_mayStandInPart_46 Ln I A v0 v1  ?_
      exact B_X5_mayStandInPart_47_s1 Ln I A v0 v1 0 
    · try simp only [if_neg q0]
      refine B_X5_mayStandInPart_42 Ln I A v0 v1  ?_
      exact B_X5_mayStandInPart_47_s1 Ln I A v0 v1 1 
  · have n0 : ¬ (v0 : Int32).toInt = 0 := (fun q => absurd (q.symm.trans c1) (by decide)); try simp only [if_neg n0, if_pos c1]
    refine B_X5_mayStandInPart_48 Ln I A v0 v1  (fun q1 => ?_) (fun q1 => ?_)
    · try simp only [if_pos q1]
      refine B_X5_mayStandInPart_66 Ln I A v0 v1  ?_
      exact B_X5_mayStandInPart_71_s1 Ln I A v0 v1 1 
    · try simp only [if_neg q1]
      refine B_X5_mayStandInPart_54 Ln I A v0 v1  (fun q2 => ?_) (fun q2 => ?_)
      · try simp only [if_pos q2]
        refine B_X5_mayStandInPart_66 Ln I A v0 v1  ?_
        exact B_X5_mayStandInPart_71_s1 Ln I A v0 v1 1 
      · try simp only [if_neg q2]
        refine B_X5_mayStandInPart_60 Ln I A v0 v1  (fun q3 => ?_) (fun q3 => ?_)
        · try simp only [if_pos q3]
          refine B_X5_mayStandInPart_70 Ln I A v0 v1  ?_
          exact B_X5_mayStandInPart_71_s1 Ln I A v0 v1 0 
        · try simp only [if_neg q3]
          refine B_X5_mayStandInPart_66 Ln I A v0 v1  ?_
          exact B_X5_mayStandInPart_71_s1 Ln I A v0 v1 1 
  · have n0 : ¬ (v0 : Int32).toInt = 0 := (fun q => absurd (q.symm.trans c2) (by decide)); have n1 : ¬ (v0 : Int32).toInt = 1 := (fun q => absurd (q.symm.trans c2) (by decide)); try simp only [if_neg n0, if_neg n1, if_pos c2]
    refine B_X5_mayStandInPart_72 Ln I A v0 v1  (M_X5_isDigit Ln I A v1 0 3 ) rfl ?_
    exact B_X5_mayStandInPart_78_s1 Ln I A v0 v1 (V_X5_isDigit Ln I A v1 0 3) 
  · have n0 : ¬ (v0 : Int32).toInt = 0 := (fun q => absurd (q.symm.trans c3) (by decide)); have n1 : ¬ (v0 : Int32).toInt = 1 := (fun q => absurd (q.symm.trans c3) (by decide)); have n2 : ¬ (v0 : Int32).toInt = 2 := (fun q => absurd (q.symm.trans c3) (by decide)); try simp only [if_neg n0, if_neg n1, if_neg n2, if_pos c3]
    refine B_X5_mayStandInPart_79 Ln I A v0 v1  (M_X5_isDigit Ln I A v1 1 9 ) rfl ?_
    exact B_X5_mayStandInPart_86_s1 Ln I A v0 v1 (V_X5_isDigit Ln I A v1 1 9) 
  · have n0 : ¬ (v0 : Int32).toInt = 0 := (fun q => absurd (q.symm.trans c4) (by decide)); have n1 : ¬ (v0 : Int32).toInt = 1 := (fun q => absurd (q.symm.trans c4) (by decide)); have n2 : ¬ (v0 : Int32).toInt = 2 := (fun q => absurd (q.symm.trans c4) (by decide)); have n3 : ¬ (v0 : Int32).toInt = 3 := (fun q => absurd (q.symm.trans c4) (by decide)); try simp only [if_neg n0, if_neg n1, if_neg n2, if_neg n3, if_pos c4]
    refine B_X5_mayStandInPart_87 Ln I A v0 v1  (M_X5_isDigit Ln I A v1 0 2 ) rfl ?_
    exact B_X5_mayStandInPart_93_s1 Ln I A v0 v1 (V_X5_isDigit Ln I A v1 0 2) 
  · try simp only [if_neg c0, if_neg c1, if_neg c2, if_neg c3, if_neg c4]
    refine B_X5_mayStandInPart_94 Ln I A v0 v1  (M_X5_isDigit Ln I A v1 0 9 ) rfl ?_
    exact B_X5_mayStandInPart_101_s1 Ln I A v0 v1 (V_X5_isDigit Ln I A v1 0 9) 
def V_X7_overBy_r1 (Ln : Nat) (I A : Nat → Nat → Int32) (v1 : Int32) : Int32 := (V_X7_ofNight_r1_r32 Ln I A v1)
def P_X7_overBy_r1 (Ln : Nat) (I A : Nat → Nat → Int32) (v1 : Int32) : Prop := (P_X7_ofNight_r1_r32 Ln I A v1)
set_option maxRecDepth 100000 in
theorem M_X7_overBy_r1 (Ln : Nat) (I A : Nat → Nat → Int32) (v1 : Int32) (h : P_X7_overBy_r1 Ln I A v1) : zEv 52 0 0 0 [some (.ref 1), some (.int v1)] [] (zGs Ln I A) (some (.int (V_X7_overBy_r1 Ln I A v1)), zGs Ln (I) (A)) := by
  unfold P_X7_overBy_r1 at h
  unfold V_X7_overBy_r1
  refine B_X7_overBy_r1_0 Ln I A v1  (M_X7_ofNight_r1_r32 Ln I A v1 h) rfl ?_
  exact B_X7_overBy_r1_12_s1 Ln I A v1 (V_X7_ofNight_r1_r32 Ln I A v1) 
def V_X7_rower_r1 (Ln : Nat) (I A : Nat → Nat → Int32) (v1 : Int32) : Int32 := (V_X7_ofNight_r1_r30 Ln I A v1)
def P_X7_rower_r1 (Ln : Nat) (I A : Nat → Nat → Int32) (v1 : Int32) : Prop := (P_X7_ofNight_r1_r30 Ln I A v1)
set_option maxRecDepth 100000 in
theorem M_X7_rower_r1 (Ln : Nat) (I A : Nat → Nat → Int32) (v1 : Int32) (h : P_X7_rower_r1 Ln I A v1) : zEv 53 0 0 0 [some (.ref 1), some (.int v1)] [] (zGs Ln I A) (some (.int (V_X7_rower_r1 Ln I A v1)), zGs Ln (I) (A)) := by
  unfold P_X7_rower_r1 at h
  unfold V_X7_rower_r1
  refine B_X7_rower_r1_0 Ln I A v1  (M_X7_ofNight_r1_r30 Ln I A v1 h) rfl ?_
  exact B_X7_rower_r1_12_s1 Ln I A v1 (V_X7_ofNight_r1_r30 Ln I A v1) 
def V_X7_sits_r1 (Ln : Nat) (I A : Nat → Nat → Int32) (v1 : Int32) : Int32 := (V_X7_ofNight_r1_r31 Ln I A v1)
def P_X7_sits_r1 (Ln : Nat) (I A : Nat → Nat → Int32) (v1 : Int32) : Prop := (P_X7_ofNight_r1_r31 Ln I A v1)
set_option maxRecDepth 100000 in
theorem M_X7_sits_r1 (Ln : Nat) (I A : Nat → Nat → Int32) (v1 : Int32) (h : P_X7_sits_r1 Ln I A v1) : zEv 54 0 0 0 [some (.ref 1), some (.int v1)] [] (zGs Ln I A) (some (.int (V_X7_sits_r1 Ln I A v1)), zGs Ln (I) (A)) := by
  unfold P_X7_sits_r1 at h
  unfold V_X7_sits_r1
  refine B_X7_sits_r1_0 Ln I A v1  (M_X7_ofNight_r1_r31 Ln I A v1 h) rfl ?_
  exact B_X7_sits_r1_12_s1 Ln I A v1 (V_X7_ofNight_r1_r31 Ln I A v1) 
