/-! methods, by program (wip/whole/gen_fun.py, gen_loop.py) -/
def V_X0_heavy_r11 (Ln : Nat) (I A : Nat → Nat → Int32) (v1 : Int32) : Int32 := if (A 12 (v1).toNatClampNeg : Int32).toInt = 1 then ((A 14 (v1).toNatClampNeg) + 2) else (if (A 12 (v1).toNatClampNeg : Int32).toInt = 2 then (2 * ((A 14 (v1).toNatClampNeg) + 2)) else (A 14 (v1).toNatClampNeg))
def P_X0_heavy_r11 (Ln : Nat) (I A : Nat → Nat → Int32) (v1 : Int32) : Prop := (zin v1 6 = true) ∧ (((A 12 (v1).toNatClampNeg : Int32).toInt = 1 → (zin v1 6 = true)) ∧ ((A 12 (v1).toNatClampNeg : Int32).toInt = 2 → (zin v1 6 = true)) ∧ (¬ (A 12 (v1).toNatClampNeg : Int32).toInt = 1 → ¬ (A 12 (v1).toNatClampNeg : Int32).toInt = 2 → (zin v1 6 = true)))
set_option maxRecDepth 100000 in
theorem M_X0_heavy_r11 (Ln : Nat) (I A : Nat → Nat → Int32) (v1 : Int32) (h : P_X0_heavy_r11 Ln I A v1) : zEv 5 0 0 0 [some (.ref 11), some (.int v1)] [] (zGs Ln I A) (some (.int (V_X0_heavy_r11 Ln I A v1)), zGs Ln (I) (A)) := by
  unfold P_X0_heavy_r11 at h
  unfold V_X0_heavy_r11
  obtain ⟨g0_0, r1_⟩ := h
  refine B_X0_heavy_r11_0 Ln I A v1 g0_0 (fun c0 => ?_) (fun c1 => ?_) (fun c0 c1 => ?_)
  ·  try simp only [if_pos c0]
    have h2 := r1_.1 c0
    exact B_X0_heavy_r11_43 Ln I A v1 h2
  · have n0 : ¬ (A 12 (v1).toNatClampNeg : Int32).toInt = 1 := (fun q => absurd (q.symm.trans c1) (by decide)); try simp only [if_neg n0, if_pos c1]
    have h4 := r1_.2.1 c1
    exact B_X0_heavy_r11_32 Ln I A v1 h4
  · try simp only [if_neg c0, if_neg c1]
    have h6 := r1_.2.2 c0 c1
    exact B_X0_heavy_r11_52 Ln I A v1 h6
def V_X0_price_r11 (Ln : Nat) (I A : Nat → Nat → Int32) (v1 : Int32) : Int32 := if (A 12 (v1).toNatClampNeg : Int32).toInt = 1 then 2 else (if (A 12 (v1).toNatClampNeg : Int32).toInt = 2 then 3 else 1)
def P_X0_price_r11 (Ln : Nat) (I A : Nat → Nat → Int32) (v1 : Int32) : Prop := (zin v1 6 = true)
set_option maxRecDepth 100000 in
theorem M_X0_price_r11 (Ln : Nat) (I A : Nat → Nat → Int32) (v1 : Int32) (h : P_X0_price_r11 Ln I A v1) : zEv 4 0 0 0 [some (.ref 11), some (.int v1)] [] (zGs Ln I A) (some (.int (V_X0_price_r11 Ln I A v1)), zGs Ln (I) (A)) := by
  unfold P_X0_price_r11 at h
  unfold V_X0_price_r11
  refine B_X0_price_r11_0 Ln I A v1 h (fun c0 => ?_) (fun c1 => ?_) (fun c0 c1 => ?_)
  ·  try simp only [if_pos c0]
    exact B_X0_price_r11_34 Ln I A v1 
  · have n0 : ¬ (A 12 (v1).toNatClampNeg : Int32).toInt = 1 := (fun q => absurd (q.symm.trans c1) (by decide)); try simp only [if_neg n0, if_pos c1]
    exact B_X0_price_r11_32 Ln I A v1 
  · try simp only [if_neg c0, if_neg c1]
    exact B_X0_price_r11_36 Ln I A v1 
def V_X2_add_r18 (Ln : Nat) (I A : Nat → Nat → Int32) (v1 : Int32) (v2 : Int32) (v3 : Int32) : Int32 := ((I 18 3) + 1) - 1
def SI_X2_add_r18 (Ln : Nat) (I A : Nat → Nat → Int32) (v1 : Int32) (v2 : Int32) (v3 : Int32) : Nat → Nat → Int32 := zp I 18 3 ((I 18 3) + 1)
def SA_X2_add_r18 (Ln : Nat) (I A : Nat → Nat → Int32) (v1 : Int32) (v2 : Int32) (v3 : Int32) : Nat → Nat → Int32 := zw (zw (zw A 19 ((I 18 3).toNatClampNeg) v1) 20 ((I 18 3).toNatClampNeg) v2) 21 ((I 18 3).toNatClampNeg) v3
def P_X2_add_r18 (Ln : Nat) (I A : Nat → Nat → Int32) (v1 : Int32) (v2 : Int32) (v3 : Int32) : Prop := (zin (I 18 3) 6 = true) ∧ (zin (I 18 3) 6 = true) ∧ (zin (I 18 3) 6 = true)
set_option maxRecDepth 100000 in
theorem M_X2_add_r18 (Ln : Nat) (I A : Nat → Nat → Int32) (v1 : Int32) (v2 : Int32) (v3 : Int32) (h : P_X2_add_r18 Ln I A v1 v2 v3) : zEv 14 0 0 0 [some (.ref 18), some (.int v1), some (.int v2), some (.int v3)] [] (zGs Ln I A) (some (.int (V_X2_add_r18 Ln I A v1 v2 v3)), zGs Ln (SI_X2_add_r18 Ln I A v1 v2 v3) (SA_X2_add_r18 Ln I A v1 v2 v3)) := by
  unfold P_X2_add_r18 at h
  unfold V_X2_add_r18 SI_X2_add_r18 SA_X2_add_r18
  obtain ⟨g0_0, g0_1, g0_2⟩ := h
  exact B_X2_add_r18_0 Ln I A v1 v2 v3 g0_0 g0_1 g0_2
def V_X6_waitOf_r28 (Ln : Nat) (I A : Nat → Nat → Int32) (v1 : Int32) : Int32 := if (A 29 (v1).toNatClampNeg) ≠ ((-9)) then ((A 29 (v1).toNatClampNeg) - (A 15 (v1).toNatClampNeg)) else (60 - (A 15 (v1).toNatClampNeg))
def P_X6_waitOf_r28 (Ln : Nat) (I A : Nat → Nat → Int32) (v1 : Int32) : Prop := (zin v1 6 = true) ∧ (((A 29 (v1).toNatClampNeg) ≠ ((-9)) → ((zin v1 6 = true) ∧ (zin v1 6 = true))) ∧ (¬ ((A 29 (v1).toNatClampNeg) ≠ ((-9))) → (zin v1 6 = true)))
set_option maxRecDepth 100000 in
theorem M_X6_waitOf_r28 (Ln : Nat) (I A : Nat → Nat → Int32) (v1 : Int32) (h : P_X6_waitOf_r28 Ln I A v1) : zEv 42 0 0 0 [some (.ref 28), some (.int v1), none] [] (zGs Ln I A) (some (.int (V_X6_waitOf_r28 Ln I A v1)), zGs Ln (I) (A)) := by
  unfold P_X6_waitOf_r28 at h
  unfold V_X6_waitOf_r28
  obtain ⟨g0_0, r1_⟩ := h
  refine B_X6_waitOf_r28_0 Ln I A v1 g0_0 (fun q2 => ?_) (fun q2 => ?_)
  · try simp only [if_pos q2]
    have h3 := r1_.1 q2
    obtain ⟨g4_0, r5_⟩ := h3
    refine B_X6_waitOf_r28_16 Ln I A v1 g4_0 ?_
    exact B_X6_waitOf_r28_22_s1 Ln I A v1 (A 29 (v1).toNatClampNeg) r5_
  · try simp only [if_neg q2]
    have h7 := r1_.2 q2
    refine B_X6_waitOf_r28_11 Ln I A v1  ?_
    exact B_X6_waitOf_r28_22_s1 Ln I A v1 60 h7
def LA_X6_waitOfAll_r28_4 : Nat → (Ln : Nat) → (I A : Nat → Nat → Int32) → Int32 → Int32 → Int32
  | 0, Ln, I, A, v1, v2 => 0
  | m + 1, Ln, I, A, v1, v2 => if (I 11 0) ≤ v2 then v1 else (LA_X6_waitOfAll_r28_4 m Ln I A (v1 + (V_X6_waitOf_r28 Ln I A v2)) (v2 + 1))
def PLA_X6_waitOfAll_r28_4 : Nat → (Ln : Nat) → (I A : Nat → Nat → Int32) → Int32 → Int32 → Prop
  | 0, Ln, I, A, v1, v2 => False
  | m + 1, Ln, I, A, v1, v2 => ((I 11 0) ≤ v2 → True) ∧ (¬ ((I 11 0) ≤ v2) → ((P_X6_waitOf_r28 Ln I A v2) ∧ (PLA_X6_waitOfAll_r28_4 m Ln I A (v1 + (V_X6_waitOf_r28 Ln I A v2)) (v2 + 1))))
set_option maxRecDepth 100000 in
theorem MLA_X6_waitOfAll_r28_4 (m Ln : Nat) : ∀ (I A : Nat → Nat → Int32) (v1 : Int32) (v2 : Int32), PLA_X6_waitOfAll_r28_4 m Ln I A v1 v2 → zEv 43 4 0 0 [some (.ref 28), some (.int v1), some (.int v2)] [] (zGs Ln I A) (some (.int (LA_X6_waitOfAll_r28_4 m Ln I A v1 v2)), zGs Ln I A) := by
  induction m with
  | zero => intro I A v1 v2 h; exact h.elim
  | succ m ih =>
    intro I A v1 v2 h
    simp only [PLA_X6_waitOfAll_r28_4] at h
    simp only [LA_X6_waitOfAll_r28_4]
    refine B_X6_waitOfAll_r28_4 Ln I A v1 v2  (fun q2 => ?_) (fun q2 => ?_)
    · try simp only [if_pos q2]
      exact B_X6_waitOfAll_r28_29 Ln I A v1 v2 
    · try simp only [if_neg q2]
      have h3 := h.2 q2
      obtain ⟨g4_0, r5_⟩ := h3
      refine B_X6_waitOfAll_r28_15 Ln I A v1 v2  (M_X6_waitOf_r28 Ln I A v2 g4_0) rfl ?_
      refine B_X6_waitOfAll_r28_21_s2 Ln I A v1 v2 v1 (V_X6_waitOf_r28 Ln I A v2)  ?_
      exact ih I A (v1 + (V_X6_waitOf_r28 Ln I A v2)) (v2 + 1) r5_
def V_X6_waitOfAll_r28 (Ln : Nat) (I A : Nat → Nat → Int32) : Int32 := LA_X6_waitOfAll_r28_4 1000 Ln I A 0 0
def P_X6_waitOfAll_r28 (Ln : Nat) (I A : Nat → Nat → Int32) : Prop := PLA_X6_waitOfAll_r28_4 1000 Ln I A 0 0
set_option maxRecDepth 100000 in
theorem M_X6_waitOfAll_r28 (Ln : Nat) (I A : Nat → Nat → Int32) (h : P_X6_waitOfAll_r28 Ln I A) : zEv 43 0 0 0 [some (.ref 28), none, none] [] (zGs Ln I A) (some (.int (V_X6_waitOfAll_r28 Ln I A)), zGs Ln (I) (A)) := by
  unfold P_X6_waitOfAll_r28 at h
  unfold V_X6_waitOfAll_r28
  refine B_X6_waitOfAll_r28_0 Ln I A   ?_
  exact MLA_X6_waitOfAll_r28_4 1000 Ln I A 0 0 h
def LA_X0_whoPays_r11_r42_4 : Nat → (Ln : Nat) → (I A : Nat → Nat → Int32) → Int32 → Int32 → Int32
  | 0, Ln, I, A, v2, v3 => 0
  | m + 1, Ln, I, A, v2, v3 => if (I 11 0) ≤ v3 then v2 else (if (A 42 (v3).toNatClampNeg) < (V_X0_price_r11 Ln I A v3) then (LA_X0_whoPays_r11_r42_4 m Ln I A v2 (v3 + 1)) else (LA_X0_whoPays_r11_r42_4 m Ln I A (v2 ||| (1 <<< (v3 &&& 31))) (v3 + 1)))
def PLA_X0_whoPays_r11_r42_4 : Nat → (Ln : Nat) → (I A : Nat → Nat → Int32) → Int32 → Int32 → Prop
  | 0, Ln, I, A, v2, v3 => False
  | m + 1, Ln, I, A, v2, v3 => ((I 11 0) ≤ v3 → True) ∧ (¬ ((I 11 0) ≤ v3) → ((zin v3 6 = true) ∧ (P_X0_price_r11 Ln I A v3) ∧ (((A 42 (v3).toNatClampNeg) < (V_X0_price_r11 Ln I A v3) → (PLA_X0_whoPays_r11_r42_4 m Ln I A v2 (v3 + 1))) ∧ (¬ ((A 42 (v3).toNatClampNeg) < (V_X0_price_r11 Ln I A v3)) → (PLA_X0_whoPays_r11_r42_4 m Ln I A (v2 ||| (1 <<< (v3 &&& 31))) (v3 + 1))))))
set_option maxRecDepth 100000 in
theorem MLA_X0_whoPays_r11_r42_4 (m Ln : Nat) : ∀ (I A : Nat → Nat → Int32) (v2 : Int32) (v3 : Int32), PLA_X0_whoPays_r11_r42_4 m Ln I A v2 v3 → zEv 6 4 0 0 [some (.ref 11), some (.ref 42), some (.int v2), some (.int v3)] [] (zGs Ln I A) (some (.int (LA_X0_whoPays_r11_r42_4 m Ln I A v2 v3)), zGs Ln I A) := by
  induction m with
  | zero => intro I A v2 v3 h; exact h.elim
  | succ m ih =>
    intro I A v2 v3 h
    simp only [PLA_X0_whoPays_r11_r42_4] at h
    simp only [LA_X0_whoPays_r11_r42_4]
    refine B_X0_whoPays_r11_r42_4 Ln I A v2 v3  (fun q2 => ?_) (fun q2 => ?_)
    · try simp only [if_pos q2]
      exact B_X0_whoPays_r11_r42_35 Ln I A v2 v3 
    · try simp only [if_neg q2]
      have h3 := h.2 q2
      obtain ⟨g4_0, g4_1, r5_⟩ := h3
      refine B_X0_whoPays_r11_r42_12 Ln I A v2 v3 g4_0 (M_X0_price_r11 Ln I A v3 g4_1) rfl ?_
      refine B_X0_whoPays_r11_r42_20_s2 Ln I A v2 v3 (A 42 (v3).toNatClampNeg) (V_X0_price_r11 Ln I A v3)  (fun q8 => ?_) (fun q8 => ?_)
      · try simp only [if_pos q8]
        have h9 := r5_.1 q8
        refine B_X0_whoPays_r11_r42_29 Ln I A v2 v3  ?_
        exact ih I A v2 (v3 + 1) h9
      · try simp only [if_neg q8]
        have h12 := r5_.2 q8
        refine B_X0_whoPays_r11_r42_23 Ln I A v2 v3  ?_
        refine B_X0_whoPays_r11_r42_29 Ln I A (v2 ||| (1 <<< (v3 &&& 31))) v3  ?_
        exact ih I A (v2 ||| (1 <<< (v3 &&& 31))) (v3 + 1) h12
def V_X0_whoPays_r11_r42 (Ln : Nat) (I A : Nat → Nat → Int32) : Int32 := LA_X0_whoPays_r11_r42_4 1000 Ln I A 0 0
def P_X0_whoPays_r11_r42 (Ln : Nat) (I A : Nat → Nat → Int32) : Prop := PLA_X0_whoPays_r11_r42_4 1000 Ln I A 0 0
set_option maxRecDepth 100000 in
theorem M_X0_whoPays_r11_r42 (Ln : Nat) (I A : Nat → Nat → Int32) (h : P_X0_whoPays_r11_r42 Ln I A) : zEv 6 0 0 0 [some (.ref 11), some (.ref 42), none, none] [] (zGs Ln I A) (some (.int (V_X0_whoPays_r11_r42 Ln I A)), zGs Ln (I) (A)) := by
  unfold P_X0_whoPays_r11_r42 at h
  unfold V_X0_whoPays_r11_r42
  refine B_X0_whoPays_r11_r42_0 Ln I A   ?_
  exact MLA_X0_whoPays_r11_r42_4 1000 Ln I A 0 0 h
def V_X7_isNight (Ln : Nat) (I A : Nat → Nat → Int32) (v0 : Int32) : Int32 := if v0 < 0 then 0 else (if 60 ≤ v0 then 0 else 1)
set_option maxRecDepth 100000 in
theorem M_X7_isNight (Ln : Nat) (I A : Nat → Nat → Int32) (v0 : Int32) : zEv 79 0 0 0 [some (.int v0)] [] (zGs Ln I A) (some (.int (V_X7_isNight Ln I A v0)), zGs Ln (I) (A)) := by
  unfold V_X7_isNight
  refine B_X7_isNight_0 Ln I A v0  (fun q0 => ?_) (fun q0 => ?_)
  · try simp only [if_pos q0]
    refine B_X7_isNight_14 Ln I A v0  ?_
    exact B_X7_isNight_15_s1 Ln I A v0 0 
  · try simp only [if_neg q0]
    refine B_X7_isNight_4 Ln I A v0  (fun q1 => ?_) (fun q1 => ?_)
    · try simp only [if_pos q1]
      refine B_X7_isNight_14 Ln I A v0  ?_
      exact B_X7_isNight_15_s1 Ln I A v0 0 
    · try simp only [if_neg q1]
      refine B_X7_isNight_10 Ln I A v0  ?_
      exact B_X7_isNight_15_s1 Ln I A v0 1 
def V_X3_add_r22 (Ln : Nat) (I A : Nat → Nat → Int32) (v1 : Int32) (v2 : Int32) (v3 : Int32) : Int32 := ((I 22 3) + 1) - 1
def SI_X3_add_r22 (Ln : Nat) (I A : Nat → Nat → Int32) (v1 : Int32) (v2 : Int32) (v3 : Int32) : Nat → Nat → Int32 := zp I 22 3 ((I 22 3) + 1)
def SA_X3_add_r22 (Ln : Nat) (I A : Nat → Nat → Int32) (v1 : Int32) (v2 : Int32) (v3 : Int32) : Nat → Nat → Int32 := zw (zw (zw A 23 ((I 22 3).toNatClampNeg) v1) 24 ((I 22 3).toNatClampNeg) v2) 25 ((I 22 3).toNatClampNeg) (vp_nar .boolean v3)
def P_X3_add_r22 (Ln : Nat) (I A : Nat → Nat → Int32) (v1 : Int32) (v2 : Int32) (v3 : Int32) : Prop := (zin (I 22 3) 6 = true) ∧ (zin (I 22 3) 6 = true) ∧ (zin (I 22 3) 6 = true)
set_option maxRecDepth 100000 in
theorem M_X3_add_r22 (Ln : Nat) (I A : Nat → Nat → Int32) (v1 : Int32) (v2 : Int32) (v3 : Int32) (h : P_X3_add_r22 Ln I A v1 v2 v3) : zEv 19 0 0 0 [some (.ref 22), some (.int v1), some (.int v2), some (.int v3)] [] (zGs Ln I A) (some (.int (V_X3_add_r22 Ln I A v1 v2 v3)), zGs Ln (SI_X3_add_r22 Ln I A v1 v2 v3) (SA_X3_add_r22 Ln I A v1 v2 v3)) := by
  unfold P_X3_add_r22 at h
  unfold V_X3_add_r22 SI_X3_add_r22 SA_X3_add_r22
  obtain ⟨g0_0, g0_1, g0_2⟩ := h
  exact B_X3_add_r22_0 Ln I A v1 v2 v3 g0_0 g0_1 g0_2
def LA_X3_allSo_r22_r35_2 : Nat → (Ln : Nat) → (I A : Nat → Nat → Int32) → Int32 → (Option Int32) → Int32
  | 0, Ln, I, A, v2, j3 => 0
  | m + 1, Ln, I, A, v2, j3 => if (I 22 3) ≤ v2 then 1 else (if (((A 39 (A 24 (v2).toNatClampNeg).toNatClampNeg) >>> ((A 23 (v2).toNatClampNeg) &&& 31)) &&& 1) ≠ 1 then (if 0 = (A 25 (v2).toNatClampNeg) then (LA_X3_allSo_r22_r35_2 m Ln I A (v2 + 1) (some 0)) else 0) else (if 1 = (A 25 (v2).toNatClampNeg) then (LA_X3_allSo_r22_r35_2 m Ln I A (v2 + 1) (some 1)) else 0))
def PLA_X3_allSo_r22_r35_2 : Nat → (Ln : Nat) → (I A : Nat → Nat → Int32) → Int32 → (Option Int32) → Prop
  | 0, Ln, I, A, v2, j3 => False
  | m + 1, Ln, I, A, v2, j3 => ((I 22 3) ≤ v2 → True) ∧ (¬ ((I 22 3) ≤ v2) → ((zin v2 6 = true) ∧ (zin (A 24 (v2).toNatClampNeg) 60 = true) ∧ (zin v2 6 = true) ∧ (((((A 39 (A 24 (v2).toNatClampNeg).toNatClampNeg) >>> ((A 23 (v2).toNatClampNeg) &&& 31)) &&& 1) ≠ 1 → ((zin v2 6 = true) ∧ ((0 = (A 25 (v2).toNatClampNeg) → (PLA_X3_allSo_r22_r35_2 m Ln I A (v2 + 1) (some 0))) ∧ (¬ (0 = (A 25 (v2).toNatClampNeg)) → True)))) ∧ (¬ ((((A 39 (A 24 (v2).toNatClampNeg).toNatClampNeg) >>> ((A 23 (v2).toNatClampNeg) &&& 31)) &&& 1) ≠ 1) → ((zin v2 6 = true) ∧ ((1 = (A 25 (v2).toNatClampNeg) → (PLA_X3_allSo_r22_r35_2 m Ln I A (v2 + 1) (some 1))) ∧ (¬ (1 = (A 25 (v2).toNatClampNeg)) → True)))))))
set_option maxRecDepth 100000 in
theorem MLA_X3_allSo_r22_r35_2 (m Ln : Nat) : ∀ (I A : Nat → Nat → Int32) (v2 : Int32) (j3 : Option Int32), PLA_X3_allSo_r22_r35_2 m Ln I A v2 j3 → zEv 20 2 0 0 [some (.ref 22), some (.ref 35), some (.int v2), (Option.map Value.int j3)] [] (zGs Ln I A) (some (.int (LA_X3_allSo_r22_r35_2 m Ln I A v2 j3)), zGs Ln I A) := by
  induction m with
  | zero => intro I A v2 j3 h; exact h.elim
  | succ m ih =>
    intro I A v2 j3 h
    simp only [PLA_X3_allSo_r22_r35_2] at h
    simp only [LA_X3_allSo_r22_r35_2]
    refine B_X3_allSo_r22_r35_2 Ln I A v2 j3  (fun q2 => ?_) (fun q2 => ?_)
    · try simp only [if_pos q2]
      exact B_X3_allSo_r22_r35_58 Ln I A v2 j3 
    · try simp only [if_neg q2]
      have h3 := h.2 q2
      obtain ⟨g4_0, g4_1, g4_2, r5_⟩ := h3
      refine B_X3_allSo_r22_r35_10 Ln I A v2 j3 g4_0 g4_1 g4_2 (fun q6 => ?_) (fun q6 => ?_)
      · try simp only [if_pos q6]
        have h7 := r5_.1 q6
        refine B_X3_allSo_r22_r35_38 Ln I A v2 j3  ?_
        obtain ⟨g10_0, r11_⟩ := h7
        refine B_X3_allSo_r22_r35_39_s1 Ln I A v2 j3 0 g10_0 (fun q12 => ?_) (fun q12 => ?_)
        · try simp only [if_pos q12]
          have h13 := r11_.1 q12
          refine B_X3_allSo_r22_r35_52 Ln I A v2 0  ?_
          exact ih I A (v2 + 1) (some 0) h13
        · try simp only [if_neg q12]
          exact B_X3_allSo_r22_r35_50 Ln I A v2 0 
      · try simp only [if_neg q6]
        have h16 := r5_.2 q6
        refine B_X3_allSo_r22_r35_34 Ln I A v2 j3  ?_
        obtain ⟨g19_0, r20_⟩ := h16
        refine B_X3_allSo_r22_r35_39_s1 Ln I A v2 j3 1 g19_0 (fun q21 => ?_) (fun q21 => ?_)
        · try simp only [if_pos q21]
          have h22 := r20_.1 q21
          refine B_X3_allSo_r22_r35_52 Ln I A v2 1  ?_
          exact ih I A (v2 + 1) (some 1) h22
        · try simp only [if_neg q21]
          exact B_X3_allSo_r22_r35_50 Ln I A v2 1 
def V_X3_allSo_r22_r35 (Ln : Nat) (I A : Nat → Nat → Int32) : Int32 := LA_X3_allSo_r22_r35_2 1000 Ln I A 0 none
def P_X3_allSo_r22_r35 (Ln : Nat) (I A : Nat → Nat → Int32) : Prop := PLA_X3_allSo_r22_r35_2 1000 Ln I A 0 none
set_option maxRecDepth 100000 in
theorem M_X3_allSo_r22_r35 (Ln : Nat) (I A : Nat → Nat → Int32) (h : P_X3_allSo_r22_r35 Ln I A) : zEv 20 0 0 0 [some (.ref 22), some (.ref 35), none, none] [] (zGs Ln I A) (some (.int (V_X3_allSo_r22_r35 Ln I A)), zGs Ln (I) (A)) := by
  unfold P_X3_allSo_r22_r35 at h
  unfold V_X3_allSo_r22_r35
  refine B_X3_allSo_r22_r35_0 Ln I A   ?_
  exact MLA_X3_allSo_r22_r35_2 1000 Ln I A 0 none h
def V_X8_lost (Ln : Nat) (I A : Nat → Nat → Int32) : Int64 := (-9223372036854775808)
set_option maxRecDepth 100000 in
theorem M_X8_lost (Ln : Nat) (I A : Nat → Nat → Int32) : zEv 95 0 0 0 [] [] (zGs Ln I A) (some (.long (V_X8_lost Ln I A)), zGs Ln (I) (A)) := by
  unfold V_X8_lost
  exact B_X8_lost_0 Ln I A  
def V_X8_in (Ln : Nat) (I A : Nat → Nat → Int32) (v0 : Int64) (v2 : Int64) (v4 : Int64) : Int32 := if (lg_cmp v0 v2) < 0 then 0 else (if 0 < (lg_cmp v0 v4) then 0 else 1)
set_option maxRecDepth 100000 in
theorem M_X8_in (Ln : Nat) (I A : Nat → Nat → Int32) (v0 : Int64) (v2 : Int64) (v4 : Int64) : zEv 94 0 0 0 [some (.long (v0)), none, some (.long (v2)), none, some (.long (v4)), none] [] (zGs Ln I A) (some (.int (V_X8_in Ln I A v0 v2 v4)), zGs Ln (I) (A)) := by
  unfold V_X8_in
  refine B_X8_in_0 Ln I A v0 v2 v4  (fun q0 => ?_) (fun q0 => ?_)
  · try simp only [if_pos q0]
    refine B_X8_in_17 Ln I A v0 v2 v4  ?_
    exact B_X8_in_18_s1 Ln I A v0 v2 v4 0 
  · try simp only [if_neg q0]
    refine B_X8_in_6 Ln I A v0 v2 v4  (fun q1 => ?_) (fun q1 => ?_)
    · try simp only [if_pos q1]
      refine B_X8_in_17 Ln I A v0 v2 v4  ?_
      exact B_X8_in_18_s1 Ln I A v0 v2 v4 0 
    · try simp only [if_neg q1]
      refine B_X8_in_13 Ln I A v0 v2 v4  ?_
      exact B_X8_in_18_s1 Ln I A v0 v2 v4 1 
def V_X8_noSheet (Ln : Nat) (I A : Nat → Nat → Int32) (v0 : Int32) : Int32 := if (V_X8_in Ln I A (Int32.toInt64 v0) 0 3) ≠ 0 then 0 else 1
set_option maxRecDepth 100000 in
theorem M_X8_noSheet (Ln : Nat) (I A : Nat → Nat → Int32) (v0 : Int32) : zEv 147 0 0 0 [some (.int v0)] [] (zGs Ln I A) (some (.int (V_X8_noSheet Ln I A v0)), zGs Ln (I) (A)) := by
  unfold V_X8_noSheet
  refine B_X8_noSheet_0 Ln I A v0  (M_X8_in Ln I A (Int32.toInt64 v0) 0 3 ) rfl ?_
  refine B_X8_noSheet_9_s1 Ln I A v0 (V_X8_in Ln I A (Int32.toInt64 v0) 0 3)  (fun q0 => ?_) (fun q0 => ?_)
  · try simp only [if_pos q0]
    refine B_X8_noSheet_16 Ln I A v0  ?_
    exact B_X8_noSheet_17_s1 Ln I A v0 0 
  · try simp only [if_neg q0]
    refine B_X8_noSheet_12 Ln I A v0  ?_
    exact B_X8_noSheet_17_s1 Ln I A v0 1 
def V_X8_isIn (Ln : Nat) (I A : Nat → Nat → Int32) (v0 : Int32) (v1 : Int32) : Int32 := if ((v0 >>> (v1 &&& 31)) &&& 1) ≠ 1 then 0 else 1
set_option maxRecDepth 100000 in
theorem M_X8_isIn (Ln : Nat) (I A : Nat → Nat → Int32) (v0 : Int32) (v1 : Int32) : zEv 96 0 0 0 [some (.int v0), some (.int v1)] [] (zGs Ln I A) (some (.int (V_X8_isIn Ln I A v0 v1)), zGs Ln (I) (A)) := by
  unfold V_X8_isIn
  refine B_X8_isIn_0 Ln I A v0 v1  (fun q0 => ?_) (fun q0 => ?_)
  · try simp only [if_pos q0]
    refine B_X8_isIn_13 Ln I A v0 v1  ?_
    exact B_X8_isIn_14_s1 Ln I A v0 v1 0 
  · try simp only [if_neg q0]
    refine B_X8_isIn_9 Ln I A v0 v1  ?_
    exact B_X8_isIn_14_s1 Ln I A v0 v1 1 
def LA_X8_bits_4 : Nat → (Ln : Nat) → (I A : Nat → Nat → Int32) → Int32 → Int32 → Int32 → Int32
  | 0, Ln, I, A, v0, v1, v2 => 0
  | m + 1, Ln, I, A, v0, v1, v2 => if v2 ≤ 0 then v1 else (LA_X8_bits_4 m Ln I A v0 (v1 + (v2 &&& 1)) (v2 >>> (1 &&& 31)))
def PLA_X8_bits_4 : Nat → (Ln : Nat) → (I A : Nat → Nat → Int32) → Int32 → Int32 → Int32 → Prop
  | 0, Ln, I, A, v0, v1, v2 => False
  | m + 1, Ln, I, A, v0, v1, v2 => (v2 ≤ 0 → True) ∧ (¬ (v2 ≤ 0) → (PLA_X8_bits_4 m Ln I A v0 (v1 + (v2 &&& 1)) (v2 >>> (1 &&& 31))))
set_option maxRecDepth 100000 in
theorem MLA_X8_bits_4 (m Ln : Nat) : ∀ (I A : Nat → Nat → Int32) (v0 : Int32) (v1 : Int32) (v2 : Int32), PLA_X8_bits_4 m Ln I A v0 v1 v2 → zEv 97 4 0 0 [some (.int v0), some (.int v1), some (.int v2)] [] (zGs Ln I A) (some (.int (LA_X8_bits_4 m Ln I A v0 v1 v2)), zGs Ln I A) := by
  induction m with
  | zero => intro I A v0 v1 v2 h; exact h.elim
  | succ m ih =>
    intro I A v0 v1 v2 h
    simp only [PLA_X8_bits_4] at h
    simp only [LA_X8_bits_4]
    refine B_X8_bits_4 Ln I A v0 v1 v2  (fun q2 => ?_) (fun q2 => ?_)
    · try simp only [if_pos q2]
      exact B_X8_bits_21 Ln I A v0 v1 v2 
    · try simp only [if_neg q2]
      have h3 := h.2 q2
      refine B_X8_bits_8 Ln I A v0 v1 v2  ?_
      exact ih I A v0 (v1 + (v2 &&& 1)) (v2 >>> (1 &&& 31)) h3
def V_X8_bits (Ln : Nat) (I A : Nat → Nat → Int32) (v0 : Int32) : Int32 := LA_X8_bits_4 1000 Ln I A v0 0 v0
def P_X8_bits (Ln : Nat) (I A : Nat → Nat → Int32) (v0 : Int32) : Prop := PLA_X8_bits_4 1000 Ln I A v0 0 v0
set_option maxRecDepth 100000 in
theorem M_X8_bits (Ln : Nat) (I A : Nat → Nat → Int32) (v0 : Int32) (h : P_X8_bits Ln I A v0) : zEv 97 0 0 0 [some (.int v0), none, none] [] (zGs Ln I A) (some (.int (V_X8_bits Ln I A v0)), zGs Ln (I) (A)) := by
  unfold P_X8_bits at h
  unfold V_X8_bits
  refine B_X8_bits_0 Ln I A v0  ?_
  exact MLA_X8_bits_4 1000 Ln I A v0 0 v0 h
def V_X8_noNight (Ln : Nat) (I A : Nat → Nat → Int32) (v0 : Int32) : Int32 := if (V_X8_in Ln I A (Int32.toInt64 v0) 0 59) ≠ 0 then 0 else 1
set_option maxRecDepth 100000 in
theorem M_X8_noNight (Ln : Nat) (I A : Nat → Nat → Int32) (v0 : Int32) : zEv 102 0 0 0 [some (.int v0)] [] (zGs Ln I A) (some (.int (V_X8_noNight Ln I A v0)), zGs Ln (I) (A)) := by
  unfold V_X8_noNight
  refine B_X8_noNight_0 Ln I A v0  (M_X8_in Ln I A (Int32.toInt64 v0) 0 59 ) rfl ?_
  refine B_X8_noNight_9_s1 Ln I A v0 (V_X8_in Ln I A (Int32.toInt64 v0) 0 59)  (fun q0 => ?_) (fun q0 => ?_)
  · try simp only [if_pos q0]
    refine B_X8_noNight_16 Ln I A v0  ?_
    exact B_X8_noNight_17_s1 Ln I A v0 0 
  · try simp only [if_neg q0]
    refine B_X8_noNight_12 Ln I A v0  ?_
    exact B_X8_noNight_17_s1 Ln I A v0 1 
def V_X8_isBeyond (Ln : Nat) (I A : Nat → Nat → Int32) (v0 : Int32) (v1 : Int64) (v3 : Int32) : Int32 := if v0 < 0 then 1 else (if (lg_cmp v1 0) < 0 then 1 else (if (lg_cmp ((Int32.toInt64 v0) + v1) (Int32.toInt64 v3)) ≤ 0 then 0 else 1))
set_option maxRecDepth 100000 in
theorem M_X8_isBeyond (Ln : Nat) (I A : Nat → Nat → Int32) (v0 : Int32) (v1 : Int64) (v3 : Int32) : zEv 153 0 0 0 [some (.int v0), some (.long (v1)), none, some (.int v3)] [] (zGs Ln I A) (some (.int (V_X8_isBeyond Ln I A v0 v1 v3)), zGs Ln (I) (A)) := by
  unfold V_X8_isBeyond
  refine B_X8_isBeyond_0 Ln I A v0 v1 v3  (fun q0 => ?_) (fun q0 => ?_)
  · try simp only [if_pos q0]
    refine B_X8_isBeyond_20 Ln I A v0 v1 v3  ?_
    exact B_X8_isBeyond_25_s1 Ln I A v0 v1 v3 1 
  · try simp only [if_neg q0]
    refine B_X8_isBeyond_4 Ln I A v0 v1 v3  (fun q1 => ?_) (fun q1 => ?_)
    · try simp only [if_pos q1]
      refine B_X8_isBeyond_20 Ln I A v0 v1 v3  ?_
      exact B_X8_isBeyond_25_s1 Ln I A v0 v1 v3 1 
    · try simp only [if_neg q1]
      refine B_X8_isBeyond_10 Ln I A v0 v1 v3  (fun q2 => ?_) (fun q2 => ?_)
      · try simp only [if_pos q2]
        refine B_X8_isBeyond_24 Ln I A v0 v1 v3  ?_
        exact B_X8_isBeyond_25_s1 Ln I A v0 v1 v3 0 
      · try simp only [if_neg q2]
        refine B_X8_isBeyond_20 Ln I A v0 v1 v3  ?_
        exact B_X8_isBeyond_25_s1 Ln I A v0 v1 v3 1 
def LA_X0_knowsAll_r11_r4_3 : Nat → (Ln : Nat) → (I A : Nat → Nat → Int32) → Int32 → Int32 → Int32 → Int32
  | 0, Ln, I, A, v2, v3, v4 => 0
  | m + 1, Ln, I, A, v2, v3, v4 => if v3 ≤ v4 then 1 else (if ((A 4 (v2 + v4).toNatClampNeg) >>> ((I 11 0) &&& 31)) = 0 then (LA_X0_knowsAll_r11_r4_3 m Ln I A v2 v3 (v4 + 1)) else 0)
def PLA_X0_knowsAll_r11_r4_3 : Nat → (Ln : Nat) → (I A : Nat → Nat → Int32) → Int32 → Int32 → Int32 → Prop
  | 0, Ln, I, A, v2, v3, v4 => False
  | m + 1, Ln, I, A, v2, v3, v4 => (v3 ≤ v4 → True) ∧ (¬ (v3 ≤ v4) → ((zin (v2 + v4) 60 = true) ∧ ((((A 4 (v2 + v4).toNatClampNeg) >>> ((I 11 0) &&& 31)) = 0 → (PLA_X0_knowsAll_r11_r4_3 m Ln I A v2 v3 (v4 + 1))) ∧ (¬ (((A 4 (v2 + v4).toNatClampNeg) >>> ((I 11 0) &&& 31)) = 0) → True))))
set_option maxRecDepth 100000 in
theorem MLA_X0_knowsAll_r11_r4_3 (m Ln : Nat) : ∀ (I A : Nat → Nat → Int32) (v2 : Int32) (v3 : Int32) (v4 : Int32), PLA_X0_knowsAll_r11_r4_3 m Ln I A v2 v3 v4 → zEv 7 3 0 0 [some (.ref 11), some (.ref 4), some (.int v2), some (.int v3), some (.int v4)] [] (zGs Ln I A) (some (.int (LA_X0_knowsAll_r11_r4_3 m Ln I A v2 v3 v4)), zGs Ln I A) := by
  induction m with
  | zero => intro I A v2 v3 v4 h; exact h.elim
  | succ m ih =>
    intro I A v2 v3 v4 h
    simp only [PLA_X0_knowsAll_r11_r4_3] at h
    simp only [LA_X0_knowsAll_r11_r4_3]
    refine B_X0_knowsAll_r11_r4_3 Ln I A v2 v3 v4  (fun q2 => ?_) (fun q2 => ?_)
    · try simp only [if_pos q2]
      exact B_X0_knowsAll_r11_r4_31 Ln I A v2 v3 v4 
    · try simp only [if_neg q2]
      have h3 := h.2 q2
      obtain ⟨g4_0, r5_⟩ := h3
      refine B_X0_knowsAll_r11_r4_9 Ln I A v2 v3 v4 g4_0 (fun q6 => ?_) (fun q6 => ?_)
      · try simp only [if_pos q6]
        have h7 := r5_.1 q6
        refine B_X0_knowsAll_r11_r4_25 Ln I A v2 v3 v4  ?_
        exact ih I A v2 v3 (v4 + 1) h7
      · try simp only [if_neg q6]
        exact B_X0_knowsAll_r11_r4_23 Ln I A v2 v3 v4 
def V_X0_knowsAll_r11_r4 (Ln : Nat) (I A : Nat → Nat → Int32) (v2 : Int32) (v3 : Int32) : Int32 := LA_X0_knowsAll_r11_r4_3 1000 Ln I A v2 v3 0
def P_X0_knowsAll_r11_r4 (Ln : Nat) (I A : Nat → Nat → Int32) (v2 : Int32) (v3 : Int32) : Prop := PLA_X0_knowsAll_r11_r4_3 1000 Ln I A v2 v3 0
set_option maxRecDepth 100000 in
theorem M_X0_knowsAll_r11_r4 (Ln : Nat) (I A : Nat → Nat → Int32) (v2 : Int32) (v3 : Int32) (h : P_X0_knowsAll_r11_r4 Ln I A v2 v3) : zEv 7 0 0 0 [some (.ref 11), some (.ref 4), some (.int v2), some (.int v3), none] [] (zGs Ln I A) (some (.int (V_X0_knowsAll_r11_r4 Ln I A v2 v3)), zGs Ln (I) (A)) := by
  unfold P_X0_knowsAll_r11_r4 at h
  unfold V_X0_knowsAll_r11_r4
  refine B_X0_knowsAll_r11_r4_0 Ln I A v2 v3  ?_
  exact MLA_X0_knowsAll_r11_r4_3 1000 Ln I A v2 v3 0 h
def LA_X0_knowsAll_r11_r6_3 : Nat → (Ln : Nat) → (I A : Nat → Nat → Int32) → Int32 → Int32 → Int32 → Int32
  | 0, Ln, I, A, v2, v3, v4 => 0
  | m + 1, Ln, I, A, v2, v3, v4 => if v3 ≤ v4 then 1 else (if ((A 6 (v2 + v4).toNatClampNeg) >>> ((I 11 0) &&& 31)) = 0 then (LA_X0_knowsAll_r11_r6_3 m Ln I A v2 v3 (v4 + 1)) else 0)
def PLA_X0_knowsAll_r11_r6_3 : Nat → (Ln : Nat) → (I A : Nat → Nat → Int32) → Int32 → Int32 → Int32 → Prop
  | 0, Ln, I, A, v2, v3, v4 => False
  | m + 1, Ln, I, A, v2, v3, v4 => (v3 ≤ v4 → True) ∧ (¬ (v3 ≤ v4) → ((zin (v2 + v4) 60 = true) ∧ ((((A 6 (v2 + v4).toNatClampNeg) >>> ((I 11 0) &&& 31)) = 0 → (PLA_X0_knowsAll_r11_r6_3 m Ln I A v2 v3 (v4 + 1))) ∧ (¬ (((A 6 (v2 + v4).toNatClampNeg) >>> ((I 11 0) &&& 31)) = 0) → True))))
set_option maxRecDepth 100000 in
theorem MLA_X0_knowsAll_r11_r6_3 (m Ln : Nat) : ∀ (I A : Nat → Nat → Int32) (v2 : Int32) (v3 : Int32) (v4 : Int32), PLA_X0_knowsAll_r11_r6_3 m Ln I A v2 v3 v4 → zEv 7 3 0 0 [some (.ref 11), some (.ref 6), some (.int v2), some (.int v3), some (.int v4)] [] (zGs Ln I A) (some (.int (LA_X0_knowsAll_r11_r6_3 m Ln I A v2 v3 v4)), zGs Ln I A) := by
  induction m with
  | zero => intro I A v2 v3 v4 h; exact h.elim
  | succ m ih =>
    intro I A v2 v3 v4 h
    simp only [PLA_X0_knowsAll_r11_r6_3] at h
    simp only [LA_X0_knowsAll_r11_r6_3]
    refine B_X0_knowsAll_r11_r6_3 Ln I A v2 v3 v4  (fun q2 => ?_) (fun q2 => ?_)
    · try simp only [if_pos q2]
      exact B_X0_knowsAll_r11_r6_31 Ln I A v2 v3 v4 
    · try simp only [if_neg q2]
      have h3 := h.2 q2
      obtain ⟨g4_0, r5_⟩ := h3
      refine B_X0_knowsAll_r11_r6_9 Ln I A v2 v3 v4 g4_0 (fun q6 => ?_) (fun q6 => ?_)
      · try simp only [if_pos q6]
        have h7 := r5_.1 q6
        refine B_X0_knowsAll_r11_r6_25 Ln I A v2 v3 v4  ?_
        exact ih I A v2 v3 (v4 + 1) h7
      · try simp only [if_neg q6]
        exact B_X0_knowsAll_r11_r6_23 Ln I A v2 v3 v4 
def V_X0_knowsAll_r11_r6 (Ln : Nat) (I A : Nat → Nat → Int32) (v2 : Int32) (v3 : Int32) : Int32 := LA_X0_knowsAll_r11_r6_3 1000 Ln I A v2 v3 0
def P_X0_knowsAll_r11_r6 (Ln : Nat) (I A : Nat → Nat → Int32) (v2 : Int32) (v3 : Int32) : Prop := PLA_X0_knowsAll_r11_r6_3 1000 Ln I A v2 v3 0
set_option maxRecDepth 100000 in
theorem M_X0_knowsAll_r11_r6 (Ln : Nat) (I A : Nat → Nat → Int32) (v2 : Int32) (v3 : Int32) (h : P_X0_knowsAll_r11_r6 Ln I A v2 v3) : zEv 7 0 0 0 [some (.ref 11), some (.ref 6), some (.int v2), some (.int v3), none] [] (zGs Ln I A) (some (.int (V_X0_knowsAll_r11_r6 Ln I A v2 v3)), zGs Ln (I) (A)) := by
  unfold P_X0_knowsAll_r11_r6 at h
  unfold V_X0_knowsAll_r11_r6
  refine B_X0_knowsAll_r11_r6_0 Ln I A v2 v3  ?_
  exact MLA_X0_knowsAll_r11_r6_3 1000 Ln I A v2 v3 0 h
def LA_X0_knowsAll_r11_r8_3 : Nat → (Ln : Nat) → (I A : Nat → Nat → Int32) → Int32 → Int32 → Int32 → Int32
  | 0, Ln, I, A, v2, v3, v4 => 0
  | m + 1, Ln, I, A, v2, v3, v4 => if v3 ≤ v4 then 1 else (if ((A 8 (v2 + v4).toNatClampNeg) >>> ((I 11 0) &&& 31)) = 0 then (LA_X0_knowsAll_r11_r8_3 m Ln I A v2 v3 (v4 + 1)) else 0)
def PLA_X0_knowsAll_r11_r8_3 : Nat → (Ln : Nat) → (I A : Nat → Nat → Int32) → Int32 → Int32 → Int32 → Prop
  | 0, Ln, I, A, v2, v3, v4 => False
  | m + 1, Ln, I, A, v2, v3, v4 => (v3 ≤ v4 → True) ∧ (¬ (v3 ≤ v4) → ((zin (v2 + v4) 60 = true) ∧ ((((A 8 (v2 + v4).toNatClampNeg) >>> ((I 11 0) &&& 31)) = 0 → (PLA_X0_knowsAll_r11_r8_3 m Ln I A v2 v3 (v4 + 1))) ∧ (¬ (((A 8 (v2 + v4).toNatClampNeg) >>> ((I 11 0) &&& 31)) = 0) → True))))
set_option maxRecDepth 100000 in
theorem MLA_X0_knowsAll_r11_r8_3 (m Ln : Nat) : ∀ (I A : Nat → Nat → Int32) (v2 : Int32) (v3 : Int32) (v4 : Int32), PLA_X0_knowsAll_r11_r8_3 m Ln I A v2 v3 v4 → zEv 7 3 0 0 [some (.ref 11), some (.ref 8), some (.int v2), some (.int v3), some (.int v4)] [] (zGs Ln I A) (some (.int (LA_X0_knowsAll_r11_r8_3 m Ln I A v2 v3 v4)), zGs Ln I A) := by
  induction m with
  | zero => intro I A v2 v3 v4 h; exact h.elim
  | succ m ih =>
    intro I A v2 v3 v4 h
    simp only [PLA_X0_knowsAll_r11_r8_3] at h
    simp only [LA_X0_knowsAll_r11_r8_3]
    refine B_X0_knowsAll_r11_r8_3 Ln I A v2 v3 v4  (fun q2 => ?_) (fun q2 => ?_)
    · try simp only [if_pos q2]
      exact B_X0_knowsAll_r11_r8_31 Ln I A v2 v3 v4 
    · try simp only [if_neg q2]
      have h3 := h.2 q2
      obtain ⟨g4_0, r5_⟩ := h3
      refine B_X0_knowsAll_r11_r8_9 Ln I A v2 v3 v4 g4_0 (fun q6 => ?_) (fun q6 => ?_)
      · try simp only [if_pos q6]
        have h7 := r5_.1 q6
        refine B_X0_knowsAll_r11_r8_25 Ln I A v2 v3 v4  ?_
        exact ih I A v2 v3 (v4 + 1) h7
      · try simp only [if_neg q6]
        exact B_X0_knowsAll_r11_r8_23 Ln I A v2 v3 v4 
def V_X0_knowsAll_r11_r8 (Ln : Nat) (I A : Nat → Nat → Int32) (v2 : Int32) (v3 : Int32) : Int32 := LA_X0_knowsAll_r11_r8_3 1000 Ln I A v2 v3 0
def P_X0_knowsAll_r11_r8 (Ln : Nat) (I A : Nat → Nat → Int32) (v2 : Int32) (v3 : Int32) : Prop := PLA_X0_knowsAll_r11_r8_3 1000 Ln I A v2 v3 0
set_option maxRecDepth 100000 in
theorem M_X0_knowsAll_r11_r8 (Ln : Nat) (I A : Nat → Nat → Int32) (v2 : Int32) (v3 : Int32) (h : P_X0_knowsAll_r11_r8 Ln I A v2 v3) : zEv 7 0 0 0 [some (.ref 11), some (.ref 8), some (.int v2), some (.int v3), none] [] (zGs Ln I A) (some (.int (V_X0_knowsAll_r11_r8 Ln I A v2 v3)), zGs Ln (I) (A)) := by
  unfold P_X0_knowsAll_r11_r8 at h
  unfold V_X0_knowsAll_r11_r8
  refine B_X0_knowsAll_r11_r8_0 Ln I A v2 v3  ?_
  exact MLA_X0_knowsAll_r11_r8_3 1000 Ln I A v2 v3 0 h
def LA_X0_knowsAll_r11_r10_3 : Nat → (Ln : Nat) → (I A : Nat → Nat → Int32) → Int32 → Int32 → Int32 → Int32
  | 0, Ln, I, A, v2, v3, v4 => 0
  | m + 1, Ln, I, A, v2, v3, v4 => if v3 ≤ v4 then 1 else (if ((A 10 (v2 + v4).toNatClampNeg) >>> ((I 11 0) &&& 31)) = 0 then (LA_X0_knowsAll_r11_r10_3 m Ln I A v2 v3 (v4 + 1)) else 0)
def PLA_X0_knowsAll_r11_r10_3 : Nat → (Ln : Nat) → (I A : Nat → Nat → Int32) → Int32 → Int32 → Int32 → Prop
  | 0, Ln, I, A, v2, v3, v4 => False
  | m + 1, Ln, I, A, v2, v3, v4 => (v3 ≤ v4 → True) ∧ (¬ (v3 ≤ v4) → ((zin (v2 + v4) 60 = true) ∧ ((((A 10 (v2 + v4).toNatClampNeg) >>> ((I 11 0) &&& 31)) = 0 → (PLA_X0_knowsAll_r11_r10_3 m Ln I A v2 v3 (v4 + 1))) ∧ (¬ (((A 10 (v2 + v4).toNatClampNeg) >>> ((I 11 0) &&& 31)) = 0) → True))))
set_option maxRecDepth 100000 in
theorem MLA_X0_knowsAll_r11_r10_3 (m Ln : Nat) : ∀ (I A : Nat → Nat → Int32) (v2 : Int32) (v3 : Int32) (v4 : Int32), PLA_X0_knowsAll_r11_r10_3 m Ln I A v2 v3 v4 → zEv 7 3 0 0 [some (.ref 11), some (.ref 10), some (.int v2), some (.int v3), some (.int v4)] [] (zGs Ln I A) (some (.int (LA_X0_knowsAll_r11_r10_3 m Ln I A v2 v3 v4)), zGs Ln I A) := by
  induction m with
  | zero => intro I A v2 v3 v4 h; exact h.elim
  | succ m ih =>
    intro I A v2 v3 v4 h
    simp only [PLA_X0_knowsAll_r11_r10_3] at h
    simp only [LA_X0_knowsAll_r11_r10_3]
    refine B_X0_knowsAll_r11_r10_3 Ln I A v2 v3 v4  (fun q2 => ?_) (fun q2 => ?_)
    · try simp only [if_pos q2]
      exact B_X0_knowsAll_r11_r10_31 Ln I A v2 v3 v4 
    · try simp only [if_neg q2]
      have h3 := h.2 q2
      obtain ⟨g4_0, r5_⟩ := h3
      refine B_X0_knowsAll_r11_r10_9 Ln I A v2 v3 v4 g4_0 (fun q6 => ?_) (fun q6 => ?_)
      · try simp only [if_pos q6]
        have h7 := r5_.1 q6
        refine B_X0_knowsAll_r11_r10_25 Ln I A v2 v3 v4  ?_
        exact ih I A v2 v3 (v4 + 1) h7
      · try simp only [if_neg q6]
        exact B_X0_knowsAll_r11_r10_23 Ln I A v2 v3 v4 
def V_X0_knowsAll_r11_r10 (Ln : Nat) (I A : Nat → Nat → Int32) (v2 : Int32) (v3 : Int32) : Int32 := LA_X0_knowsAll_r11_r10_3 1000 Ln I A v2 v3 0
def P_X0_knowsAll_r11_r10 (Ln : Nat) (I A : Nat → Nat → Int32) (v2 : Int32) (v3 : Int32) : Prop := PLA_X0_knowsAll_r11_r10_3 1000 Ln I A v2 v3 0
set_option maxRecDepth 100000 in
theorem M_X0_knowsAll_r11_r10 (Ln : Nat) (I A : Nat → Nat → Int32) (v2 : Int32) (v3 : Int32) (h : P_X0_knowsAll_r11_r10 Ln I A v2 v3) : zEv 7 0 0 0 [some (.ref 11), some (.ref 10), some (.int v2), some (.int v3), none] [] (zGs Ln I A) (some (.int (V_X0_knowsAll_r11_r10 Ln I A v2 v3)), zGs Ln (I) (A)) := by
  unfold P_X0_knowsAll_r11_r10 at h
  unfold V_X0_knowsAll_r11_r10
  refine B_X0_knowsAll_r11_r10_0 Ln I A v2 v3  ?_
  exact MLA_X0_knowsAll_r11_r10_3 1000 Ln I A v2 v3 0 h
def SA_X4_write_r3 (Ln : Nat) (I A : Nat → Nat → Int32) (v1 : Int32) (v2 : Int32) : Nat → Nat → Int32 := if (I 3 2 : Int32).toInt = 0 then (zw A 4 ((v1).toNatClampNeg) ((Int32.toInt8 v2).toInt32)) else (if (I 3 2 : Int32).toInt = 1 then (zw A 4 ((v1).toNatClampNeg) ((Int32.toInt16 v2).toInt32)) else (zw A 4 ((v1).toNatClampNeg) v2))
def P_X4_write_r3 (Ln : Nat) (I A : Nat → Nat → Int32) (v1 : Int32) (v2 : Int32) : Prop := ((I 3 2 : Int32).toInt = 0 → (zin v1 60 = true)) ∧ ((I 3 2 : Int32).toInt = 1 → (zin v1 60 = true)) ∧ (¬ (I 3 2 : Int32).toInt = 0 → ¬ (I 3 2 : Int32).toInt = 1 → (zin v1 60 = true))
set_option maxRecDepth 100000 in
theorem M_X4_write_r3 (Ln : Nat) (I A : Nat → Nat → Int32) (v1 : Int32) (v2 : Int32) (h : P_X4_write_r3 Ln I A v1 v2) : zEv 25 0 0 0 [some (.ref 3), some (.int v1), some (.int v2)] [] (zGs Ln I A) (none, zGs Ln (I) (SA_X4_write_r3 Ln I A v1 v2)) := by
  unfold P_X4_write_r3 at h
  unfold SA_X4_write_r3
  refine B_X4_write_r3_0 Ln I A v1 v2  (fun c0 => ?_) (fun c1 => ?_) (fun c0 c1 => ?_)
  ·  try simp only [if_pos c0]
    have h2 := h.1 c0
    refine B_X4_write_r3_32 Ln I A v1 v2 h2 ?_
    exact B_X4_write_r3_61 Ln I (zw A 4 ((v1).toNatClampNeg) ((Int32.toInt8 v2).toInt32)) v1 v2 
  · have n0 : ¬ (I 3 2 : Int32).toInt = 0 := (fun q => absurd (q.symm.trans c1) (by decide)); try simp only [if_neg n0, if_pos c1]
    have h4 := h.2.1 c1
    refine B_X4_write_r3_43 Ln I A v1 v2 h4 ?_
    exact B_X4_write_r3_61 Ln I (zw A 4 ((v1).toNatClampNeg) ((Int32.toInt16 v2).toInt32)) v1 v2 
  · try simp only [if_neg c0, if_neg c1]
    have h6 := h.2.2 c0 c1
    refine B_X4_write_r3_54 Ln I A v1 v2 h6 ?_
    exact B_X4_write_r3_61 Ln I (zw A 4 ((v1).toNatClampNeg) v2) v1 v2 
def SA_X4_write_r5 (Ln : Nat) (I A : Nat → Nat → Int32) (v1 : Int32) (v2 : Int32) : Nat → Nat → Int32 := if (I 5 2 : Int32).toInt = 0 then (zw A 6 ((v1).toNatClampNeg) ((Int32.toInt8 v2).toInt32)) else (if (I 5 2 : Int32).toInt = 1 then (zw A 6 ((v1).toNatClampNeg) ((Int32.toInt16 v2).toInt32)) else (zw A 6 ((v1).toNatClampNeg) v2))
def P_X4_write_r5 (Ln : Nat) (I A : Nat → Nat → Int32) (v1 : Int32) (v2 : Int32) : Prop := ((I 5 2 : Int32).toInt = 0 → (zin v1 60 = true)) ∧ ((I 5 2 : Int32).toInt = 1 → (zin v1 60 = true)) ∧ (¬ (I 5 2 : Int32).toInt = 0 → ¬ (I 5 2 : Int32).toInt = 1 → (zin v1 60 = true))
set_option maxRecDepth 100000 in
theorem M_X4_write_r5 (Ln : Nat) (I A : Nat → Nat → Int32) (v1 : Int32) (v2 : Int32) (h : P_X4_write_r5 Ln I A v1 v2) : zEv 25 0 0 0 [some (.ref 5), some (.int v1), some (.int v2)] [] (zGs Ln I A) (none, zGs Ln (I) (SA_X4_write_r5 Ln I A v1 v2)) := by
  unfold P_X4_write_r5 at h
  unfold SA_X4_write_r5
  refine B_X4_write_r5_0 Ln I A v1 v2  (fun c0 => ?_) (fun c1 => ?_) (fun c0 c1 => ?_)
  ·  try simp only [if_pos c0]
    have h2 := h.1 c0
    refine B_X4_write_r5_32 Ln I A v1 v2 h2 ?_
    exact B_X4_write_r5_61 Ln I (zw A 6 ((v1).toNatClampNeg) ((Int32.toInt8 v2).toInt32)) v1 v2 
  · have n0 : ¬ (I 5 2 : Int32).toInt = 0 := (fun q => absurd (q.symm.trans c1) (by decide)); try simp only [if_neg n0, if_pos c1]
    have h4 := h.2.1 c1
    refine B_X4_write_r5_43 Ln I A v1 v2 h4 ?_
    exact B_X4_write_r5_61 Ln I (zw A 6 ((v1).toNatClampNeg) ((Int32.toInt16 v2).toInt32)) v1 v2 
  · try simp only [if_neg c0, if_neg c1]
    have h6 := h.2.2 c0 c1
    refine B_X4_write_r5_54 Ln I A v1 v2 h6 ?_
    exact B_X4_write_r5_61 Ln I (zw A 6 ((v1).toNatClampNeg) v2) v1 v2 
def SA_X4_write_r7 (Ln : Nat) (I A : Nat → Nat → Int32) (v1 : Int32) (v2 : Int32) : Nat → Nat → Int32 := if (I 7 2 : Int32).toInt = 0 then (zw A 8 ((v1).toNatClampNeg) ((Int32.toInt8 v2).toInt32)) else (if (I 7 2 : Int32).toInt = 1 then (zw A 8 ((v1).toNatClampNeg) ((Int32.toInt16 v2).toInt32)) else (zw A 8 ((v1).toNatClampNeg) v2))
def P_X4_write_r7 (Ln : Nat) (I A : Nat → Nat → Int32) (v1 : Int32) (v2 : Int32) : Prop := ((I 7 2 : Int32).toInt = 0 → (zin v1 60 = true)) ∧ ((I 7 2 : Int32).toInt = 1 → (zin v1 60 = true)) ∧ (¬ (I 7 2 : Int32).toInt = 0 → ¬ (I 7 2 : Int32).toInt = 1 → (zin v1 60 = true))
set_option maxRecDepth 100000 in
theorem M_X4_write_r7 (Ln : Nat) (I A : Nat → Nat → Int32) (v1 : Int32) (v2 : Int32) (h : P_X4_write_r7 Ln I A v1 v2) : zEv 25 0 0 0 [some (.ref 7), some (.int v1), some (.int v2)] [] (zGs Ln I A) (none, zGs Ln (I) (SA_X4_write_r7 Ln I A v1 v2)) := by
  unfold P_X4_write_r7 at h
  unfold SA_X4_write_r7
  refine B_X4_write_r7_0 Ln I A v1 v2  (fun c0 => ?_) (fun c1 => ?_) (fun c0 c1 => ?_)
  ·  try simp only [if_pos c0]
    have h2 := h.1 c0
    refine B_X4_write_r7_32 Ln I A v1 v2 h2 ?_
    exact B_X4_write_r7_61 Ln I (zw A 8 ((v1).toNatClampNeg) ((Int32.toInt8 v2).toInt32)) v1 v2 
  · have n0 : ¬ (I 7 2 : Int32).toInt = 0 := (fun q => absurd (q.symm.trans c1) (by decide)); try simp only [if_neg n0, if_pos c1]
    have h4 := h.2.1 c1
    refine B_X4_write_r7_43 Ln I A v1 v2 h4 ?_
    exact B_X4_write_r7_61 Ln I (zw A 8 ((v1).toNatClampNeg) ((Int32.toInt16 v2).toInt32)) v1 v2 
  · try simp only [if_neg c0, if_neg c1]
    have h6 := h.2.2 c0 c1
    refine B_X4_write_r7_54 Ln I A v1 v2 h6 ?_
    exact B_X4_write_r7_61 Ln I (zw A 8 ((v1).toNatClampNeg) v2) v1 v2 
def SA_X4_write_r9 (Ln : Nat) (I A : Nat → Nat → Int32) (v1 : Int32) (v2 : Int32) : Nat → Nat → Int32 := if (I 9 2 : Int32).toInt = 0 then (zw A 10 ((v1).toNatClampNeg) ((Int32.toInt8 v2).toInt32)) else (if (I 9 2 : Int32).toInt = 1 then (zw A 10 ((v1).toNatClampNeg) ((Int32.toInt16 v2).toInt32)) else (zw A 10 ((v1).toNatClampNeg) v2))
def P_X4_write_r9 (Ln : Nat) (I A : Nat → Nat → Int32) (v1 : Int32) (v2 : Int32) : Prop := ((I 9 2 : Int32).toInt = 0 → (zin v1 60 = true)) ∧ ((I 9 2 : Int32).toInt = 1 → (zin v1 60 = true)) ∧ (¬ (I 9 2 : Int32).toInt = 0 → ¬ (I 9 2 : Int32).toInt = 1 → (zin v1 60 = true))
set_option maxRecDepth 100000 in
theorem M_X4_write_r9 (Ln : Nat) (I A : Nat → Nat → Int32) (v1 : Int32) (v2 : Int32) (h : P_X4_write_r9 Ln I A v1 v2) : zEv 25 0 0 0 [some (.ref 9), some (.int v1), some (.int v2)] [] (zGs Ln I A) (none, zGs Ln (I) (SA_X4_write_r9 Ln I A v1 v2)) := by
  unfold P_X4_write_r9 at h
  unfold SA_X4_write_r9
  refine B_X4_write_r9_0 Ln I A v1 v2  (fun c0 => ?_) (fun c1 => ?_) (fun c0 c1 => ?_)
  ·  try simp only [if_pos c0]
    have h2 := h.1 c0
    refine B_X4_write_r9_32 Ln I A v1 v2 h2 ?_
    exact B_X4_write_r9_61 Ln I (zw A 10 ((v1).toNatClampNeg) ((Int32.toInt8 v2).toInt32)) v1 v2 
  · have n0 : ¬ (I 9 2 : Int32).toInt = 0 := (fun q => absurd (q.symm.trans c1) (by decide)); try simp only [if_neg n0, if_pos c1]
    have h4 := h.2.1 c1
    refine B_X4_write_r9_43 Ln I A v1 v2 h4 ?_
    exact B_X4_write_r9_61 Ln I (zw A 10 ((v1).toNatClampNeg) ((Int32.toInt16 v2).toInt32)) v1 v2 
  · try simp only [if_neg c0, if_neg c1]
    have h6 := h.2.2 c0 c1
    refine B_X4_write_r9_54 Ln I A v1 v2 h6 ?_
    exact B_X4_write_r9_61 Ln I (zw A 10 ((v1).toNatClampNeg) v2) v1 v2 
def V_X4_holds_r3 (Ln : Nat) (I A : Nat → Nat → Int32) (v1 : Int32) (v2 : Int32) : Int32 := if v1 < 0 then 0 else (if (I 3 3) < v1 then 0 else (if ((I 3 3) - v1) < v2 then 0 else 1))
set_option maxRecDepth 100000 in
theorem M_X4_holds_r3 (Ln : Nat) (I A : Nat → Nat → Int32) (v1 : Int32) (v2 : Int32) : zEv 23 0 0 0 [some (.ref 3), some (.int v1), some (.int v2)] [] (zGs Ln I A) (some (.int (V_X4_holds_r3 Ln I A v1 v2)), zGs Ln (I) (A)) := by
  unfold V_X4_holds_r3
  refine B_X4_holds_r3_0 Ln I A v1 v2  (fun q0 => ?_) (fun q0 => ?_)
  · try simp only [if_pos q0]
    refine B_X4_holds_r3_26 Ln I A v1 v2  ?_
    exact B_X4_holds_r3_27_s1 Ln I A v1 v2 0 
  · try simp only [if_neg q0]
    refine B_X4_holds_r3_4 Ln I A v1 v2  (fun q1 => ?_) (fun q1 => ?_)
    · try simp only [if_pos q1]
      refine B_X4_holds_r3_26 Ln I A v1 v2  ?_
      exact B_X4_holds_r3_27_s1 Ln I A v1 v2 0 
    · try simp only [if_neg q1]
      refine B_X4_holds_r3_12 Ln I A v1 v2  (fun q2 => ?_) (fun q2 => ?_)
      · try simp only [if_pos q2]
        refine B_X4_holds_r3_26 Ln I A v1 v2  ?_
        exact B_X4_holds_r3_27_s1 Ln I A v1 v2 0 
      · try simp only [if_neg q2]
        refine B_X4_holds_r3_22 Ln I A v1 v2  ?_
        exact B_X4_holds_r3_27_s1 Ln I A v1 v2 1 
def V_X4_holds_r5 (Ln : Nat) (I A : Nat → Nat → Int32) (v1 : Int32) (v2 : Int32) : Int32 := if v1 < 0 then 0 else (if (I 5 3) < v1 then 0 else (if ((I 5 3) - v1) < v2 then 0 else 1))
set_option maxRecDepth 100000 in
theorem M_X4_holds_r5 (Ln : Nat) (I A : Nat → Nat → Int32) (v1 : Int32) (v2 : Int32) : zEv 23 0 0 0 [some (.ref 5), some (.int v1), some (.int v2)] [] (zGs Ln I A) (some (.int (V_X4_holds_r5 Ln I A v1 v2)), zGs Ln (I) (A)) := by
  unfold V_X4_holds_r5
  refine B_X4_holds_r5_0 Ln I A v1 v2  (fun q0 => ?_) (fun q0 => ?_)
  · try simp only [if_pos q0]
    refine B_X4_holds_r5_26 Ln I A v1 v2  ?_
    exact B_X4_holds_r5_27_s1 Ln I A v1 v2 0 
  · try simp only [if_neg q0]
    refine B_X4_holds_r5_4 Ln I A v1 v2  (fun q1 => ?_) (fun q1 => ?_)
    · try simp only [if_pos q1]
      refine B_X4_holds_r5_26 Ln I A v1 v2  ?_
      exact B_X4_holds_r5_27_s1 Ln I A v1 v2 0 
    · try simp only [if_neg q1]
      refine B_X4_holds_r5_12 Ln I A v1 v2  (fun q2 => ?_) (fun q2 => ?_)
      · try simp only [if_pos q2]
        refine B_X4_holds_r5_26 Ln I A v1 v2  ?_
        exact B_X4_holds_r5_27_s1 Ln I A v1 v2 0 
      · try simp only [if_neg q2]
        refine B_X4_holds_r5_22 Ln I A v1 v2  ?_
        exact B_X4_holds_r5_27_s1 Ln I A v1 v2 1 
def V_X4_holds_r7 (Ln : Nat) (I A : Nat → Nat → Int32) (v1 : Int32) (v2 : Int32) : Int32 := if v1 < 0 then 0 else (if (I 7 3) < v1 then 0 else (if ((I 7 3) - v1) < v2 then 0 else 1))
set_option maxRecDepth 100000 in
theorem M_X4_holds_r7 (Ln : Nat) (I A : Nat → Nat → Int32) (v1 : Int32) (v2 : Int32) : zEv 23 0 0 0 [some (.ref 7), some (.int v1), some (.int v2)] [] (zGs Ln I A) (some (.int (V_X4_holds_r7 Ln I A v1 v2)), zGs Ln (I) (A)) := by
  unfold V_X4_holds_r7
  refine B_X4_holds_r7_0 Ln I A v1 v2  (fun q0 => ?_) (fun q0 => ?_)
  · try simp only [if_pos q0]
    refine B_X4_holds_r7_26 Ln I A v1 v2  ?_
    exact B_X4_holds_r7_27_s1 Ln I A v1 v2 0 
  · try simp only [if_neg q0]
    refine B_X4_holds_r7_4 Ln I A v1 v2  (fun q1 => ?_) (fun q1 => ?_)
    · try simp only [if_pos q1]
      refine B_X4_holds_r7_26 Ln I A v1 v2  ?_
      exact B_X4_holds_r7_27_s1 Ln I A v1 v2 0 
    · try simp only [if_neg q1]
      refine B_X4_holds_r7_12 Ln I A v1 v2  (fun q2 => ?_) (fun q2 => ?_)
      · try simp only [if_pos q2]
        refine B_X4_holds_r7_26 Ln I A v1 v2  ?_
        exact B_X4_holds_r7_27_s1 Ln I A v1 v2 0 
      · try simp only [if_neg q2]
        refine B_X4_holds_r7_22 Ln I A v1 v2  ?_
        exact B_X4_holds_r7_27_s1 Ln I A v1 v2 1 
