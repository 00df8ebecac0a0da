/-! what a method asks, by program (wip/whole/gen_wp.py) -/
def SL_X7_rules_r1_14 (Ln : Nat) (I : Nat → Nat → Int32) (Q : Int32 → (Nat → Nat → Int32) → Prop) : Int32 × Int32 × (Nat → Nat → Int32) → Prop
  | (v1, v2, A) => zSem 65 14 0 0 [some (.ref 1), some (.int v1), some (.int v2)] [] (zGs Ln I A) (fun r => ∃ x A1, r = (some (.int x), zGs Ln I A1) ∧ Q x A1)
def L_X7_rules_r1_14 (Ln : Nat) (I : Nat → Nat → Int32) (Q : Int32 → (Nat → Nat → Int32) → Prop) : Int32 × Int32 × (Nat → Nat → Int32) → (Int32 × Int32 × (Nat → Nat → Int32) → Prop) → Prop
  | (v1, v2, A), K14 => (((3 : Int32) ≤ v2 → (Q v1 A)) ∧ (¬ ((3 : Int32) ≤ v2) → ((W_X6_goThrough_r35_r42 Ln I A v2 (fun (A2 : Nat → Nat → Int32) => ((W_X3_allSo_r22_r35 Ln I A2  (fun (r3 : Int32) => (((r3 : Int32) = 0 → ((K14 (v1, (v2 + 1), A2)))) ∧ (¬ ((r3 : Int32) = 0) → (((K14 ((v1 ||| (1 <<< (v2 &&& 31))), (v2 + 1), A2))))))))))))))
set_option maxRecDepth 100000 in
theorem TL_X7_rules_r1_14 {Ln : Nat} {I : Nat → Nat → Int32} {Q : Int32 → (Nat → Nat → Int32) → Prop} : ∀ p, zLoop (L_X7_rules_r1_14 Ln I   Q) p → SL_X7_rules_r1_14 Ln I  Q p := by
  refine zLoop.sound (Sem := SL_X7_rules_r1_14 Ln I  Q) ?_
  rintro ⟨v1, v2, A⟩ K14 hK14 h0
  show zSem 65 14 0 0 [some (.ref 1), some (.int v1), some (.int v2)] [] (zGs Ln I A) (fun r => ∃ x A1, r = (some (.int x), zGs Ln I A1) ∧ Q x A1)
  change (((3 : Int32) ≤ v2 → (Q v1 A)) ∧ (¬ ((3 : Int32) ≤ v2) → ((W_X6_goThrough_r35_r42 Ln I A v2 (fun (A2 : Nat → Nat → Int32) => ((W_X3_allSo_r22_r35 Ln I A2  (fun (r3 : Int32) => (((r3 : Int32) = 0 → ((K14 (v1, (v2 + 1), A2)))) ∧ (¬ ((r3 : Int32) = 0) → (((K14 ((v1 ||| (1 <<< (v2 &&& 31))), (v2 + 1), A2)))))))))))))) at h0
  obtain ⟨h2, h3⟩ := h0
  by_cases h1 : (3 : Int32) ≤ v2
  · refine zS1 (fun r he => B_X7_rules_r1_14 Ln _ _ _ _  (fun _ => he) (fun n => absurd h1 n)) ?_
    have h2 := h2 h1
    exact ⟨_, B_X7_rules_r1_57 Ln _ _ _ _ , _, _, rfl, h2⟩
  · refine zS1 (fun r he => B_X7_rules_r1_14 Ln _ _ _ _  (fun n => absurd n h1) (fun _ => he)) ?_
    have h3 := h3 h1
    obtain ⟨_, h4, A2, rfl, h5⟩ := T_X6_goThrough_r35_r42 Ln _ _ _ _ h3
    refine zS1 (fun r he => B_X7_rules_r1_19 Ln _ _ _ _  h4 rfl he) ?_
    obtain ⟨_, h6, r3, rfl, h7⟩ := T_X3_allSo_r22_r35 Ln _ _ _ h5
    refine zS1 (fun r he => B_X7_rules_r1_31 Ln _ _ _ _  h6 rfl he) ?_
    obtain ⟨h9, h10⟩ := h7
    by_cases h8 : (r3 : Int32) = 0
    · refine zS1 (fun r he => B_X7_rules_r1_42_s1 Ln _ _ _ _ _  (fun _ => he) (fun n => absurd h8 n)) ?_
      have h9 := h9 h8
      refine zS1 (fun r he => B_X7_rules_r1_51 Ln _ _ _ _  he) ?_
      have q := hK14 _ h9
      exact q
    · refine zS1 (fun r he => B_X7_rules_r1_42_s1 Ln _ _ _ _ _  (fun n => absurd n h8) (fun _ => he)) ?_
      have h10 := h10 h8
      refine zS1 (fun r he => B_X7_rules_r1_45 Ln _ _ _ _  he) ?_
      refine zS1 (fun r he => B_X7_rules_r1_51 Ln _ _ _ _  he) ?_
      have q := hK14 _ h10
      exact q
def W_X7_rules_r1 (Ln : Nat) (I A : Nat → Nat → Int32) (Q : Int32 → (Nat → Nat → Int32) → Prop) : Prop := ((W_X7_noBank_r1 Ln I A  (fun (r1 : Int32) => (((r1 : Int32) = 0 → ((zLoop (L_X7_rules_r1_14 Ln I  Q) (0, 0, A)))) ∧ (¬ ((r1 : Int32) = 0) → (Q (-3) A))))))
set_option maxRecDepth 100000 in
theorem T_X7_rules_r1 (Ln : Nat) (I A : Nat → Nat → Int32) (Q : Int32 → (Nat → Nat → Int32) → Prop) (h0 : W_X7_rules_r1 Ln I A Q) : zSem 65 0 0 0 [some (.ref 1), none, none] [] (zGs Ln I A) (fun r => ∃ x A1, r = (some (.int x), zGs Ln I A1) ∧ Q x A1) := by
  unfold W_X7_rules_r1 at h0
  obtain ⟨_, h1, r1, rfl, h2⟩ := T_X7_noBank_r1 Ln _ _ _ h0
  refine zS1 (fun r he => B_X7_rules_r1_0 Ln _ _   h1 rfl he) ?_
  obtain ⟨h4, h5⟩ := h2
  by_cases h3 : (r1 : Int32) = 0
  · refine zS1 (fun r he => B_X7_rules_r1_4_s1 Ln _ _ _  (fun _ => he) (fun n => absurd h3 n)) ?_
    have h4 := h4 h3
    refine zS1 (fun r he => B_X7_rules_r1_10 Ln _ _   he) ?_
    exact TL_X7_rules_r1_14  _ h4
  · refine zS1 (fun r he => B_X7_rules_r1_4_s1 Ln _ _ _  (fun n => absurd n h3) (fun _ => he)) ?_
    have h5 := h5 h3
    exact ⟨_, B_X7_rules_r1_7 Ln _ _  , _, _, rfl, h5⟩
def SL_X7_goThroughNights_r1_2 (Ln : Nat) (I : Nat → Nat → Int32) (Q : (Nat → Nat → Int32) → Prop) : Int32 × (Nat → Nat → Int32) → Prop
  | (v1, A) => zSem 85 2 0 0 [some (.ref 1), some (.int v1)] [] (zGs Ln I A) (fun r => ∃ A1, r = (none, zGs Ln I A1) ∧ Q A1)
def L_X7_goThroughNights_r1_2 (Ln : Nat) (I : Nat → Nat → Int32) (Q : (Nat → Nat → Int32) → Prop) : Int32 × (Nat → Nat → Int32) → (Int32 × (Nat → Nat → Int32) → Prop) → Prop
  | (v1, A), K2 => ((((I 11 0) : Int32) ≤ v1 → ((W_X6_goThrough_r28_r42 Ln I A (I 1 9) (fun (A1 : Nat → Nat → Int32) => (Q A1))))) ∧ (¬ (((I 11 0) : Int32) ≤ v1) → ((zin v1 6 = true) ∧ (W_X2_lentBy_r18 Ln I A v1 (fun (r2 : Int32) => (∀ x3 : Int32, x3 = A 13 (v1).toNatClampNeg → ((W_X2_lentTo_r18 Ln I A v1 (fun (r4 : Int32) => ((zin v1 6 = true) ∧ (K2 ((v1 + 1), (zw A 42 ((v1).toNatClampNeg) ((x3 - r2) + r4))))))))))))))
set_option maxRecDepth 100000 in
theorem TL_X7_goThroughNights_r1_2 {Ln : Nat} {I : Nat → Nat → Int32} {Q : (Nat → Nat → Int32) → Prop} : ∀ p, zLoop (L_X7_goThroughNights_r1_2 Ln I   Q) p → SL_X7_goThroughNights_r1_2 Ln I  Q p := by
  refine zLoop.sound (Sem := SL_X7_goThroughNights_r1_2 Ln I  Q) ?_
  rintro ⟨v1, A⟩ K2 hK2 h0
  show zSem 85 2 0 0 [some (.ref 1), some (.int v1)] [] (zGs Ln I A) (fun r => ∃ A1, r = (none, zGs Ln I A1) ∧ Q A1)
  change ((((I 11 0) : Int32) ≤ v1 → ((W_X6_goThrough_r28_r42 Ln I A (I 1 9) (fun (A1 : Nat → Nat → Int32) => (Q A1))))) ∧ (¬ (((I 11 0) : Int32) ≤ v1) → ((zin v1 6 = true) ∧ (W_X2_lentBy_r18 Ln I A v1 (fun (r2 : Int32) => (∀ x3 : Int32, x3 = A 13 (v1).toNatClampNeg → ((W_X2_lentTo_r18 Ln I A v1 (fun (r4 : Int32) => ((zin v1 6 = true) ∧ (K2 ((v1 + 1), (zw A 42 ((v1).toNatClampNeg) ((x3 - r2) + r4)))))))))))))) at h0
  obtain ⟨h2, h3⟩ := h0
  by_cases h1 : ((I 11 0) : Int32) ≤ v1
  · refine zS1 (fun r he => B_X7_goThroughNights_r1_2 Ln _ _ _  (fun _ => he) (fun n => absurd h1 n)) ?_
    have h2 := h2 h1
    obtain ⟨_, h4, A1, rfl, h5⟩ := T_X6_goThrough_r28_r42 Ln _ _ _ _ h2
    refine zS1 (fun r he => B_X7_goThroughNights_r1_52 Ln _ _ _  h4 rfl he) ?_
    exact ⟨_, B_X7_goThroughNights_r1_67 Ln _ _ _ , _, rfl, h5⟩
  · refine zS1 (fun r he => B_X7_goThroughNights_r1_2 Ln _ _ _  (fun n => absurd n h1) (fun _ => he)) ?_
    have h3 := h3 h1
    obtain ⟨h6, h7⟩ := h3
    obtain ⟨_, h8, r2, rfl, h9⟩ := T_X2_lentBy_r18 Ln _ _ _ _ h7
    refine zS1 (fun r he => B_X7_goThroughNights_r1_13 Ln _ _ _ h6 h8 rfl he) ?_
    have h10 := h9 _ rfl
    obtain ⟨_, h11, r4, rfl, h12⟩ := T_X2_lentTo_r18 Ln _ _ _ _ h10
    refine zS1 (fun r he => B_X7_goThroughNights_r1_35_s4 Ln _ _ _ _ _ _  h11 rfl he) ?_
    obtain ⟨h13, h14⟩ := h12
    refine zS1 (fun r he => B_X7_goThroughNights_r1_44_s4 Ln _ _ _ _ _ _ h13 he) ?_
    have q := hK2 _ h14
    exact q
def W_X7_goThroughNights_r1 (Ln : Nat) (I A : Nat → Nat → Int32) (Q : (Nat → Nat → Int32) → Prop) : Prop := ((zLoop (L_X7_goThroughNights_r1_2 Ln I  Q) (0, A)))
set_option maxRecDepth 100000 in
theorem T_X7_goThroughNights_r1 (Ln : Nat) (I A : Nat → Nat → Int32) (Q : (Nat → Nat → Int32) → Prop) (h0 : W_X7_goThroughNights_r1 Ln I A Q) : zSem 85 0 0 0 [some (.ref 1), none] [] (zGs Ln I A) (fun r => ∃ A1, r = (none, zGs Ln I A1) ∧ Q A1) := by
  unfold W_X7_goThroughNights_r1 at h0
  refine zS1 (fun r he => B_X7_goThroughNights_r1_0 Ln _ _   he) ?_
  exact TL_X7_goThroughNights_r1_2  _ h0
def W_X7_tryLoan_r1 (Ln : Nat) (I A : Nat → Nat → Int32) (v1 : Int32) (v2 : Int32) (Q : (Nat → Nat → Int32) → Prop) : Prop := ((zin v1 6 = true) ∧ (zin v1 6 = true) ∧ (zin v2 6 = true) ∧ (zin v2 6 = true) ∧ (W_X6_goThrough_r35_r43 Ln I (zw (zw (zcp A 42 43 0 0 6) 43 ((v1).toNatClampNeg) ((((zcp A 42 43 0 0 6) 43) (v1).toNatClampNeg) - 1)) 43 ((v2).toNatClampNeg) ((((zw (zcp A 42 43 0 0 6) 43 ((v1).toNatClampNeg) ((((zcp A 42 43 0 0 6) 43) (v1).toNatClampNeg) - 1)) 43) (v2).toNatClampNeg) + 1)) (I 1 9) (fun (A1 : Nat → Nat → Int32) => (Q A1))))
set_option maxRecDepth 100000 in
theorem T_X7_tryLoan_r1 (Ln : Nat) (I A : Nat → Nat → Int32) (v1 : Int32) (v2 : Int32) (Q : (Nat → Nat → Int32) → Prop) (h0 : W_X7_tryLoan_r1 Ln I A v1 v2 Q) : zSem 86 0 0 0 [some (.ref 1), some (.int v1), some (.int v2)] [] (zGs Ln I A) (fun r => ∃ A1, r = (none, zGs Ln I A1) ∧ Q A1) := by
  unfold W_X7_tryLoan_r1 at h0
  obtain ⟨h1, h2⟩ := h0
  obtain ⟨h3, h4⟩ := h2
  obtain ⟨h5, h6⟩ := h4
  obtain ⟨h7, h8⟩ := h6
  obtain ⟨_, h9, A1, rfl, h10⟩ := T_X6_goThrough_r35_r43 Ln _ _ _ _ h8
  refine zS1 (fun r he => B_X7_tryLoan_r1_0 Ln _ _ _ _ h1 h3 h5 h7 h9 rfl he) ?_
  exact ⟨_, B_X7_tryLoan_r1_50 Ln _ _ _ _ , _, rfl, h10⟩
def J_X7_crossings_r1_c0_97 (Ln : Nat) (I A : Nat → Nat → Int32) (v2 : Int32) (v3 : Int32) (v4 : Int32) (v6 : Int32) (Q : Int32 → (Nat → Nat → Int32) → Prop) : Prop := ((W_X7_faultless_r1 Ln I A (-2) (fun (r5 : Int32) (I6 : Nat → Nat → Int32) => (Q r5 I6))))
set_option maxRecDepth 100000 in
theorem TJ_X7_crossings_r1_c0_97 {Ln : Nat} {I A : Nat → Nat → Int32} {v2 : Int32} {v3 : Int32} {v4 : Int32} {v6 : Int32} {Q : Int32 → (Nat → Nat → Int32) → Prop} (h0 : J_X7_crossings_r1_c0_97 Ln I A v2 v3 v4 v6   Q) : zSem 57 97 0 0 [some (.ref 1), some (.int 0), some (.int v2), some (.int v3), some (.int v4), some (.ref 3), some (.int v6)] [] (zGs Ln I A) (fun r => ∃ x I1, r = (some (.int x), zGs Ln I1 A) ∧ Q x I1) := by
  unfold J_X7_crossings_r1_c0_97 at h0
  obtain ⟨_, h1, r5, I6, rfl, h2⟩ := T_X7_faultless_r1 Ln _ _ _ _ h0
  refine zS1 (fun r he => B_X7_crossings_r1_c0_97_l3 Ln _ _ _ _ _ _  h1 rfl he) ?_
  exact ⟨_, B_X7_crossings_r1_c0_103_s1_l3 Ln _ _ _ _ _ _ _ , _, _, rfl, h2⟩
def W_X7_crossings_r1_c0 (Ln : Nat) (I A : Nat → Nat → Int32) (v2 : Int32) (v3 : Int32) (v4 : Int32) (Q : Int32 → (Nat → Nat → Int32) → Prop) : Prop := ((W_X7_isSheet Ln I A 0 (fun (r1 : Int32) => (((r1 : Int32) ≠ 0 → ((W_X7_isLane Ln I A v2 (fun (r2 : Int32) => (((r2 : Int32) ≠ 0 → ((W_X7_noBank_r1 Ln I A  (fun (r3 : Int32) => (((r3 : Int32) = 0 → ((W_X4_faultOfCells_r3 Ln I A v2 v3 v4 (fun (r4 : Int32) => (((r4 : Int32) = 0 → (((20 : Int32) < v4 → (J_X7_crossings_r1_c0_97 Ln I A v2 v3 v4 r4  Q)) ∧ (¬ ((20 : Int32) < v4) → ((W_X0_knowsAll_r11_r4 Ln I A v3 v4 (fun (r7 : Int32) => (((r7 : Int32) ≠ 0 → ((W_X0_whoPays_r11_r42 Ln I A  (fun (r8 : Int32) => ((W_X1_firstWrong_r26_r4 Ln I A v3 v4 r8 (fun (r9 : Int32) => ((W_X7_faultless_r1 Ln I A r9 (fun (r10 : Int32) (I11 : Nat → Nat → Int32) => (Q r10 I11))))))))))) ∧ (¬ ((r7 : Int32) ≠ 0) → (J_X7_crossings_r1_c0_97 Ln I A v2 v3 v4 r4  Q))))))))) ∧ (¬ ((r4 : Int32) = 0) → ((W_X7_faulted_r1 Ln I A r4 (fun (r12 : Int32) (I13 : Nat → Nat → Int32) => (Q r12 I13)))))))))) ∧ (¬ ((r3 : Int32) = 0) → ((W_X7_faultless_r1 Ln I A (-3) (fun (r14 : Int32) (I15 : Nat → Nat → Int32) => (Q r14 I15)))))))))) ∧ (¬ ((r2 : Int32) ≠ 0) → ((W_X7_faultless_r1 Ln I A (-2) (fun (r16 : Int32) (I17 : Nat → Nat → Int32) => (Q r16 I17)))))))))) ∧ (¬ ((r1 : Int32) ≠ 0) → ((W_X7_faultless_r1 Ln I A (-1) (fun (r18 : Int32) (I19 : Nat → Nat → Int32) => (Q r18 I19)))))))))
set_option maxRecDepth 100000 in
theorem T_X7_crossings_r1_c0 (Ln : Nat) (I A : Nat → Nat → Int32) (v2 : Int32) (v3 : Int32) (v4 : Int32) (Q : Int32 → (Nat → Nat → Int32) → Prop) (h0 : W_X7_crossings_r1_c0 Ln I A v2 v3 v4 Q) : zSem 57 0 0 0 [some (.ref 1), some (.int 0), some (.int v2), some (.int v3), some (.int v4), none, none] [] (zGs Ln I A) (fun r => ∃ x I1, r = (some (.int x), zGs Ln I1 A) ∧ Q x I1) := by
  unfold W_X7_crossings_r1_c0 at h0
  obtain ⟨_, h1, r1, rfl, h2⟩ := T_X7_isSheet Ln _ _ _ _ h0
  refine zS1 (fun r he => B_X7_crossings_r1_c0_0 Ln _ _ _ _ _  h1 rfl he) ?_
  obtain ⟨h4, h5⟩ := h2
  by_cases h3 : (r1 : Int32) ≠ 0
  · refine zS1 (fun r he => B_X7_crossings_r1_c0_4_s1 Ln _ _ _ _ _ _  (fun _ => he) (fun n => absurd h3 n)) ?_
    have h4 := h4 h3
    obtain ⟨_, h6, r2, rfl, h7⟩ := T_X7_isLane Ln _ _ _ _ h4
    refine zS1 (fun r he => B_X7_crossings_r1_c0_13 Ln _ _ _ _ _  h6 rfl he) ?_
    obtain ⟨h9, h10⟩ := h7
    by_cases h8 : (r2 : Int32) ≠ 0
    · refine zS1 (fun r he => B_X7_crossings_r1_c0_17_s1 Ln _ _ _ _ _ _  (fun _ => he) (fun n => absurd h8 n)) ?_
      have h9 := h9 h8
      obtain ⟨_, h11, r3, rfl, h12⟩ := T_X7_noBank_r1 Ln _ _ _ h9
      refine zS1 (fun r he => B_X7_crossings_r1_c0_27 Ln _ _ _ _ _  h11 rfl he) ?_
      obtain ⟨h14, h15⟩ := h12
      by_cases h13 : (r3 : Int32) = 0
      · refine zS1 (fun r he => B_X7_crossings_r1_c0_31_s1 Ln _ _ _ _ _ _  (fun _ => he) (fun n => absurd h13 n)) ?_
        have h14 := h14 h13
        obtain ⟨_, h16, r4, rfl, h17⟩ := T_X4_faultOfCells_r3 Ln _ _ _ _ _ _ h14
        refine zS1 (fun r he => B_X7_crossings_r1_c0_41 Ln _ _ _ _ _  h16 rfl he) ?_
        obtain ⟨h19, h20⟩ := h17
        by_cases h18 : (r4 : Int32) = 0
        · refine zS1 (fun r he => B_X7_crossings_r1_c0_58_s1_l3 Ln _ _ _ _ _ _  (fun _ => he) (fun n => absurd h18 n)) ?_
          have h19 := h19 h18
          obtain ⟨h22, h23⟩ := h19
          by_cases h21 : (20 : Int32) < v4
          · refine zS1 (fun r he => B_X7_crossings_r1_c0_72_l3 Ln _ _ _ _ _ _  (fun _ => he) (fun n => absurd h21 n)) ?_
            have h22 := h22 h21
            exact TJ_X7_crossings_r1_c0_97  h22
          · refine zS1 (fun r he => B_X7_crossings_r1_c0_72_l3 Ln _ _ _ _ _ _  (fun n => absurd n h21) (fun _ => he)) ?_
            have h23 := h23 h21
            obtain ⟨_, h24, r7, rfl, h25⟩ := T_X0_knowsAll_r11_r4 Ln _ _ _ _ _ h23
            refine zS1 (fun r he => B_X7_crossings_r1_c0_79_l3 Ln _ _ _ _ _ _  h24 rfl he) ?_
            obtain ⟨h27, h28⟩ := h25
            by_cases h26 : (r7 : Int32) ≠ 0
            · refine zS1 (fun r he => B_X7_crossings_r1_c0_94_s1_l3 Ln _ _ _ _ _ _ _  (fun _ => he) (fun n => absurd h26 n)) ?_
              have h27 := h27 h26
              obtain ⟨_, h29, r8, rfl, h30⟩ := T_X0_whoPays_r11_r42 Ln _ _ _ h27
              refine zS1 (fun r he => B_X7_crossings_r1_c0_104_l3 Ln _ _ _ _ _ _  h29 rfl he) ?_
              obtain ⟨_, h31, r9, rfl, h32⟩ := T_X1_firstWrong_r26_r4 Ln _ _ _ _ _ _ h30
              refine zS1 (fun r he => B_X7_crossings_r1_c0_128_s6_l3 Ln _ _ _ _ _ _ _ _ _  h31 rfl he) ?_
              obtain ⟨_, h33, r10, I11, rfl, h34⟩ := T_X7_faultless_r1 Ln _ _ _ _ h32
              refine zS1 (fun r he => B_X7_crossings_r1_c0_131_s2_l3 Ln _ _ _ _ _ _ _  h33 rfl he) ?_
              exact ⟨_, B_X7_crossings_r1_c0_134_s1_l3 Ln _ _ _ _ _ _ _ , _, _, rfl, h34⟩
            · refine zS1 (fun r he => B_X7_crossings_r1_c0_94_s1_l3 Ln _ _ _ _ _ _ _  (fun n => absurd n h26) (fun _ => he)) ?_
              have h28 := h28 h26
              exact TJ_X7_crossings_r1_c0_97  h28
        · refine zS1 (fun r he => B_X7_crossings_r1_c0_58_s1_l3 Ln _ _ _ _ _ _  (fun n => absurd n h18) (fun _ => he)) ?_
          have h20 := h20 h18
          obtain ⟨_, h35, r12, I13, rfl, h36⟩ := T_X7_faulted_r1 Ln _ _ _ _ h20
          refine zS1 (fun r he => B_X7_crossings_r1_c0_65_l3 Ln _ _ _ _ _ _  h35 rfl he) ?_
          exact ⟨_, B_X7_crossings_r1_c0_71_s1_l3 Ln _ _ _ _ _ _ _ , _, _, rfl, h36⟩
      · refine zS1 (fun r he => B_X7_crossings_r1_c0_31_s1 Ln _ _ _ _ _ _  (fun n => absurd n h13) (fun _ => he)) ?_
        have h15 := h15 h13
        obtain ⟨_, h37, r14, I15, rfl, h38⟩ := T_X7_faultless_r1 Ln _ _ _ _ h15
        refine zS1 (fun r he => B_X7_crossings_r1_c0_34 Ln _ _ _ _ _  h37 rfl he) ?_
        exact ⟨_, B_X7_crossings_r1_c0_40_s1 Ln _ _ _ _ _ _ , _, _, rfl, h38⟩
    · refine zS1 (fun r he => B_X7_crossings_r1_c0_17_s1 Ln _ _ _ _ _ _  (fun n => absurd n h8) (fun _ => he)) ?_
      have h10 := h10 h8
      obtain ⟨_, h39, r16, I17, rfl, h40⟩ := T_X7_faultless_r1 Ln _ _ _ _ h10
      refine zS1 (fun r he => B_X7_crossings_r1_c0_20 Ln _ _ _ _ _  h39 rfl he) ?_
      exact ⟨_, B_X7_crossings_r1_c0_26_s1 Ln _ _ _ _ _ _ , _, _, rfl, h40⟩
  · refine zS1 (fun r he => B_X7_crossings_r1_c0_4_s1 Ln _ _ _ _ _ _  (fun n => absurd n h3) (fun _ => he)) ?_
    have h5 := h5 h3
    obtain ⟨_, h41, r18, I19, rfl, h42⟩ := T_X7_faultless_r1 Ln _ _ _ _ h5
    refine zS1 (fun r he => B_X7_crossings_r1_c0_7 Ln _ _ _ _ _  h41 rfl he) ?_
    exact ⟨_, B_X7_crossings_r1_c0_12_s1 Ln _ _ _ _ _ _ , _, _, rfl, h42⟩
def J_X7_crossings_r1_c1_97 (Ln : Nat) (I A : Nat → Nat → Int32) (v2 : Int32) (v3 : Int32) (v4 : Int32) (v6 : Int32) (Q : Int32 → (Nat → Nat → Int32) → Prop) : Prop := ((W_X7_faultless_r1 Ln I A (-2) (fun (r5 : Int32) (I6 : Nat → Nat → Int32) => (Q r5 I6))))
set_option maxRecDepth 100000 in
theorem TJ_X7_crossings_r1_c1_97 {Ln : Nat} {I A : Nat → Nat → Int32} {v2 : Int32} {v3 : Int32} {v4 : Int32} {v6 : Int32} {Q : Int32 → (Nat → Nat → Int32) → Prop} (h0 : J_X7_crossings_r1_c1_97 Ln I A v2 v3 v4 v6   Q) : zSem 57 97 0 0 [some (.ref 1), some (.int 1), some (.int v2), some (.int v3), some (.int v4), some (.ref 5), some (.int v6)] [] (zGs Ln I A) (fun r => ∃ x I1, r = (some (.int x), zGs Ln I1 A) ∧ Q x I1) := by
  unfold J_X7_crossings_r1_c1_97 at h0
  obtain ⟨_, h1, r5, I6, rfl, h2⟩ := T_X7_faultless_r1 Ln _ _ _ _ h0
  refine zS1 (fun r he => B_X7_crossings_r1_c1_97_l5 Ln _ _ _ _ _ _  h1 rfl he) ?_
  exact ⟨_, B_X7_crossings_r1_c1_103_s1_l5 Ln _ _ _ _ _ _ _ , _, _, rfl, h2⟩
def W_X7_crossings_r1_c1 (Ln : Nat) (I A : Nat → Nat → Int32) (v2 : Int32) (v3 : Int32) (v4 : Int32) (Q : Int32 → (Nat → Nat → Int32) → Prop) : Prop := ((W_X7_isSheet Ln I A 1 (fun (r1 : Int32) => (((r1 : Int32) ≠ 0 → ((W_X7_isLane Ln I A v2 (fun (r2 : Int32) => (((r2 : Int32) ≠ 0 → ((W_X7_noBank_r1 Ln I A  (fun (r3 : Int32) => (((r3 : Int32) = 0 → ((W_X4_faultOfCells_r5 Ln I A v2 v3 v4 (fun (r4 : Int32) => (((r4 : Int32) = 0 → (((20 : Int32) < v4 → (J_X7_crossings_r1_c1_97 Ln I A v2 v3 v4 r4  Q)) ∧ (¬ ((20 : Int32) < v4) → ((W_X0_knowsAll_r11_r6 Ln I A v3 v4 (fun (r7 : Int32) => (((r7 : Int32) ≠ 0 → ((W_X0_whoPays_r11_r42 Ln I A  (fun (r8 : Int32) => ((W_X1_firstWrong_r26_r6 Ln I A v3 v4 r8 (fun (r9 : Int32) => ((W_X7_faultless_r1 Ln I A r9 (fun (r10 : Int32) (I11 : Nat → Nat → Int32) => (Q r10 I11))))))))))) ∧ (¬ ((r7 : Int32) ≠ 0) → (J_X7_crossings_r1_c1_97 Ln I A v2 v3 v4 r4  Q))))))))) ∧ (¬ ((r4 : Int32) = 0) → ((W_X7_faulted_r1 Ln I A r4 (fun (r12 : Int32) (I13 : Nat → Nat → Int32) => (Q r12 I13)))))))))) ∧ (¬ ((r3 : Int32) = 0) → ((W_X7_faultless_r1 Ln I A (-3) (fun (r14 : Int32) (I15 : Nat → Nat → Int32) => (Q r14 I15)))))))))) ∧ (¬ ((r2 : Int32) ≠ 0) → ((W_X7_faultless_r1 Ln I A (-2) (fun (r16 : Int32) (I17 : Nat → Nat → Int32) => (Q r16 I17)))))))))) ∧ (¬ ((r1 : Int32) ≠ 0) → ((W_X7_faultless_r1 Ln I A (-1) (fun (r18 : Int32) (I19 : Nat → Nat → Int32) => (Q r18 I19)))))))))
set_option maxRecDepth 100000 in
theorem T_X7_crossings_r1_c1 (Ln : Nat) (I A : Nat → Nat → Int32) (v2 : Int32) (v3 : Int32) (v4 : Int32) (Q : Int32 → (Nat → Nat → Int32) → Prop) (h0 : W_X7_crossings_r1_c1 Ln I A v2 v3 v4 Q) : zSem 57 0 0 0 [some (.ref 1), some (.int 1), some (.int v2), some (.int v3), some (.int v4), none, none] [] (zGs Ln I A) (fun r => ∃ x I1, r = (some (.int x), zGs Ln I1 A) ∧ Q x I1) := by
  unfold W_X7_crossings_r1_c1 at h0
  obtain ⟨_, h1, r1, rfl, h2⟩ := T_X7_isSheet Ln _ _ _ _ h0
  refine zS1 (fun r he => B_X7_crossings_r1_c1_0 Ln _ _ _ _ _  h1 rfl he) ?_
  obtain ⟨h4, h5⟩ := h2
  by_cases h3 : (r1 : Int32) ≠ 0
  · refine zS1 (fun r he => B_X7_crossings_r1_c1_4_s1 Ln _ _ _ _ _ _  (fun _ => he) (fun n => absurd h3 n)) ?_
    have h4 := h4 h3
    obtain ⟨_, h6, r2, rfl, h7⟩ := T_X7_isLane Ln _ _ _ _ h4
    refine zS1 (fun r he => B_X7_crossings_r1_c1_13 Ln _ _ _ _ _  h6 rfl he) ?_
    obtain ⟨h9, h10⟩ := h7
    by_cases h8 : (r2 : Int32) ≠ 0
    · refine zS1 (fun r he => B_X7_crossings_r1_c1_17_s1 Ln _ _ _ _ _ _  (fun _ => he) (fun n => absurd h8 n)) ?_
      have h9 := h9 h8
      obtain ⟨_, h11, r3, rfl, h12⟩ := T_X7_noBank_r1 Ln _ _ _ h9
      refine zS1 (fun r he => B_X7_crossings_r1_c1_27 Ln _ _ _ _ _  h11 rfl he) ?_
      obtain ⟨h14, h15⟩ := h12
      by_cases h13 : (r3 : Int32) = 0
      · refine zS1 (fun r he => B_X7_crossings_r1_c1_31_s1 Ln _ _ _ _ _ _  (fun _ => he) (fun n => absurd h13 n)) ?_
        have h14 := h14 h13
        obtain ⟨_, h16, r4, rfl, h17⟩ := T_X4_faultOfCells_r5 Ln _ _ _ _ _ _ h14
        refine zS1 (fun r he => B_X7_crossings_r1_c1_41 Ln _ _ _ _ _  h16 rfl he) ?_
        obtain ⟨h19, h20⟩ := h17
        by_cases h18 : (r4 : Int32) = 0
        · refine zS1 (fun r he => B_X7_crossings_r1_c1_58_s1_l5 Ln _ _ _ _ _ _  (fun _ => he) (fun n => absurd h18 n)) ?_
          have h19 := h19 h18
          obtain ⟨h22, h23⟩ := h19
          by_cases h21 : (20 : Int32) < v4
          · refine zS1 (fun r he => B_X7_crossings_r1_c1_72_l5 Ln _ _ _ _ _ _  (fun _ => he) (fun n => absurd h21 n)) ?_
            have h22 := h22 h21
            exact TJ_X7_crossings_r1_c1_97  h22
          · refine zS1 (fun r he => B_X7_crossings_r1_c1_72_l5 Ln _ _ _ _ _ _  (fun n => absurd n h21) (fun _ => he)) ?_
            have h23 := h23 h21
            obtain ⟨_, h24, r7, rfl, h25⟩ := T_X0_knowsAll_r11_r6 Ln _ _ _ _ _ h23
            refine zS1 (fun r he => B_X7_crossings_r1_c1_79_l5 Ln _ _ _ _ _ _  h24 rfl he) ?_
            obtain ⟨h27, h28⟩ := h25
            by_cases h26 : (r7 : Int32) ≠ 0
            · refine zS1 (fun r he => B_X7_crossings_r1_c1_94_s1_l5 Ln _ _ _ _ _ _ _  (fun _ => he) (fun n => absurd h26 n)) ?_
              have h27 := h27 h26
              obtain ⟨_, h29, r8, rfl, h30⟩ := T_X0_whoPays_r11_r42 Ln _ _ _ h27
              refine zS1 (fun r he => B_X7_crossings_r1_c1_104_l5 Ln _ _ _ _ _ _  h29 rfl he) ?_
              obtain ⟨_, h31, r9, rfl, h32⟩ := T_X1_firstWrong_r26_r6 Ln _ _ _ _ _ _ h30
              refine zS1 (fun r he => B_X7_crossings_r1_c1_128_s6_l5 Ln _ _ _ _ _ _ _ _ _  h31 rfl he) ?_
              obtain ⟨_, h33, r10, I11, rfl, h34⟩ := T_X7_faultless_r1 Ln _ _ _ _ h32
              refine zS1 (fun r he => B_X7_crossings_r1_c1_131_s2_l5 Ln _ _ _ _ _ _ _  h33 rfl he) ?_
              exact ⟨_, B_X7_crossings_r1_c1_134_s1_l5 Ln _ _ _ _ _ _ _ , _, _, rfl, h34⟩
            · refine zS1 (fun r he => B_X7_crossings_r1_c1_94_s1_l5 Ln _ _ _ _ _ _ _  (fun n => absurd n h26) (fun _ => he)) ?_
              have h28 := h28 h26
              exact TJ_X7_crossings_r1_c1_97  h28
        · refine zS1 (fun r he => B_X7_crossings_r1_c1_58_s1_l5 Ln _ _ _ _ _ _  (fun n => absurd n h18) (fun _ => he)) ?_
          have h20 := h20 h18
          obtain ⟨_, h35, r12, I13, rfl, h36⟩ := T_X7_faulted_r1 Ln _ _ _ _ h20
          refine zS1 (fun r he => B_X7_crossings_r1_c1_65_l5 Ln _ _ _ _ _ _  h35 rfl he) ?_
          exact ⟨_, B_X7_crossings_r1_c1_71_s1_l5 Ln _ _ _ _ _ _ _ , _, _, rfl, h36⟩
      · refine zS1 (fun r he => B_X7_crossings_r1_c1_31_s1 Ln _ _ _ _ _ _  (fun n => absurd n h13) (fun _ => he)) ?_
        have h15 := h15 h13
        obtain ⟨_, h37, r14, I15, rfl, h38⟩ := T_X7_faultless_r1 Ln _ _ _ _ h15
        refine zS1 (fun r he => B_X7_crossings_r1_c1_34 Ln _ _ _ _ _  h37 rfl he) ?_
        exact ⟨_, B_X7_crossings_r1_c1_40_s1 Ln _ _ _ _ _ _ , _, _, rfl, h38⟩
    · refine zS1 (fun r he => B_X7_crossings_r1_c1_17_s1 Ln _ _ _ _ _ _  (fun n => absurd n h8) (fun _ => he)) ?_
      have h10 := h10 h8
      obtain ⟨_, h39, r16, I17, rfl, h40⟩ := T_X7_faultless_r1 Ln _ _ _ _ h10
      refine zS1 (fun r he => B_X7_crossings_r1_c1_20 Ln _ _ _ _ _  h39 rfl he) ?_
      exact ⟨_, B_X7_crossings_r1_c1_26_s1 Ln _ _ _ _ _ _ , _, _, rfl, h40⟩
  · refine zS1 (fun r he => B_X7_crossings_r1_c1_4_s1 Ln _ _ _ _ _ _  (fun n => absurd n h3) (fun _ => he)) ?_
    have h5 := h5 h3
    obtain ⟨_, h41, r18, I19, rfl, h42⟩ := T_X7_faultless_r1 Ln _ _ _ _ h5
    refine zS1 (fun r he => B_X7_crossings_r1_c1_7 Ln _ _ _ _ _  h41 rfl he) ?_
    exact ⟨_, B_X7_crossings_r1_c1_12_s1 Ln _ _ _ _ _ _ , _, _, rfl, h42⟩
def J_X7_crossings_r1_c2_97 (Ln : Nat) (I A : Nat → Nat → Int32) (v2 : Int32) (v3 : Int32) (v4 : Int32) (v6 : Int32) (Q : Int32 → (Nat → Nat → Int32) → Prop) : Prop := ((W_X7_faultless_r1 Ln I A (-2) (fun (r5 : Int32) (I6 : Nat → Nat → Int32) => (Q r5 I6))))
set_option maxRecDepth 100000 in
theorem TJ_X7_crossings_r1_c2_97 {Ln : Nat} {I A : Nat → Nat → Int32} {v2 : Int32} {v3 : Int32} {v4 : Int32} {v6 : Int32} {Q : Int32 → (Nat → Nat → Int32) → Prop} (h0 : J_X7_crossings_r1_c2_97 Ln I A v2 v3 v4 v6   Q) : zSem 57 97 0 0 [some (.ref 1), some (.int 2), some (.int v2), some (.int v3), some (.int v4), some (.ref 7), some (.int v6)] [] (zGs Ln I A) (fun r => ∃ x I1, r = (some (.int x), zGs Ln I1 A) ∧ Q x I1) := by
  unfold J_X7_crossings_r1_c2_97 at h0
  obtain ⟨_, h1, r5, I6, rfl, h2⟩ := T_X7_faultless_r1 Ln _ _ _ _ h0
  refine zS1 (fun r he => B_X7_crossings_r1_c2_97_l7 Ln _ _ _ _ _ _  h1 rfl he) ?_
  exact ⟨_, B_X7_crossings_r1_c2_103_s1_l7 Ln _ _ _ _ _ _ _ , _, _, rfl, h2⟩
def W_X7_crossings_r1_c2 (Ln : Nat) (I A : Nat → Nat → Int32) (v2 : Int32) (v3 : Int32) (v4 : Int32) (Q : Int32 → (Nat → Nat → Int32) → Prop) : Prop := ((W_X7_isSheet Ln I A 2 (fun (r1 : Int32) => (((r1 : Int32) ≠ 0 → ((W_X7_isLane Ln I A v2 (fun (r2 : Int32) => (((r2 : Int32) ≠ 0 → ((W_X7_noBank_r1 Ln I A  (fun (r3 : Int32) => (((r3 : Int32) = 0 → ((W_X4_faultOfCells_r7 Ln I A v2 v3 v4 (fun (r4 : Int32) => (((r4 : Int32) = 0 → (((20 : Int32) < v4 → (J_X7_crossings_r1_c2_97 Ln I A v2 v3 v4 r4  Q)) ∧ (¬ ((20 : Int32) < v4) → ((W_X0_knowsAll_r11_r8 Ln I A v3 v4 (fun (r7 : Int32) => (((r7 : Int32) ≠ 0 → ((W_X0_whoPays_r11_r42 Ln I A  (fun (r8 : Int32) => ((W_X1_firstWrong_r26_r8 Ln I A v3 v4 r8 (fun (r9 : Int32) => ((W_X7_faultless_r1 Ln I A r9 (fun (r10 : Int32) (I11 : Nat → Nat → Int32) => (Q r10 I11))))))))))) ∧ (¬ ((r7 : Int32) ≠ 0) → (J_X7_crossings_r1_c2_97 Ln I A v2 v3 v4 r4  Q))))))))) ∧ (¬ ((r4 : Int32) = 0) → ((W_X7_faulted_r1 Ln I A r4 (fun (r12 : Int32) (I13 : Nat → Nat → Int32) => (Q r12 I13)))))))))) ∧ (¬ ((r3 : Int32) = 0) → ((W_X7_faultless_r1 Ln I A (-3) (fun (r14 : Int32) (I15 : Nat → Nat → Int32) => (Q r14 I15)))))))))) ∧ (¬ ((r2 : Int32) ≠ 0) → ((W_X7_faultless_r1 Ln I A (-2) (fun (r16 : Int32) (I17 : Nat → Nat → Int32) => (Q r16 I17)))))))))) ∧ (¬ ((r1 : Int32) ≠ 0) → ((W_X7_faultless_r1 Ln I A (-1) (fun (r18 : Int32) (I19 : Nat → Nat → Int32) => (Q r18 I19)))))))))
set_option maxRecDepth 100000 in
theorem T_X7_crossings_r1_c2 (Ln : Nat) (I A : Nat → Nat → Int32) (v2 : Int32) (v3 : Int32) (v4 : Int32) (Q : Int32 → (Nat → Nat → Int32) → Prop) (h0 : W_X7_crossings_r1_c2 Ln I A v2 v3 v4 Q) : zSem 57 0 0 0 [some (.ref 1), some (.int 2), some (.int v2), some (.int v3), some (.int v4), none, none] [] (zGs Ln I A) (fun r => ∃ x I1, r = (some (.int x), zGs Ln I1 A) ∧ Q x I1) := by
  unfold W_X7_crossings_r1_c2 at h0
  obtain ⟨_, h1, r1, rfl, h2⟩ := T_X7_isSheet Ln _ _ _ _ h0
  refine zS1 (fun r he => B_X7_crossings_r1_c2_0 Ln _ _ _ _ _  h1 rfl he) ?_
  obtain ⟨h4, h5⟩ := h2
  by_cases h3 : (r1 : Int32) ≠ 0
  · refine zS1 (fun r he => B_X7_crossings_r1_c2_4_s1 Ln _ _ _ _ _ _  (fun _ => he) (fun n => absurd h3 n)) ?_
    have h4 := h4 h3
    obtain ⟨_, h6, r2, rfl, h7⟩ := T_X7_isLane Ln _ _ _ _ h4
    refine zS1 (fun r he => B_X7_crossings_r1_c2_13 Ln _ _ _ _ _  h6 rfl he) ?_
    obtain ⟨h9, h10⟩ := h7
    by_cases h8 : (r2 : Int32) ≠ 0
    · refine zS1 (fun r he => B_X7_crossings_r1_c2_17_s1 Ln _ _ _ _ _ _  (fun _ => he) (fun n => absurd h8 n)) ?_
      have h9 := h9 h8
      obtain ⟨_, h11, r3, rfl, h12⟩ := T_X7_noBank_r1 Ln _ _ _ h9
      refine zS1 (fun r he => B_X7_crossings_r1_c2_27 Ln _ _ _ _ _  h11 rfl he) ?_
      obtain ⟨h14, h15⟩ := h12
      by_cases h13 : (r3 : Int32) = 0
      · refine zS1 (fun r he => B_X7_crossings_r1_c2_31_s1 Ln _ _ _ _ _ _  (fun _ => he) (fun n => absurd h13 n)) ?_
        have h14 := h14 h13
        obtain ⟨_, h16, r4, rfl, h17⟩ := T_X4_faultOfCells_r7 Ln _ _ _ _ _ _ h14
        refine zS1 (fun r he => B_X7_crossings_r1_c2_41 Ln _ _ _ _ _  h16 rfl he) ?_
        obtain ⟨h19, h20⟩ := h17
        by_cases h18 : (r4 : Int32) = 0
        · refine zS1 (fun r he => B_X7_crossings_r1_c2_58_s1_l7 Ln _ _ _ _ _ _  (fun _ => he) (fun n => absurd h18 n)) ?_
          have h19 := h19 h18
          obtain ⟨h22, h23⟩ := h19
          by_cases h21 : (20 : Int32) < v4
          · refine zS1 (fun r he => B_X7_crossings_r1_c2_72_l7 Ln _ _ _ _ _ _  (fun _ => he) (fun n => absurd h21 n)) ?_
            have h22 := h22 h21
            exact TJ_X7_crossings_r1_c2_97  h22
          · refine zS1 (fun r he => B_X7_crossings_r1_c2_72_l7 Ln _ _ _ _ _ _  (fun n => absurd n h21) (fun _ => he)) ?_
            have h23 := h23 h21
            obtain ⟨_, h24, r7, rfl, h25⟩ := T_X0_knowsAll_r11_r8 Ln _ _ _ _ _ h23
            refine zS1 (fun r he => B_X7_crossings_r1_c2_79_l7 Ln _ _ _ _ _ _  h24 rfl he) ?_
            obtain ⟨h27, h28⟩ := h25
            by_cases h26 : (r7 : Int32) ≠ 0
            · refine zS1 (fun r he => B_X7_crossings_r1_c2_94_s1_l7 Ln _ _ _ _ _ _ _  (fun _ => he) (fun n => absurd h26 n)) ?_
              have h27 := h27 h26
              obtain ⟨_, h29, r8, rfl, h30⟩ := T_X0_whoPays_r11_r42 Ln _ _ _ h27
              refine zS1 (fun r he => B_X7_crossings_r1_c2_104_l7 Ln _ _ _ _ _ _  h29 rfl he) ?_
              obtain ⟨_, h31, r9, rfl, h32⟩ := T_X1_firstWrong_r26_r8 Ln _ _ _ _ _ _ h30
              refine zS1 (fun r he => B_X7_crossings_r1_c2_128_s6_l7 Ln _ _ _ _ _ _ _ _ _  h31 rfl he) ?_
              obtain ⟨_, h33, r10, I11, rfl, h34⟩ := T_X7_faultless_r1 Ln _ _ _ _ h32
              refine zS1 (fun r he => B_X7_crossings_r1_c2_131_s2_l7 Ln _ _ _ _ _ _ _  h33 rfl he) ?_
              exact ⟨_, B_X7_crossings_r1_c2_134_s1_l7 Ln _ _ _ _ _ _ _ , _, _, rfl, h34⟩
            · refine zS1 (fun r he => B_X7_crossings_r1_c2_94_s1_l7 Ln _ _ _ _ _ _ _  (fun n => absurd n h26) (fun _ => he)) ?_
              have h28 := h28 h26
              exact TJ_X7_crossings_r1_c2_97  h28
        · refine zS1 (fun r he => B_X7_crossings_r1_c2_58_s1_l7 Ln _ _ _ _ _ _  (fun n => absurd n h18) (fun _ => he)) ?_
          have h20 := h20 h18
          obtain ⟨_, h35, r12, I13, rfl, h36⟩ := T_X7_faulted_r1 Ln _ _ _ _ h20
          refine zS1 (fun r he => B_X7_crossings_r1_c2_65_l7 Ln _ _ _ _ _ _  h35 rfl he) ?_
          exact ⟨_, B_X7_crossings_r1_c2_71_s1_l7 Ln _ _ _ _ _ _ _ , _, _, rfl, h36⟩
      · refine zS1 (fun r he => B_X7_crossings_r1_c2_31_s1 Ln _ _ _ _ _ _  (fun n => absurd n h13) (fun _ => he)) ?_
        have h15 := h15 h13
        obtain ⟨_, h37, r14, I15, rfl, h38⟩ := T_X7_faultless_r1 Ln _ _ _ _ h15
        refine zS1 (fun r he => B_X7_crossings_r1_c2_34 Ln _ _ _ _ _  h37 rfl he) ?_
        exact ⟨_, B_X7_crossings_r1_c2_40_s1 Ln _ _ _ _ _ _ , _, _, rfl, h38⟩
    · refine zS1 (fun r he => B_X7_crossings_r1_c2_17_s1 Ln _ _ _ _ _ _  (fun n => absurd n h8) (fun _ => he)) ?_
      have h10 := h10 h8
      obtain ⟨_, h39, r16, I17, rfl, h40⟩ := T_X7_faultless_r1 Ln _ _ _ _ h10
      refine zS1 (fun r he => B_X7_crossings_r1_c2_20 Ln _ _ _ _ _  h39 rfl he) ?_
      exact ⟨_, B_X7_crossings_r1_c2_26_s1 Ln _ _ _ _ _ _ , _, _, rfl, h40⟩
  · refine zS1 (fun r he => B_X7_crossings_r1_c2_4_s1 Ln _ _ _ _ _ _  (fun n => absurd n h3) (fun _ => he)) ?_
    have h5 := h5 h3
    obtain ⟨_, h41, r18, I19, rfl, h42⟩ := T_X7_faultless_r1 Ln _ _ _ _ h5
    refine zS1 (fun r he => B_X7_crossings_r1_c2_7 Ln _ _ _ _ _  h41 rfl he) ?_
    exact ⟨_, B_X7_crossings_r1_c2_12_s1 Ln _ _ _ _ _ _ , _, _, rfl, h42⟩
def J_X7_crossings_r1_c3_97 (Ln : Nat) (I A : Nat → Nat → Int32) (v2 : Int32) (v3 : Int32) (v4 : Int32) (v6 : Int32) (Q : Int32 → (Nat → Nat → Int32) → Prop) : Prop := ((W_X7_faultless_r1 Ln I A (-2) (fun (r5 : Int32) (I6 : Nat → Nat → Int32) => (Q r5 I6))))
set_option maxRecDepth 100000 in
theorem TJ_X7_crossings_r1_c3_97 {Ln : Nat} {I A : Nat → Nat → Int32} {v2 : Int32} {v3 : Int32} {v4 : Int32} {v6 : Int32} {Q : Int32 → (Nat → Nat → Int32) → Prop} (h0 : J_X7_crossings_r1_c3_97 Ln I A v2 v3 v4 v6   Q) : zSem 57 97 0 0 [some (.ref 1), some (.int 3), some (.int v2), some (.int v3), some (.int v4), some (.ref 9), some (.int v6)] [] (zGs Ln I A) (fun r => ∃ x I1, r = (some (.int x), zGs Ln I1 A) ∧ Q x I1) := by
  unfold J_X7_crossings_r1_c3_97 at h0
  obtain ⟨_, h1, r5, I6, rfl, h2⟩ := T_X7_faultless_r1 Ln _ _ _ _ h0
  refine zS1 (fun r he => B_X7_crossings_r1_c3_97_l9 Ln _ _ _ _ _ _  h1 rfl he) ?_
  exact ⟨_, B_X7_crossings_r1_c3_103_s1_l9 Ln _ _ _ _ _ _ _ , _, _, rfl, h2⟩
def W_X7_crossings_r1_c3 (Ln : Nat) (I A : Nat → Nat → Int32) (v2 : Int32) (v3 : Int32) (v4 : Int32) (Q : Int32 → (Nat → Nat → Int32) → Prop) : Prop := ((W_X7_isSheet Ln I A 3 (fun (r1 : Int32) => (((r1 : Int32) ≠ 0 → ((W_X7_isLane Ln I A v2 (fun (r2 : Int32) => (((r2 : Int32) ≠ 0 → ((W_X7_noBank_r1 Ln I A  (fun (r3 : Int32) => (((r3 : Int32) = 0 → ((W_X4_faultOfCells_r9 Ln I A v2 v3 v4 (fun (r4 : Int32) => (((r4 : Int32) = 0 → (((20 : Int32) < v4 → (J_X7_crossings_r1_c3_97 Ln I A v2 v3 v4 r4  Q)) ∧ (¬ ((20 : Int32) < v4) → ((W_X0_knowsAll_r11_r10 Ln I A v3 v4 (fun (r7 : Int32) => (((r7 : Int32) ≠ 0 → ((W_X0_whoPays_r11_r42 Ln I A  (fun (r8 : Int32) => ((W_X1_firstWrong_r26_r10 Ln I A v3 v4 r8 (fun (r9 : Int32) => ((W_X7_faultless_r1 Ln I A r9 (fun (r10 : Int32) (I11 : Nat → Nat → Int32) => (Q r10 I11))))))))))) ∧ (¬ ((r7 : Int32) ≠ 0) → (J_X7_crossings_r1_c3_97 Ln I A v2 v3 v4 r4  Q))))))))) ∧ (¬ ((r4 : Int32) = 0) → ((W_X7_faulted_r1 Ln I A r4 (fun (r12 : Int32) (I13 : Nat → Nat → Int32) => (Q r12 I13)))))))))) ∧ (¬ ((r3 : Int32) = 0) → ((W_X7_faultless_r1 Ln I A (-3) (fun (r14 : Int32) (I15 : Nat → Nat → Int32) => (Q r14 I15)))))))))) ∧ (¬ ((r2 : Int32) ≠ 0) → ((W_X7_faultless_r1 Ln I A (-2) (fun (r16 : Int32) (I17 : Nat → Nat → Int32) => (Q r16 I17)))))))))) ∧ (¬ ((r1 : Int32) ≠ 0) → ((W_X7_faultless_r1 Ln I A (-1) (fun (r18 : Int32) (I19 : Nat → Nat → Int32) => (Q r18 I19)))))))))
set_option maxRecDepth 100000 in
theorem T_X7_crossings_r1_c3 (Ln : Nat) (I A : Nat → Nat → Int32) (v2 : Int32) (v3 : Int32) (v4 : Int32) (Q : Int32 → (Nat → Nat → Int32) → Prop) (h0 : W_X7_crossings_r1_c3 Ln I A v2 v3 v4 Q) : zSem 57 0 0 0 [some (.ref 1), some (.int 3), some (.int v2), some (.int v3), some (.int v4), none, none] [] (zGs Ln I A) (fun r => ∃ x I1, r = (some (.int x), zGs Ln I1 A) ∧ Q x I1) := by
  unfold W_X7_crossings_r1_c3 at h0
  obtain ⟨_, h1, r1, rfl, h2⟩ := T_X7_isSheet Ln _ _ _ _ h0
  refine zS1 (fun r he => B_X7_crossings_r1_c3_0 Ln _ _ _ _ _  h1 rfl he) ?_
  obtain ⟨h4, h5⟩ := h2
  by_cases h3 : (r1 : Int32) ≠ 0
  · refine zS1 (fun r he => B_X7_crossings_r1_c3_4_s1 Ln _ _ _ _ _ _  (fun _ => he) (fun n => absurd h3 n)) ?_
    have h4 := h4 h3
    obtain ⟨_, h6, r2, rfl, h7⟩ := T_X7_isLane Ln _ _ _ _ h4
    refine zS1 (fun r he => B_X7_crossings_r1_c3_13 Ln _ _ _ _ _  h6 rfl he) ?_
    obtain ⟨h9, h10⟩ := h7
    by_cases h8 : (r2 : Int32) ≠ 0
    · refine zS1 (fun r he => B_X7_crossings_r1_c3_17_s1 Ln _ _ _ _ _ _  (fun _ => he) (fun n => absurd h8 n)) ?_
      have h9 := h9 h8
      obtain ⟨_, h11, r3, rfl, h12⟩ := T_X7_noBank_r1 Ln _ _ _ h9
      refine zS1 (fun r he => B_X7_crossings_r1_c3_27 Ln _ _ _ _ _  h11 rfl he) ?_
      obtain ⟨h14, h15⟩ := h12
      by_cases h13 : (r3 : Int32) = 0
      · refine zS1 (fun r he => B_X7_crossings_r1_c3_31_s1 Ln _ _ _ _ _ _  (fun _ => he) (fun n => absurd h13 n)) ?_
        have h14 := h14 h13
        obtain ⟨_, h16, r4, rfl, h17⟩ := T_X4_faultOfCells_r9 Ln _ _ _ _ _ _ h14
        refine zS1 (fun r he => B_X7_crossings_r1_c3_41 Ln _ _ _ _ _  h16 rfl he) ?_
        obtain ⟨h19, h20⟩ := h17
        by_cases h18 : (r4 : Int32) = 0
        · refine zS1 (fun r he => B_X7_crossings_r1_c3_58_s1_l9 Ln _ _ _ _ _ _  (fun _ => he) (fun n => absurd h18 n)) ?_
          have h19 := h19 h18
          obtain ⟨h22, h23⟩ := h19
          by_cases h21 : (20 : Int32) < v4
          · refine zS1 (fun r he => B_X7_crossings_r1_c3_72_l9 Ln _ _ _ _ _ _  (fun _ => he) (fun n => absurd h21 n)) ?_
            have h22 := h22 h21
            exact TJ_X7_crossings_r1_c3_97  h22
          · refine zS1 (fun r he => B_X7_crossings_r1_c3_72_l9 Ln _ _ _ _ _ _  (fun n => absurd n h21) (fun _ => he)) ?_
            have h23 := h23 h21
            obtain ⟨_, h24, r7, rfl, h25⟩ := T_X0_knowsAll_r11_r10 Ln _ _ _ _ _ h23
            refine zS1 (fun r he => B_X7_crossings_r1_c3_79_l9 Ln _ _ _ _ _ _  h24 rfl he) ?_
            obtain ⟨h27, h28⟩ := h25
            by_cases h26 : (r7 : Int32) ≠ 0
            · refine zS1 (fun r he => B_X7_crossings_r1_c3_94_s1_l9 Ln _ _ _ _ _ _ _  (fun _ => he) (fun n => absurd h26 n)) ?_
              have h27 := h27 h26
              obtain ⟨_, h29, r8, rfl, h30⟩ := T_X0_whoPays_r11_r42 Ln _ _ _ h27
              refine zS1 (fun r he => B_X7_crossings_r1_c3_104_l9 Ln _ _ _ _ _ _  h29 rfl he) ?_
              obtain ⟨_, h31, r9, rfl, h32⟩ := T_X1_firstWrong_r26_r10 Ln _ _ _ _ _ _ h30
              refine zS1 (fun r he => B_X7_crossings_r1_c3_128_s6_l9 Ln _ _ _ _ _ _ _ _ _  h31 rfl he) ?_
              obtain ⟨_, h33, r10, I11, rfl, h34⟩ := T_X7_faultless_r1 Ln _ _ _ _ h32
              refine zS1 (fun r he => B_X7_crossings_r1_c3_131_s2_l9 Ln _ _ _ _ _ _ _  h33 rfl he) ?_
              exact ⟨_, B_X7_crossings_r1_c3_134_s1_l9 Ln _ _ _ _ _ _ _ , _, _, rfl, h34⟩
            · refine zS1 (fun r he => B_X7_crossings_r1_c3_94_s1_l9 Ln _ _ _ _ _ _ _  (fun n => absurd n h26) (fun _ => he)) ?_
              have h28 := h28 h26
              exact TJ_X7_crossings_r1_c3_97  h28
        · refine zS1 (fun r he => B_X7_crossings_r1_c3_58_s1_l9 Ln _ _ _ _ _ _  (fun n => absurd n h18) (fun _ => he)) ?_
          have h20 := h20 h18
          obtain ⟨_, h35, r12, I13, rfl, h36⟩ := T_X7_faulted_r1 Ln _ _ _ _ h20
          refine zS1 (fun r he => B_X7_crossings_r1_c3_65_l9 Ln _ _ _ _ _ _  h35 rfl he) ?_
          exact ⟨_, B_X7_crossings_r1_c3_71_s1_l9 Ln _ _ _ _ _ _ _ , _, _, rfl, h36⟩
      · refine zS1 (fun r he => B_X7_crossings_r1_c3_31_s1 Ln _ _ _ _ _ _  (fun n => absurd n h13) (fun _ => he)) ?_
        have h15 := h15 h13
        obtain ⟨_, h37, r14, I15, rfl, h38⟩ := T_X7_faultless_r1 Ln _ _ _ _ h15
        refine zS1 (fun r he => B_X7_crossings_r1_c3_34 Ln _ _ _ _ _  h37 rfl he) ?_
        exact ⟨_, B_X7_crossings_r1_c3_40_s1 Ln _ _ _ _ _ _ , _, _, rfl, h38⟩
    · refine zS1 (fun r he => B_X7_crossings_r1_c3_17_s1 Ln _ _ _ _ _ _  (fun n => absurd n h8) (fun _ => he)) ?_
      have h10 := h10 h8
      obtain ⟨_, h39, r16, I17, rfl, h40⟩ := T_X7_faultless_r1 Ln _ _ _ _ h10
      refine zS1 (fun r he => B_X7_crossings_r1_c3_20 Ln _ _ _ _ _  h39 rfl he) ?_
      exact ⟨_, B_X7_crossings_r1_c3_26_s1 Ln _ _ _ _ _ _ , _, _, rfl, h40⟩
  · refine zS1 (fun r he => B_X7_crossings_r1_c3_4_s1 Ln _ _ _ _ _ _  (fun n => absurd n h3) (fun _ => he)) ?_
    have h5 := h5 h3
    obtain ⟨_, h41, r18, I19, rfl, h42⟩ := T_X7_faultless_r1 Ln _ _ _ _ h5
    refine zS1 (fun r he => B_X7_crossings_r1_c3_7 Ln _ _ _ _ _  h41 rfl he) ?_
    exact ⟨_, B_X7_crossings_r1_c3_12_s1 Ln _ _ _ _ _ _ , _, _, rfl, h42⟩
def SL_X5_firstFault_r4_2 (Ln : Nat) (I A : Nat → Nat → Int32) (v1 : Int32) (v2 : Int32) (Q : Int32 → Prop) : Int32 → Prop
  | v3 => ∀  (j4 : Option Int32), zSem 26 2 0 0 [some (.ref 4), some (.int v1), some (.int v2), some (.int v3), (Option.map Value.int j4)] [] (zGs Ln I A) (fun r => ∃ x, r = (some (.int x), zGs Ln I A) ∧ Q x)
def J_X5_firstFault_r4_22_s1 (Ln : Nat) (I A : Nat → Nat → Int32) (v1 : Int32) (v2 : Int32) (v3 : Int32) (s0 : Int32) (K2 : Int32 → Prop) (Q : Int32 → Prop) : Prop := ((zin (v1 + v3) 60 = true) ∧ (W_X5_mayStand Ln I A v3 (A 4 (v1 + v3).toNatClampNeg) s0 (fun (r1 : Int32) => (((r1 : Int32) ≠ 0 → ((K2 (v3 + 1)))) ∧ (¬ ((r1 : Int32) ≠ 0) → (Q v3))))))
set_option maxRecDepth 100000 in
theorem TJ_X5_firstFault_r4_22_s1 {Ln : Nat} {I A : Nat → Nat → Int32} {v1 : Int32} {v2 : Int32} {v3 : Int32} {s0 : Int32} {K2 : Int32 → Prop} {Q : Int32 → Prop} (hK2 : ∀ p, K2 p → SL_X5_firstFault_r4_2 Ln I A v1 v2 Q p) (h0 : J_X5_firstFault_r4_22_s1 Ln I A v1 v2 v3 s0 K2 Q) (j4 : Option Int32) : zSem 26 22 0 0 [some (.ref 4), some (.int v1), some (.int v2), some (.int v3), (Option.map Value.int j4)] [.int s0] (zGs Ln I A) (fun r => ∃ x, r = (some (.int x), zGs Ln I A) ∧ Q x) := by
  unfold J_X5_firstFault_r4_22_s1 at h0
  obtain ⟨h1, h2⟩ := h0
  obtain ⟨_, h3, r1, rfl, h4⟩ := T_X5_mayStand Ln _ _ _ _ _ _ h2
  refine zS1 (fun r he => B_X5_firstFault_r4_22_s1 Ln _ _ _ _ _ j4 _ h1 h3 rfl he) ?_
  obtain ⟨h6, h7⟩ := h4
  by_cases h5 : (r1 : Int32) ≠ 0
  · refine zS1 (fun r he => B_X5_firstFault_r4_35_s1 Ln _ _ _ _ _ _ _  (fun _ => he) (fun n => absurd h5 n)) ?_
    have h6 := h6 h5
    refine zS1 (fun r he => B_X5_firstFault_r4_40 Ln _ _ _ _ _ _  he) ?_
    have q := hK2 _ h6
    exact q (some _)
  · refine zS1 (fun r he => B_X5_firstFault_r4_35_s1 Ln _ _ _ _ _ _ _  (fun n => absurd n h5) (fun _ => he)) ?_
    have h7 := h7 h5
    exact ⟨_, B_X5_firstFault_r4_38 Ln _ _ _ _ _ _ , _, rfl, h7⟩
def L_X5_firstFault_r4_2 (Ln : Nat) (I A : Nat → Nat → Int32) (v1 : Int32) (v2 : Int32) (Q : Int32 → Prop) : Int32 → (Int32 → Prop) → Prop
  | v3, K2 => (((v2 : Int32) ≤ v3 → (((v2 : Int32) ≤ 5 → ((Q v2))) ∧ (¬ ((v2 : Int32) ≤ 5) → (((((v2 - 5) - (v2 - 5) / 6 * 6) : Int32) ≠ 0 → ((Q v2))) ∧ (¬ ((((v2 - 5) - (v2 - 5) / 6 * 6) : Int32) ≠ 0) → ((Q (-1)))))))) ∧ (¬ ((v2 : Int32) ≤ v3) → (((v3 : Int32) ≠ 0 → ((zin ((v1 + v3) - 1) 60 = true) ∧ (J_X5_firstFault_r4_22_s1 Ln I A v1 v2 v3 (A 4 ((v1 + v3) - 1).toNatClampNeg) K2 Q))) ∧ (¬ ((v3 : Int32) ≠ 0) → ((J_X5_firstFault_r4_22_s1 Ln I A v1 v2 v3 0 K2 Q))))))
set_option maxRecDepth 100000 in
theorem TL_X5_firstFault_r4_2 {Ln : Nat} {I A : Nat → Nat → Int32} {v1 : Int32} {v2 : Int32} {Q : Int32 → Prop} : ∀ p, zLoop (L_X5_firstFault_r4_2 Ln I A v1 v2  Q) p → SL_X5_firstFault_r4_2 Ln I A v1 v2 Q p := by
  refine zLoop.sound (Sem := SL_X5_firstFault_r4_2 Ln I A v1 v2 Q) ?_
  rintro v3 K2 hK2 h0
  intro j4
  show zSem 26 2 0 0 [some (.ref 4), some (.int v1), some (.int v2), some (.int v3), (Option.map Value.int j4)] [] (zGs Ln I A) (fun r => ∃ x, r = (some (.int x), zGs Ln I A) ∧ Q x)
  change (((v2 : Int32) ≤ v3 → (((v2 : Int32) ≤ 5 → ((Q v2))) ∧ (¬ ((v2 : Int32) ≤ 5) → (((((v2 - 5) - (v2 - 5) / 6 * 6) : Int32) ≠ 0 → ((Q v2))) ∧ (¬ ((((v2 - 5) - (v2 - 5) / 6 * 6) : Int32) ≠ 0) → ((Q (-1)))))))) ∧ (¬ ((v2 : Int32) ≤ v3) → (((v3 : Int32) ≠ 0 → ((zin ((v1 + v3) - 1) 60 = true) ∧ (J_X5_firstFault_r4_22_s1 Ln I A v1 v2 v3 (A 4 ((v1 + v3) - 1).toNatClampNeg) K2 Q))) ∧ (¬ ((v3 : Int32) ≠ 0) → ((J_X5_firstFault_r4_22_s1 Ln I A v1 v2 v3 0 K2 Q)))))) at h0
  obtain ⟨h2, h3⟩ := h0
  by_cases h1 : (v2 : Int32) ≤ v3
  · refine zS1 (fun r he => B_X5_firstFault_r4_2 Ln _ _ _ _ _ j4  (fun _ => he) (fun n => absurd h1 n)) ?_
    have h2 := h2 h1
    obtain ⟨h5, h6⟩ := h2
    by_cases h4 : (v2 : Int32) ≤ 5
    · refine zS1 (fun r he => B_X5_firstFault_r4_46 Ln _ _ _ _ _ j4  (fun _ => he) (fun n => absurd h4 n)) ?_
      have h5 := h5 h4
      refine zS1 (fun r he => B_X5_firstFault_r4_64 Ln _ _ _ _ _ j4  he) ?_
      exact ⟨_, B_X5_firstFault_r4_65_s1 Ln _ _ _ _ _ j4 _ , _, rfl, h5⟩
    · refine zS1 (fun r he => B_X5_firstFault_r4_46 Ln _ _ _ _ _ j4  (fun n => absurd n h4) (fun _ => he)) ?_
      have h6 := h6 h4
      obtain ⟨h8, h9⟩ := h6
      by_cases h7 : (((v2 - 5) - (v2 - 5) / 6 * 6) : Int32) ≠ 0
      · refine zS1 (fun r he => B_X5_firstFault_r4_51 Ln _ _ _ _ _ j4  (fun _ => he) (fun n => absurd h7 n)) ?_
        have h8 := h8 h7
        refine zS1 (fun r he => B_X5_firstFault_r4_64 Ln _ _ _ _ _ j4  he) ?_
        exact ⟨_, B_X5_firstFault_r4_65_s1 Ln _ _ _ _ _ j4 _ , _, rfl, h8⟩
      · refine zS1 (fun r he => B_X5_firstFault_r4_51 Ln _ _ _ _ _ j4  (fun n => absurd n h7) (fun _ => he)) ?_
        have h9 := h9 h7
        refine zS1 (fun r he => B_X5_firstFault_r4_60 Ln _ _ _ _ _ j4  he) ?_
        exact ⟨_, B_X5_firstFault_r4_65_s1 Ln _ _ _ _ _ j4 _ , _, rfl, h9⟩
  · refine zS1 (fun r he => B_X5_firstFault_r4_2 Ln _ _ _ _ _ j4  (fun n => absurd n h1) (fun _ => he)) ?_
    have h3 := h3 h1
    obtain ⟨h11, h12⟩ := h3
    by_cases h10 : (v3 : Int32) ≠ 0
    · refine zS1 (fun r he => B_X5_firstFault_r4_7 Ln _ _ _ _ _ j4  (fun _ => he) (fun n => absurd h10 n)) ?_
      have h11 := h11 h10
      obtain ⟨h13, h14⟩ := h11
      refine zS1 (fun r he => B_X5_firstFault_r4_15 Ln _ _ _ _ _ j4 h13 he) ?_
      exact TJ_X5_firstFault_r4_22_s1 hK2 h14 j4
    · refine zS1 (fun r he => B_X5_firstFault_r4_7 Ln _ _ _ _ _ j4  (fun n => absurd n h10) (fun _ => he)) ?_
      have h12 := h12 h10
      refine zS1 (fun r he => B_X5_firstFault_r4_11 Ln _ _ _ _ _ j4  he) ?_
      exact TJ_X5_firstFault_r4_22_s1 hK2 h12 j4
def W_X5_firstFault_r4 (Ln : Nat) (I A : Nat → Nat → Int32) (v1 : Int32) (v2 : Int32) (Q : Int32 → Prop) : Prop := ((zLoop (L_X5_firstFault_r4_2 Ln I A v1 v2  Q) 0))
set_option maxRecDepth 100000 in
theorem T_X5_firstFault_r4 (Ln : Nat) (I A : Nat → Nat → Int32) (v1 : Int32) (v2 : Int32) (Q : Int32 → Prop) (h0 : W_X5_firstFault_r4 Ln I A v1 v2 Q) : zSem 26 0 0 0 [some (.ref 4), some (.int v1), some (.int v2), none, none] [] (zGs Ln I A) (fun r => ∃ x, r = (some (.int x), zGs Ln I A) ∧ Q x) := by
  unfold W_X5_firstFault_r4 at h0
  refine zS1 (fun r he => B_X5_firstFault_r4_0 Ln _ _ _ _  he) ?_
  exact TL_X5_firstFault_r4_2  _ h0 none
