/-! what a method asks, by program (wip/whole/gen_wp.py) -/
def W_X7_bank_r1_c0 (Ln : Nat) (I A : Nat → Nat → Int32) (v2 : Int32) (v3 : Int32) (v4 : Int32) (Q : Int32 → (Nat → Nat → Int32) → (Nat → Nat → Int32) → Prop) : Prop := ((W_X7_isSheet Ln I A 0 (fun (r1 : Int32) => (((r1 : Int32) ≠ 0 → ((W_X7_isLane Ln I A v2 (fun (r2 : Int32) => (((r2 : Int32) ≠ 0 → ((W_X4_faultOfCells_r3 Ln I A v2 v3 v4 (fun (r3 : Int32) => (((r3 : Int32) = 0 → ((W_X5_firstFault_r4 Ln I A v3 v4 (fun (r4 : Int32) => (((r4 : Int32) = (-1) → ((W_X0_become_r11_r4 Ln I A v3 v4 (fun (I5 : Nat → Nat → Int32) (A6 : Nat → Nat → Int32) => ((∀ I7 : Nat → Nat → Int32, I7 = zp (zp (zp I5 18 3 0) 22 3 0) 1 9 0 → (W_X7_goThroughNights_r1 Ln I7 A6  (fun (A8 : Nat → Nat → Int32) => ((W_X7_faultless_r1 Ln I7 A8 (I7 11 0) (fun (r9 : Int32) (I10 : Nat → Nat → Int32) => (Q r9 I10 A8)))))))))))) ∧ (¬ ((r4 : Int32) = (-1)) → ((W_X7_faultless_r1 Ln I A (((-100)) - r4) (fun (r11 : Int32) (I12 : Nat → Nat → Int32) => (Q r11 I12 A)))))))))) ∧ (¬ ((r3 : Int32) = 0) → ((W_X7_faulted_r1 Ln I A r3 (fun (r13 : Int32) (I14 : Nat → Nat → Int32) => (Q r13 I14 A)))))))))) ∧ (¬ ((r2 : Int32) ≠ 0) → ((W_X7_faultless_r1 Ln I A (-2) (fun (r15 : Int32) (I16 : Nat → Nat → Int32) => (Q r15 I16 A)))))))))) ∧ (¬ ((r1 : Int32) ≠ 0) → ((W_X7_faultless_r1 Ln I A (-1) (fun (r17 : Int32) (I18 : Nat → Nat → Int32) => (Q r17 I18 A)))))))))
set_option maxRecDepth 100000 in
theorem T_X7_bank_r1_c0 (Ln : Nat) (I A : Nat → Nat → Int32) (v2 : Int32) (v3 : Int32) (v4 : Int32) (Q : Int32 → (Nat → Nat → Int32) → (Nat → Nat → Int32) → Prop) (h0 : W_X7_bank_r1_c0 Ln I A v2 v3 v4 Q) : zSem 46 0 0 0 [some (.ref 1), some (.int 0), some (.int v2), some (.int v3), some (.int v4), none, none, none] [] (zGs Ln I A) (fun r => ∃ x I1 A1, r = (some (.int x), zGs Ln I1 A1) ∧ Q x I1 A1) := by
  unfold W_X7_bank_r1_c0 at h0
  obtain ⟨_, h1, r1, rfl, h2⟩ := T_X7_isSheet Ln _ _ _ _ h0
  refine zS1 (fun r he => B_X7_bank_r1_c0_0 Ln _ _ _ _ _  h1 rfl he) ?_
  obtain ⟨h4, h5⟩ := h2
  by_cases h3 : (r1 : Int32) ≠ 0
  · refine zS1 (fun r he => B_X7_bank_r1_c0_4_s1 Ln _ _ _ _ _ _  (fun _ => he) (fun n => absurd h3 n)) ?_
    have h4 := h4 h3
    obtain ⟨_, h6, r2, rfl, h7⟩ := T_X7_isLane Ln _ _ _ _ h4
    refine zS1 (fun r he => B_X7_bank_r1_c0_13 Ln _ _ _ _ _  h6 rfl he) ?_
    obtain ⟨h9, h10⟩ := h7
    by_cases h8 : (r2 : Int32) ≠ 0
    · refine zS1 (fun r he => B_X7_bank_r1_c0_17_s1 Ln _ _ _ _ _ _  (fun _ => he) (fun n => absurd h8 n)) ?_
      have h9 := h9 h8
      obtain ⟨_, h11, r3, rfl, h12⟩ := T_X4_faultOfCells_r3 Ln _ _ _ _ _ _ h9
      refine zS1 (fun r he => B_X7_bank_r1_c0_27 Ln _ _ _ _ _  h11 rfl he) ?_
      obtain ⟨h14, h15⟩ := h12
      by_cases h13 : (r3 : Int32) = 0
      · refine zS1 (fun r he => B_X7_bank_r1_c0_44_s1_l3 Ln _ _ _ _ _ _  (fun _ => he) (fun n => absurd h13 n)) ?_
        have h14 := h14 h13
        obtain ⟨_, h16, r4, rfl, h17⟩ := T_X5_firstFault_r4 Ln _ _ _ _ _ h14
        refine zS1 (fun r he => B_X7_bank_r1_c0_58_l3 Ln _ _ _ _ _ _  h16 rfl he) ?_
        obtain ⟨h19, h20⟩ := h17
        by_cases h18 : (r4 : Int32) = (-1)
        · refine zS1 (fun r he => B_X7_bank_r1_c0_69_s1_l3 Ln _ _ _ _ _ _ _  (fun _ => he) (fun n => absurd h18 n)) ?_
          have h19 := h19 h18
          obtain ⟨_, h21, I5, A6, rfl, h22⟩ := T_X0_become_r11_r4 Ln _ _ _ _ _ h19
          refine zS1 (fun r he => B_X7_bank_r1_c0_87_l3 Ln _ _ _ _ _ _ _  h21 rfl he) ?_
          have h23 := h22 _ rfl
          obtain ⟨_, h24, A8, rfl, h25⟩ := T_X7_goThroughNights_r1 Ln _ _ _ h23
          refine zS1 (fun r he => B_X7_bank_r1_c0_102_l3 Ln _ _ _ _ _ _ _  h24 rfl he) ?_
          obtain ⟨_, h26, r9, I10, rfl, h27⟩ := T_X7_faultless_r1 Ln _ _ _ _ h25
          refine zS1 (fun r he => B_X7_bank_r1_c0_127_l3 Ln _ _ _ _ _ _ _  h26 rfl he) ?_
          exact ⟨_, B_X7_bank_r1_c0_138_s1_l3 Ln _ _ _ _ _ _ _ _ , _, _, _, rfl, h27⟩
        · refine zS1 (fun r he => B_X7_bank_r1_c0_69_s1_l3 Ln _ _ _ _ _ _ _  (fun n => absurd n h18) (fun _ => he)) ?_
          have h20 := h20 h18
          obtain ⟨_, h28, r11, I12, rfl, h29⟩ := T_X7_faultless_r1 Ln _ _ _ _ h20
          refine zS1 (fun r he => B_X7_bank_r1_c0_77_l3 Ln _ _ _ _ _ _ _  h28 rfl he) ?_
          exact ⟨_, B_X7_bank_r1_c0_86_s1_l3 Ln _ _ _ _ _ _ _ _ , _, _, _, rfl, h29⟩
      · refine zS1 (fun r he => B_X7_bank_r1_c0_44_s1_l3 Ln _ _ _ _ _ _  (fun n => absurd n h13) (fun _ => he)) ?_
        have h15 := h15 h13
        obtain ⟨_, h30, r13, I14, rfl, h31⟩ := T_X7_faulted_r1 Ln _ _ _ _ h15
        refine zS1 (fun r he => B_X7_bank_r1_c0_51_l3 Ln _ _ _ _ _ _  h30 rfl he) ?_
        exact ⟨_, B_X7_bank_r1_c0_57_s1_l3 Ln _ _ _ _ _ _ _ , _, _, _, rfl, h31⟩
    · refine zS1 (fun r he => B_X7_bank_r1_c0_17_s1 Ln _ _ _ _ _ _  (fun n => absurd n h8) (fun _ => he)) ?_
      have h10 := h10 h8
      obtain ⟨_, h32, r15, I16, rfl, h33⟩ := T_X7_faultless_r1 Ln _ _ _ _ h10
      refine zS1 (fun r he => B_X7_bank_r1_c0_20 Ln _ _ _ _ _  h32 rfl he) ?_
      exact ⟨_, B_X7_bank_r1_c0_26_s1 Ln _ _ _ _ _ _ , _, _, _, rfl, h33⟩
  · refine zS1 (fun r he => B_X7_bank_r1_c0_4_s1 Ln _ _ _ _ _ _  (fun n => absurd n h3) (fun _ => he)) ?_
    have h5 := h5 h3
    obtain ⟨_, h34, r17, I18, rfl, h35⟩ := T_X7_faultless_r1 Ln _ _ _ _ h5
    refine zS1 (fun r he => B_X7_bank_r1_c0_7 Ln _ _ _ _ _  h34 rfl he) ?_
    exact ⟨_, B_X7_bank_r1_c0_12_s1 Ln _ _ _ _ _ _ , _, _, _, rfl, h35⟩
def W_X7_bank_r1_c1 (Ln : Nat) (I A : Nat → Nat → Int32) (v2 : Int32) (v3 : Int32) (v4 : Int32) (Q : Int32 → (Nat → Nat → Int32) → (Nat → Nat → Int32) → Prop) : Prop := ((W_X7_isSheet Ln I A 1 (fun (r1 : Int32) => (((r1 : Int32) ≠ 0 → ((W_X7_isLane Ln I A v2 (fun (r2 : Int32) => (((r2 : Int32) ≠ 0 → ((W_X4_faultOfCells_r5 Ln I A v2 v3 v4 (fun (r3 : Int32) => (((r3 : Int32) = 0 → ((W_X5_firstFault_r6 Ln I A v3 v4 (fun (r4 : Int32) => (((r4 : Int32) = (-1) → ((W_X0_become_r11_r6 Ln I A v3 v4 (fun (I5 : Nat → Nat → Int32) (A6 : Nat → Nat → Int32) => ((∀ I7 : Nat → Nat → Int32, I7 = zp (zp (zp I5 18 3 0) 22 3 0) 1 9 0 → (W_X7_goThroughNights_r1 Ln I7 A6  (fun (A8 : Nat → Nat → Int32) => ((W_X7_faultless_r1 Ln I7 A8 (I7 11 0) (fun (r9 : Int32) (I10 : Nat → Nat → Int32) => (Q r9 I10 A8)))))))))))) ∧ (¬ ((r4 : Int32) = (-1)) → ((W_X7_faultless_r1 Ln I A (((-100)) - r4) (fun (r11 : Int32) (I12 : Nat → Nat → Int32) => (Q r11 I12 A)))))))))) ∧ (¬ ((r3 : Int32) = 0) → ((W_X7_faulted_r1 Ln I A r3 (fun (r13 : Int32) (I14 : Nat → Nat → Int32) => (Q r13 I14 A)))))))))) ∧ (¬ ((r2 : Int32) ≠ 0) → ((W_X7_faultless_r1 Ln I A (-2) (fun (r15 : Int32) (I16 : Nat → Nat → Int32) => (Q r15 I16 A)))))))))) ∧ (¬ ((r1 : Int32) ≠ 0) → ((W_X7_faultless_r1 Ln I A (-1) (fun (r17 : Int32) (I18 : Nat → Nat → Int32) => (Q r17 I18 A)))))))))
set_option maxRecDepth 100000 in
theorem T_X7_bank_r1_c1 (Ln : Nat) (I A : Nat → Nat → Int32) (v2 : Int32) (v3 : Int32) (v4 : Int32) (Q : Int32 → (Nat → Nat → Int32) → (Nat → Nat → Int32) → Prop) (h0 : W_X7_bank_r1_c1 Ln I A v2 v3 v4 Q) : zSem 46 0 0 0 [some (.ref 1), some (.int 1), some (.int v2), some (.int v3), some (.int v4), none, none, none] [] (zGs Ln I A) (fun r => ∃ x I1 A1, r = (some (.int x), zGs Ln I1 A1) ∧ Q x I1 A1) := by
  unfold W_X7_bank_r1_c1 at h0
  obtain ⟨_, h1, r1, rfl, h2⟩ := T_X7_isSheet Ln _ _ _ _ h0
  refine zS1 (fun r he => B_X7_bank_r1_c1_0 Ln _ _ _ _ _  h1 rfl he) ?_
  obtain ⟨h4, h5⟩ := h2
  by_cases h3 : (r1 : Int32) ≠ 0
  · refine zS1 (fun r he => B_X7_bank_r1_c1_4_s1 Ln _ _ _ _ _ _  (fun _ => he) (fun n => absurd h3 n)) ?_
    have h4 := h4 h3
    obtain ⟨_, h6, r2, rfl, h7⟩ := T_X7_isLane Ln _ _ _ _ h4
    refine zS1 (fun r he => B_X7_bank_r1_c1_13 Ln _ _ _ _ _  h6 rfl he) ?_
    obtain ⟨h9, h10⟩ := h7
    by_cases h8 : (r2 : Int32) ≠ 0
    · refine zS1 (fun r he => B_X7_bank_r1_c1_17_s1 Ln _ _ _ _ _ _  (fun _ => he) (fun n => absurd h8 n)) ?_
      have h9 := h9 h8
      obtain ⟨_, h11, r3, rfl, h12⟩ := T_X4_faultOfCells_r5 Ln _ _ _ _ _ _ h9
      refine zS1 (fun r he => B_X7_bank_r1_c1_27 Ln _ _ _ _ _  h11 rfl he) ?_
      obtain ⟨h14, h15⟩ := h12
      by_cases h13 : (r3 : Int32) = 0
      · refine zS1 (fun r he => B_X7_bank_r1_c1_44_s1_l5 Ln _ _ _ _ _ _  (fun _ => he) (fun n => absurd h13 n)) ?_
        have h14 := h14 h13
        obtain ⟨_, h16, r4, rfl, h17⟩ := T_X5_firstFault_r6 Ln _ _ _ _ _ h14
        refine zS1 (fun r he => B_X7_bank_r1_c1_58_l5 Ln _ _ _ _ _ _  h16 rfl he) ?_
        obtain ⟨h19, h20⟩ := h17
        by_cases h18 : (r4 : Int32) = (-1)
        · refine zS1 (fun r he => B_X7_bank_r1_c1_69_s1_l5 Ln _ _ _ _ _ _ _  (fun _ => he) (fun n => absurd h18 n)) ?_
          have h19 := h19 h18
          obtain ⟨_, h21, I5, A6, rfl, h22⟩ := T_X0_become_r11_r6 Ln _ _ _ _ _ h19
          refine zS1 (fun r he => B_X7_bank_r1_c1_87_l5 Ln _ _ _ _ _ _ _  h21 rfl he) ?_
          have h23 := h22 _ rfl
          obtain ⟨_, h24, A8, rfl, h25⟩ := T_X7_goThroughNights_r1 Ln _ _ _ h23
          refine zS1 (fun r he => B_X7_bank_r1_c1_102_l5 Ln _ _ _ _ _ _ _  h24 rfl he) ?_
          obtain ⟨_, h26, r9, I10, rfl, h27⟩ := T_X7_faultless_r1 Ln _ _ _ _ h25
          refine zS1 (fun r he => B_X7_bank_r1_c1_127_l5 Ln _ _ _ _ _ _ _  h26 rfl he) ?_
          exact ⟨_, B_X7_bank_r1_c1_138_s1_l5 Ln _ _ _ _ _ _ _ _ , _, _, _, rfl, h27⟩
        · refine zS1 (fun r he => B_X7_bank_r1_c1_69_s1_l5 Ln _ _ _ _ _ _ _  (fun n => absurd n h18) (fun _ => he)) ?_
          have h20 := h20 h18
          obtain ⟨_, h28, r11, I12, rfl, h29⟩ := T_X7_faultless_r1 Ln _ _ _ _ h20
          refine zS1 (fun r he => B_X7_bank_r1_c1_77_l5 Ln _ _ _ _ _ _ _  h28 rfl he) ?_
          exact ⟨_, B_X7_bank_r1_c1_86_s1_l5 Ln _ _ _ _ _ _ _ _ , _, _, _, rfl, h29⟩
      · refine zS1 (fun r he => B_X7_bank_r1_c1_44_s1_l5 Ln _ _ _ _ _ _  (fun n => absurd n h13) (fun _ => he)) ?_
        have h15 := h15 h13
        obtain ⟨_, h30, r13, I14, rfl, h31⟩ := T_X7_faulted_r1 Ln _ _ _ _ h15
        refine zS1 (fun r he => B_X7_bank_r1_c1_51_l5 Ln _ _ _ _ _ _  h30 rfl he) ?_
        exact ⟨_, B_X7_bank_r1_c1_57_s1_l5 Ln _ _ _ _ _ _ _ , _, _, _, rfl, h31⟩
    · refine zS1 (fun r he => B_X7_bank_r1_c1_17_s1 Ln _ _ _ _ _ _  (fun n => absurd n h8) (fun _ => he)) ?_
      have h10 := h10 h8
      obtain ⟨_, h32, r15, I16, rfl, h33⟩ := T_X7_faultless_r1 Ln _ _ _ _ h10
      refine zS1 (fun r he => B_X7_bank_r1_c1_20 Ln _ _ _ _ _  h32 rfl he) ?_
      exact ⟨_, B_X7_bank_r1_c1_26_s1 Ln _ _ _ _ _ _ , _, _, _, rfl, h33⟩
  · refine zS1 (fun r he => B_X7_bank_r1_c1_4_s1 Ln _ _ _ _ _ _  (fun n => absurd n h3) (fun _ => he)) ?_
    have h5 := h5 h3
    obtain ⟨_, h34, r17, I18, rfl, h35⟩ := T_X7_faultless_r1 Ln _ _ _ _ h5
    refine zS1 (fun r he => B_X7_bank_r1_c1_7 Ln _ _ _ _ _  h34 rfl he) ?_
    exact ⟨_, B_X7_bank_r1_c1_12_s1 Ln _ _ _ _ _ _ , _, _, _, rfl, h35⟩
def W_X7_bank_r1_c2 (Ln : Nat) (I A : Nat → Nat → Int32) (v2 : Int32) (v3 : Int32) (v4 : Int32) (Q : Int32 → (Nat → Nat → Int32) → (Nat → Nat → Int32) → Prop) : Prop := ((W_X7_isSheet Ln I A 2 (fun (r1 : Int32) => (((r1 : Int32) ≠ 0 → ((W_X7_isLane Ln I A v2 (fun (r2 : Int32) => (((r2 : Int32) ≠ 0 → ((W_X4_faultOfCells_r7 Ln I A v2 v3 v4 (fun (r3 : Int32) => (((r3 : Int32) = 0 → ((W_X5_firstFault_r8 Ln I A v3 v4 (fun (r4 : Int32) => (((r4 : Int32) = (-1) → ((W_X0_become_r11_r8 Ln I A v3 v4 (fun (I5 : Nat → Nat → Int32) (A6 : Nat → Nat → Int32) => ((∀ I7 : Nat → Nat → Int32, I7 = zp (zp (zp I5 18 3 0) 22 3 0) 1 9 0 → (W_X7_goThroughNights_r1 Ln I7 A6  (fun (A8 : Nat → Nat → Int32) => ((W_X7_faultless_r1 Ln I7 A8 (I7 11 0) (fun (r9 : Int32) (I10 : Nat → Nat → Int32) => (Q r9 I10 A8)))))))))))) ∧ (¬ ((r4 : Int32) = (-1)) → ((W_X7_faultless_r1 Ln I A (((-100)) - r4) (fun (r11 : Int32) (I12 : Nat → Nat → Int32) => (Q r11 I12 A)))))))))) ∧ (¬ ((r3 : Int32) = 0) → ((W_X7_faulted_r1 Ln I A r3 (fun (r13 : Int32) (I14 : Nat → Nat → Int32) => (Q r13 I14 A)))))))))) ∧ (¬ ((r2 : Int32) ≠ 0) → ((W_X7_faultless_r1 Ln I A (-2) (fun (r15 : Int32) (I16 : Nat → Nat → Int32) => (Q r15 I16 A)))))))))) ∧ (¬ ((r1 : Int32) ≠ 0) → ((W_X7_faultless_r1 Ln I A (-1) (fun (r17 : Int32) (I18 : Nat → Nat → Int32) => (Q r17 I18 A)))))))))
set_option maxRecDepth 100000 in
theorem T_X7_bank_r1_c2 (Ln : Nat) (I A : Nat → Nat → Int32) (v2 : Int32) (v3 : Int32) (v4 : Int32) (Q : Int32 → (Nat → Nat → Int32) → (Nat → Nat → Int32) → Prop) (h0 : W_X7_bank_r1_c2 Ln I A v2 v3 v4 Q) : zSem 46 0 0 0 [some (.ref 1), some (.int 2), some (.int v2), some (.int v3), some (.int v4), none, none, none] [] (zGs Ln I A) (fun r => ∃ x I1 A1, r = (some (.int x), zGs Ln I1 A1) ∧ Q x I1 A1) := by
  unfold W_X7_bank_r1_c2 at h0
  obtain ⟨_, h1, r1, rfl, h2⟩ := T_X7_isSheet Ln _ _ _ _ h0
  refine zS1 (fun r he => B_X7_bank_r1_c2_0 Ln _ _ _ _ _  h1 rfl he) ?_
  obtain ⟨h4, h5⟩ := h2
  by_cases h3 : (r1 : Int32) ≠ 0
  · refine zS1 (fun r he => B_X7_bank_r1_c2_4_s1 Ln _ _ _ _ _ _  (fun _ => he) (fun n => absurd h3 n)) ?_
    have h4 := h4 h3
    obtain ⟨_, h6, r2, rfl, h7⟩ := T_X7_isLane Ln _ _ _ _ h4
    refine zS1 (fun r he => B_X7_bank_r1_c2_13 Ln _ _ _ _ _  h6 rfl he) ?_
    obtain ⟨h9, h10⟩ := h7
    by_cases h8 : (r2 : Int32) ≠ 0
    · refine zS1 (fun r he => B_X7_bank_r1_c2_17_s1 Ln _ _ _ _ _ _  (fun _ => he) (fun n => absurd h8 n)) ?_
      have h9 := h9 h8
      obtain ⟨_, h11, r3, rfl, h12⟩ := T_X4_faultOfCells_r7 Ln _ _ _ _ _ _ h9
      refine zS1 (fun r he => B_X7_bank_r1_c2_27 Ln _ _ _ _ _  h11 rfl he) ?_
      obtain ⟨h14, h15⟩ := h12
      by_cases h13 : (r3 : Int32) = 0
      · refine zS1 (fun r he => B_X7_bank_r1_c2_44_s1_l7 Ln _ _ _ _ _ _  (fun _ => he) (fun n => absurd h13 n)) ?_
        have h14 := h14 h13
        obtain ⟨_, h16, r4, rfl, h17⟩ := T_X5_firstFault_r8 Ln _ _ _ _ _ h14
        refine zS1 (fun r he => B_X7_bank_r1_c2_58_l7 Ln _ _ _ _ _ _  h16 rfl he) ?_
        obtain ⟨h19, h20⟩ := h17
        by_cases h18 : (r4 : Int32) = (-1)
        · refine zS1 (fun r he => B_X7_bank_r1_c2_69_s1_l7 Ln _ _ _ _ _ _ _  (fun _ => he) (fun n => absurd h18 n)) ?_
          have h19 := h19 h18
          obtain ⟨_, h21, I5, A6, rfl, h22⟩ := T_X0_become_r11_r8 Ln _ _ _ _ _ h19
          refine zS1 (fun r he => B_X7_bank_r1_c2_87_l7 Ln _ _ _ _ _ _ _  h21 rfl he) ?_
          have h23 := h22 _ rfl
          obtain ⟨_, h24, A8, rfl, h25⟩ := T_X7_goThroughNights_r1 Ln _ _ _ h23
          refine zS1 (fun r he => B_X7_bank_r1_c2_102_l7 Ln _ _ _ _ _ _ _  h24 rfl he) ?_
          obtain ⟨_, h26, r9, I10, rfl, h27⟩ := T_X7_faultless_r1 Ln _ _ _ _ h25
          refine zS1 (fun r he => B_X7_bank_r1_c2_127_l7 Ln _ _ _ _ _ _ _  h26 rfl he) ?_
          exact ⟨_, B_X7_bank_r1_c2_138_s1_l7 Ln _ _ _ _ _ _ _ _ , _, _, _, rfl, h27⟩
        · refine zS1 (fun r he => B_X7_bank_r1_c2_69_s1_l7 Ln _ _ _ _ _ _ _  (fun n => absurd n h18) (fun _ => he)) ?_
          have h20 := h20 h18
          obtain ⟨_, h28, r11, I12, rfl, h29⟩ := T_X7_faultless_r1 Ln _ _ _ _ h20
          refine zS1 (fun r he => B_X7_bank_r1_c2_77_l7 Ln _ _ _ _ _ _ _  h28 rfl he) ?_
          exact ⟨_, B_X7_bank_r1_c2_86_s1_l7 Ln _ _ _ _ _ _ _ _ , _, _, _, rfl, h29⟩
      · refine zS1 (fun r he => B_X7_bank_r1_c2_44_s1_l7 Ln _ _ _ _ _ _  (fun n => absurd n h13) (fun _ => he)) ?_
        have h15 := h15 h13
        obtain ⟨_, h30, r13, I14, rfl, h31⟩ := T_X7_faulted_r1 Ln _ _ _ _ h15
        refine zS1 (fun r he => B_X7_bank_r1_c2_51_l7 Ln _ _ _ _ _ _  h30 rfl he) ?_
        exact ⟨_, B_X7_bank_r1_c2_57_s1_l7 Ln _ _ _ _ _ _ _ , _, _, _, rfl, h31⟩
    · refine zS1 (fun r he => B_X7_bank_r1_c2_17_s1 Ln _ _ _ _ _ _  (fun n => absurd n h8) (fun _ => he)) ?_
      have h10 := h10 h8
      obtain ⟨_, h32, r15, I16, rfl, h33⟩ := T_X7_faultless_r1 Ln _ _ _ _ h10
      refine zS1 (fun r he => B_X7_bank_r1_c2_20 Ln _ _ _ _ _  h32 rfl he) ?_
      exact ⟨_, B_X7_bank_r1_c2_26_s1 Ln _ _ _ _ _ _ , _, _, _, rfl, h33⟩
  · refine zS1 (fun r he => B_X7_bank_r1_c2_4_s1 Ln _ _ _ _ _ _  (fun n => absurd n h3) (fun _ => he)) ?_
    have h5 := h5 h3
    obtain ⟨_, h34, r17, I18, rfl, h35⟩ := T_X7_faultless_r1 Ln _ _ _ _ h5
    refine zS1 (fun r he => B_X7_bank_r1_c2_7 Ln _ _ _ _ _  h34 rfl he) ?_
    exact ⟨_, B_X7_bank_r1_c2_12_s1 Ln _ _ _ _ _ _ , _, _, _, rfl, h35⟩
def W_X7_bank_r1_c3 (Ln : Nat) (I A : Nat → Nat → Int32) (v2 : Int32) (v3 : Int32) (v4 : Int32) (Q : Int32 → (Nat → Nat → Int32) → (Nat → Nat → Int32) → Prop) : Prop := ((W_X7_isSheet Ln I A 3 (fun (r1 : Int32) => (((r1 : Int32) ≠ 0 → ((W_X7_isLane Ln I A v2 (fun (r2 : Int32) => (((r2 : Int32) ≠ 0 → ((W_X4_faultOfCells_r9 Ln I A v2 v3 v4 (fun (r3 : Int32) => (((r3 : Int32) = 0 → ((W_X5_firstFault_r10 Ln I A v3 v4 (fun (r4 : Int32) => (((r4 : Int32) = (-1) → ((W_X0_become_r11_r10 Ln I A v3 v4 (fun (I5 : Nat → Nat → Int32) (A6 : Nat → Nat → Int32) => ((∀ I7 : Nat → Nat → Int32, I7 = zp (zp (zp I5 18 3 0) 22 3 0) 1 9 0 → (W_X7_goThroughNights_r1 Ln I7 A6  (fun (A8 : Nat → Nat → Int32) => ((W_X7_faultless_r1 Ln I7 A8 (I7 11 0) (fun (r9 : Int32) (I10 : Nat → Nat → Int32) => (Q r9 I10 A8)))))))))))) ∧ (¬ ((r4 : Int32) = (-1)) → ((W_X7_faultless_r1 Ln I A (((-100)) - r4) (fun (r11 : Int32) (I12 : Nat → Nat → Int32) => (Q r11 I12 A)))))))))) ∧ (¬ ((r3 : Int32) = 0) → ((W_X7_faulted_r1 Ln I A r3 (fun (r13 : Int32) (I14 : Nat → Nat → Int32) => (Q r13 I14 A)))))))))) ∧ (¬ ((r2 : Int32) ≠ 0) → ((W_X7_faultless_r1 Ln I A (-2) (fun (r15 : Int32) (I16 : Nat → Nat → Int32) => (Q r15 I16 A)))))))))) ∧ (¬ ((r1 : Int32) ≠ 0) → ((W_X7_faultless_r1 Ln I A (-1) (fun (r17 : Int32) (I18 : Nat → Nat → Int32) => (Q r17 I18 A)))))))))
set_option maxRecDepth 100000 in
theorem T_X7_bank_r1_c3 (Ln : Nat) (I A : Nat → Nat → Int32) (v2 : Int32) (v3 : Int32) (v4 : Int32) (Q : Int32 → (Nat → Nat → Int32) → (Nat → Nat → Int32) → Prop) (h0 : W_X7_bank_r1_c3 Ln I A v2 v3 v4 Q) : zSem 46 0 0 0 [some (.ref 1), some (.int 3), some (.int v2), some (.int v3), some (.int v4), none, none, none] [] (zGs Ln I A) (fun r => ∃ x I1 A1, r = (some (.int x), zGs Ln I1 A1) ∧ Q x I1 A1) := by
  unfold W_X7_bank_r1_c3 at h0
  obtain ⟨_, h1, r1, rfl, h2⟩ := T_X7_isSheet Ln _ _ _ _ h0
  refine zS1 (fun r he => B_X7_bank_r1_c3_0 Ln _ _ _ _ _  h1 rfl he) ?_
  obtain ⟨h4, h5⟩ := h2
  by_cases h3 : (r1 : Int32) ≠ 0
  · refine zS1 (fun r he => B_X7_bank_r1_c3_4_s1 Ln _ _ _ _ _ _  (fun _ => he) (fun n => absurd h3 n)) ?_
    have h4 := h4 h3
    obtain ⟨_, h6, r2, rfl, h7⟩ := T_X7_isLane Ln _ _ _ _ h4
    refine zS1 (fun r he => B_X7_bank_r1_c3_13 Ln _ _ _ _ _  h6 rfl he) ?_
    obtain ⟨h9, h10⟩ := h7
    by_cases h8 : (r2 : Int32) ≠ 0
    · refine zS1 (fun r he => B_X7_bank_r1_c3_17_s1 Ln _ _ _ _ _ _  (fun _ => he) (fun n => absurd h8 n)) ?_
      have h9 := h9 h8
      obtain ⟨_, h11, r3, rfl, h12⟩ := T_X4_faultOfCells_r9 Ln _ _ _ _ _ _ h9
      refine zS1 (fun r he => B_X7_bank_r1_c3_27 Ln _ _ _ _ _  h11 rfl he) ?_
      obtain ⟨h14, h15⟩ := h12
      by_cases h13 : (r3 : Int32) = 0
      · refine zS1 (fun r he => B_X7_bank_r1_c3_44_s1_l9 Ln _ _ _ _ _ _  (fun _ => he) (fun n => absurd h13 n)) ?_
        have h14 := h14 h13
        obtain ⟨_, h16, r4, rfl, h17⟩ := T_X5_firstFault_r10 Ln _ _ _ _ _ h14
        refine zS1 (fun r he => B_X7_bank_r1_c3_58_l9 Ln _ _ _ _ _ _  h16 rfl he) ?_
        obtain ⟨h19, h20⟩ := h17
        by_cases h18 : (r4 : Int32) = (-1)
        · refine zS1 (fun r he => B_X7_bank_r1_c3_69_s1_l9 Ln _ _ _ _ _ _ _  (fun _ => he) (fun n => absurd h18 n)) ?_
          have h19 := h19 h18
          obtain ⟨_, h21, I5, A6, rfl, h22⟩ := T_X0_become_r11_r10 Ln _ _ _ _ _ h19
          refine zS1 (fun r he => B_X7_bank_r1_c3_87_l9 Ln _ _ _ _ _ _ _  h21 rfl he) ?_
          have h23 := h22 _ rfl
          obtain ⟨_, h24, A8, rfl, h25⟩ := T_X7_goThroughNights_r1 Ln _ _ _ h23
          refine zS1 (fun r he => B_X7_bank_r1_c3_102_l9 Ln _ _ _ _ _ _ _  h24 rfl he) ?_
          obtain ⟨_, h26, r9, I10, rfl, h27⟩ := T_X7_faultless_r1 Ln _ _ _ _ h25
          refine zS1 (fun r he => B_X7_bank_r1_c3_127_l9 Ln _ _ _ _ _ _ _  h26 rfl he) ?_
          exact ⟨_, B_X7_bank_r1_c3_138_s1_l9 Ln _ _ _ _ _ _ _ _ , _, _, _, rfl, h27⟩
        · refine zS1 (fun r he => B_X7_bank_r1_c3_69_s1_l9 Ln _ _ _ _ _ _ _  (fun n => absurd n h18) (fun _ => he)) ?_
          have h20 := h20 h18
          obtain ⟨_, h28, r11, I12, rfl, h29⟩ := T_X7_faultless_r1 Ln _ _ _ _ h20
          refine zS1 (fun r he => B_X7_bank_r1_c3_77_l9 Ln _ _ _ _ _ _ _  h28 rfl he) ?_
          exact ⟨_, B_X7_bank_r1_c3_86_s1_l9 Ln _ _ _ _ _ _ _ _ , _, _, _, rfl, h29⟩
      · refine zS1 (fun r he => B_X7_bank_r1_c3_44_s1_l9 Ln _ _ _ _ _ _  (fun n => absurd n h13) (fun _ => he)) ?_
        have h15 := h15 h13
        obtain ⟨_, h30, r13, I14, rfl, h31⟩ := T_X7_faulted_r1 Ln _ _ _ _ h15
        refine zS1 (fun r he => B_X7_bank_r1_c3_51_l9 Ln _ _ _ _ _ _  h30 rfl he) ?_
        exact ⟨_, B_X7_bank_r1_c3_57_s1_l9 Ln _ _ _ _ _ _ _ , _, _, _, rfl, h31⟩
    · refine zS1 (fun r he => B_X7_bank_r1_c3_17_s1 Ln _ _ _ _ _ _  (fun n => absurd n h8) (fun _ => he)) ?_
      have h10 := h10 h8
      obtain ⟨_, h32, r15, I16, rfl, h33⟩ := T_X7_faultless_r1 Ln _ _ _ _ h10
      refine zS1 (fun r he => B_X7_bank_r1_c3_20 Ln _ _ _ _ _  h32 rfl he) ?_
      exact ⟨_, B_X7_bank_r1_c3_26_s1 Ln _ _ _ _ _ _ , _, _, _, rfl, h33⟩
  · refine zS1 (fun r he => B_X7_bank_r1_c3_4_s1 Ln _ _ _ _ _ _  (fun n => absurd n h3) (fun _ => he)) ?_
    have h5 := h5 h3
    obtain ⟨_, h34, r17, I18, rfl, h35⟩ := T_X7_faultless_r1 Ln _ _ _ _ h5
    refine zS1 (fun r he => B_X7_bank_r1_c3_7 Ln _ _ _ _ _  h34 rfl he) ?_
    exact ⟨_, B_X7_bank_r1_c3_12_s1 Ln _ _ _ _ _ _ , _, _, _, rfl, h35⟩
def W_X7_bank_r1 (Ln : Nat) (I A : Nat → Nat → Int32) (v1 : Int32) (v2 : Int32) (v3 : Int32) (v4 : Int32) (Q : Int32 → (Nat → Nat → Int32) → (Nat → Nat → Int32) → Prop) : Prop := (v1 = 0 → W_X7_bank_r1_c0 Ln I A v2 v3 v4 Q) ∧ (v1 = 1 → W_X7_bank_r1_c1 Ln I A v2 v3 v4 Q) ∧ (v1 = 2 → W_X7_bank_r1_c2 Ln I A v2 v3 v4 Q) ∧ (v1 = 3 → W_X7_bank_r1_c3 Ln I A v2 v3 v4 Q) ∧ (¬ (v1 = 0) → ¬ (v1 = 1) → ¬ (v1 = 2) → ¬ (v1 = 3) → ((W_X7_isSheet Ln I A v1 (fun (r1 : Int32) => (((r1 : Int32) ≠ 0 → ((W_X7_isLane Ln I A v2 (fun (r2 : Int32) => (((r2 : Int32) ≠ 0 → False) ∧ (¬ ((r2 : Int32) ≠ 0) → ((W_X7_faultless_r1 Ln I A (-2) (fun (r3 : Int32) (I4 : Nat → Nat → Int32) => (Q r3 I4 A)))))))))) ∧ (¬ ((r1 : Int32) ≠ 0) → ((W_X7_faultless_r1 Ln I A (-1) (fun (r5 : Int32) (I6 : Nat → Nat → Int32) => (Q r5 I6 A))))))))))
set_option maxRecDepth 100000 in
theorem T_X7_bank_r1 (Ln : Nat) (I A : Nat → Nat → Int32) (v1 : Int32) (v2 : Int32) (v3 : Int32) (v4 : Int32) (Q : Int32 → (Nat → Nat → Int32) → (Nat → Nat → Int32) → Prop) (h0 : W_X7_bank_r1 Ln I A v1 v2 v3 v4 Q) : zSem 46 0 0 0 [some (.ref 1), some (.int v1), some (.int v2), some (.int v3), some (.int v4), none, none, none] [] (zGs Ln I A) (fun r => ∃ x I1 A1, r = (some (.int x), zGs Ln I1 A1) ∧ Q x I1 A1) := by
  unfold W_X7_bank_r1 at h0
  obtain ⟨c0, c1, c2, c3, hg⟩ := h0
  by_cases n0 : v1 = 0
  · have q := c0 n0
    subst n0
    exact T_X7_bank_r1_c0 Ln I A v2 v3 v4 Q q
  by_cases n1 : v1 = 1
  · have q := c1 n1
    subst n1
    exact T_X7_bank_r1_c1 Ln I A v2 v3 v4 Q q
  by_cases n2 : v1 = 2
  · have q := c2 n2
    subst n2
    exact T_X7_bank_r1_c2 Ln I A v2 v3 v4 Q q
  by_cases n3 : v1 = 3
  · have q := c3 n3
    subst n3
    exact T_X7_bank_r1_c3 Ln I A v2 v3 v4 Q q
  have h0 := hg n0 n1 n2 n3
  obtain ⟨_, h1, r1, rfl, h2⟩ := T_X7_isSheet Ln _ _ _ _ h0
  refine zS1 (fun r he => B_X7_bank_r1_0 Ln _ _ _ _ _ _  h1 rfl he) ?_
  obtain ⟨h4, h5⟩ := h2
  by_cases h3 : (r1 : Int32) ≠ 0
  · refine zS1 (fun r he => B_X7_bank_r1_4_s1 Ln _ _ _ _ _ _ _  (fun _ => he) (fun n => absurd h3 n)) ?_
    have h4 := h4 h3
    obtain ⟨_, h6, r2, rfl, h7⟩ := T_X7_isLane Ln _ _ _ _ h4
    refine zS1 (fun r he => B_X7_bank_r1_13 Ln _ _ _ _ _ _  h6 rfl he) ?_
    obtain ⟨h9, h10⟩ := h7
    by_cases h8 : (r2 : Int32) ≠ 0
    · refine zS1 (fun r he => B_X7_bank_r1_17_s1 Ln _ _ _ _ _ _ _  (fun _ => he) (fun n => absurd h8 n)) ?_
      have h9 := h9 h8
      exact h9.elim
    · refine zS1 (fun r he => B_X7_bank_r1_17_s1 Ln _ _ _ _ _ _ _  (fun n => absurd n h8) (fun _ => he)) ?_
      have h10 := h10 h8
      obtain ⟨_, h11, r3, I4, rfl, h12⟩ := T_X7_faultless_r1 Ln _ _ _ _ h10
      refine zS1 (fun r he => B_X7_bank_r1_20 Ln _ _ _ _ _ _  h11 rfl he) ?_
      exact ⟨_, B_X7_bank_r1_26_s1 Ln _ _ _ _ _ _ _ , _, _, _, rfl, h12⟩
  · refine zS1 (fun r he => B_X7_bank_r1_4_s1 Ln _ _ _ _ _ _ _  (fun n => absurd n h3) (fun _ => he)) ?_
    have h5 := h5 h3
    obtain ⟨_, h13, r5, I6, rfl, h14⟩ := T_X7_faultless_r1 Ln _ _ _ _ h5
    refine zS1 (fun r he => B_X7_bank_r1_7 Ln _ _ _ _ _ _  h13 rfl he) ?_
    exact ⟨_, B_X7_bank_r1_12_s1 Ln _ _ _ _ _ _ _ , _, _, _, rfl, h14⟩
def W_X7_crossings_r1 (Ln : Nat) (I A : Nat → Nat → Int32) (v1 : Int32) (v2 : Int32) (v3 : Int32) (v4 : Int32) (Q : Int32 → (Nat → Nat → Int32) → Prop) : Prop := (v1 = 0 → W_X7_crossings_r1_c0 Ln I A v2 v3 v4 Q) ∧ (v1 = 1 → W_X7_crossings_r1_c1 Ln I A v2 v3 v4 Q) ∧ (v1 = 2 → W_X7_crossings_r1_c2 Ln I A v2 v3 v4 Q) ∧ (v1 = 3 → W_X7_crossings_r1_c3 Ln I A v2 v3 v4 Q) ∧ (¬ (v1 = 0) → ¬ (v1 = 1) → ¬ (v1 = 2) → ¬ (v1 = 3) → ((W_X7_isSheet Ln I A v1 (fun (r1 : Int32) => (((r1 : Int32) ≠ 0 → ((W_X7_isLane Ln I A v2 (fun (r2 : Int32) => (((r2 : Int32) ≠ 0 → ((W_X7_noBank_r1 Ln I A  (fun (r3 : Int32) => (((r3 : Int32) = 0 → False) ∧ (¬ ((r3 : Int32) = 0) → ((W_X7_faultless_r1 Ln I A (-3) (fun (r4 : Int32) (I5 : Nat → Nat → Int32) => (Q r4 I5)))))))))) ∧ (¬ ((r2 : Int32) ≠ 0) → ((W_X7_faultless_r1 Ln I A (-2) (fun (r6 : Int32) (I7 : Nat → Nat → Int32) => (Q r6 I7)))))))))) ∧ (¬ ((r1 : Int32) ≠ 0) → ((W_X7_faultless_r1 Ln I A (-1) (fun (r8 : Int32) (I9 : Nat → Nat → Int32) => (Q r8 I9))))))))))
set_option maxRecDepth 100000 in
theorem T_X7_crossings_r1 (Ln : Nat) (I A : Nat → Nat → Int32) (v1 : Int32) (v2 : Int32) (v3 : Int32) (v4 : Int32) (Q : Int32 → (Nat → Nat → Int32) → Prop) (h0 : W_X7_crossings_r1 Ln I A v1 v2 v3 v4 Q) : zSem 57 0 0 0 [some (.ref 1), some (.int v1), some (.int v2), some (.int v3), some (.int v4), none, none] [] (zGs Ln I A) (fun r => ∃ x I1, r = (some (.int x), zGs Ln I1 A) ∧ Q x I1) := by
  unfold W_X7_crossings_r1 at h0
  obtain ⟨c0, c1, c2, c3, hg⟩ := h0
  by_cases n0 : v1 = 0
  · have q := c0 n0
    subst n0
    exact T_X7_crossings_r1_c0 Ln I A v2 v3 v4 Q q
  by_cases n1 : v1 = 1
  · have q := c1 n1
    subst n1
    exact T_X7_crossings_r1_c1 Ln I A v2 v3 v4 Q q
  by_cases n2 : v1 = 2
  · have q := c2 n2
    subst n2
    exact T_X7_crossings_r1_c2 Ln I A v2 v3 v4 Q q
  by_cases n3 : v1 = 3
  · have q := c3 n3
    subst n3
    exact T_X7_crossings_r1_c3 Ln I A v2 v3 v4 Q q
  have h0 := hg n0 n1 n2 n3
  obtain ⟨_, h1, r1, rfl, h2⟩ := T_X7_isSheet Ln _ _ _ _ h0
  refine zS1 (fun r he => B_X7_crossings_r1_0 Ln _ _ _ _ _ _  h1 rfl he) ?_
  obtain ⟨h4, h5⟩ := h2
  by_cases h3 : (r1 : Int32) ≠ 0
  · refine zS1 (fun r he => B_X7_crossings_r1_4_s1 Ln _ _ _ _ _ _ _  (fun _ => he) (fun n => absurd h3 n)) ?_
    have h4 := h4 h3
    obtain ⟨_, h6, r2, rfl, h7⟩ := T_X7_isLane Ln _ _ _ _ h4
    refine zS1 (fun r he => B_X7_crossings_r1_13 Ln _ _ _ _ _ _  h6 rfl he) ?_
    obtain ⟨h9, h10⟩ := h7
    by_cases h8 : (r2 : Int32) ≠ 0
    · refine zS1 (fun r he => B_X7_crossings_r1_17_s1 Ln _ _ _ _ _ _ _  (fun _ => he) (fun n => absurd h8 n)) ?_
      have h9 := h9 h8
      obtain ⟨_, h11, r3, rfl, h12⟩ := T_X7_noBank_r1 Ln _ _ _ h9
      refine zS1 (fun r he => B_X7_crossings_r1_27 Ln _ _ _ _ _ _  h11 rfl he) ?_
      obtain ⟨h14, h15⟩ := h12
      by_cases h13 : (r3 : Int32) = 0
      · refine zS1 (fun r he => B_X7_crossings_r1_31_s1 Ln _ _ _ _ _ _ _  (fun _ => he) (fun n => absurd h13 n)) ?_
        have h14 := h14 h13
        exact h14.elim
      · refine zS1 (fun r he => B_X7_crossings_r1_31_s1 Ln _ _ _ _ _ _ _  (fun n => absurd n h13) (fun _ => he)) ?_
        have h15 := h15 h13
        obtain ⟨_, h16, r4, I5, rfl, h17⟩ := T_X7_faultless_r1 Ln _ _ _ _ h15
        refine zS1 (fun r he => B_X7_crossings_r1_34 Ln _ _ _ _ _ _  h16 rfl he) ?_
        exact ⟨_, B_X7_crossings_r1_40_s1 Ln _ _ _ _ _ _ _ , _, _, rfl, h17⟩
    · refine zS1 (fun r he => B_X7_crossings_r1_17_s1 Ln _ _ _ _ _ _ _  (fun n => absurd n h8) (fun _ => he)) ?_
      have h10 := h10 h8
      obtain ⟨_, h18, r6, I7, rfl, h19⟩ := T_X7_faultless_r1 Ln _ _ _ _ h10
      refine zS1 (fun r he => B_X7_crossings_r1_20 Ln _ _ _ _ _ _  h18 rfl he) ?_
      exact ⟨_, B_X7_crossings_r1_26_s1 Ln _ _ _ _ _ _ _ , _, _, rfl, h19⟩
  · refine zS1 (fun r he => B_X7_crossings_r1_4_s1 Ln _ _ _ _ _ _ _  (fun n => absurd n h3) (fun _ => he)) ?_
    have h5 := h5 h3
    obtain ⟨_, h20, r8, I9, rfl, h21⟩ := T_X7_faultless_r1 Ln _ _ _ _ h5
    refine zS1 (fun r he => B_X7_crossings_r1_7 Ln _ _ _ _ _ _  h20 rfl he) ?_
    exact ⟨_, B_X7_crossings_r1_12_s1 Ln _ _ _ _ _ _ _ , _, _, rfl, h21⟩
def J_X7_sheet_r1_26 (Ln : Nat) (I A : Nat → Nat → Int32) (v1 : Int32) (v2 : Int32) (v3 : Int32) (Q : Int32 → (Nat → Nat → Int32) → (Nat → Nat → Int32) → Prop) : Prop := ((W_X7_faultless_r1 Ln I A (-2) (fun (r3 : Int32) (I4 : Nat → Nat → Int32) => (Q r3 I4 A))))
set_option maxRecDepth 100000 in
theorem TJ_X7_sheet_r1_26 {Ln : Nat} {I A : Nat → Nat → Int32} {v1 : Int32} {v2 : Int32} {v3 : Int32} {Q : Int32 → (Nat → Nat → Int32) → (Nat → Nat → Int32) → Prop} (h0 : J_X7_sheet_r1_26 Ln I A v1 v2 v3   Q) : zSem 66 26 0 0 [some (.ref 1), some (.int v1), some (.int v2), some (.int v3)] [] (zGs Ln I A) (fun r => ∃ x I1 A1, r = (some (.int x), zGs Ln I1 A1) ∧ Q x I1 A1) := by
  unfold J_X7_sheet_r1_26 at h0
  obtain ⟨_, h1, r3, I4, rfl, h2⟩ := T_X7_faultless_r1 Ln _ _ _ _ h0
  refine zS1 (fun r he => B_X7_sheet_r1_26 Ln _ _ _ _ _  h1 rfl he) ?_
  exact ⟨_, B_X7_sheet_r1_32_s1 Ln _ _ _ _ _ _ , _, _, _, rfl, h2⟩
def W_X7_sheet_r1 (Ln : Nat) (I A : Nat → Nat → Int32) (v1 : Int32) (v2 : Int32) (v3 : Int32) (Q : Int32 → (Nat → Nat → Int32) → (Nat → Nat → Int32) → Prop) : Prop := (v1 = 0 → W_X7_sheet_r1_c0 Ln I A v2 v3 Q) ∧ (v1 = 1 → W_X7_sheet_r1_c1 Ln I A v2 v3 Q) ∧ (v1 = 2 → W_X7_sheet_r1_c2 Ln I A v2 v3 Q) ∧ (v1 = 3 → W_X7_sheet_r1_c3 Ln I A v2 v3 Q) ∧ (¬ (v1 = 0) → ¬ (v1 = 1) → ¬ (v1 = 2) → ¬ (v1 = 3) → ((W_X7_isSheet Ln I A v1 (fun (r1 : Int32) => (((r1 : Int32) ≠ 0 → ((W_X7_isLane Ln I A v2 (fun (r2 : Int32) => (((r2 : Int32) = 0 → (J_X7_sheet_r1_26 Ln I A v1 v2 v3  Q)) ∧ (¬ ((r2 : Int32) = 0) → (((v3 : Int32) ≤ 60 → (((0 : Int32) ≤ v3 → False) ∧ (¬ ((0 : Int32) ≤ v3) → ((W_X7_faulted_r1 Ln I A 4 (fun (r5 : Int32) (I6 : Nat → Nat → Int32) => (Q r5 I6 A))))))) ∧ (¬ ((v3 : Int32) ≤ 60) → (J_X7_sheet_r1_26 Ln I A v1 v2 v3  Q))))))))) ∧ (¬ ((r1 : Int32) ≠ 0) → ((W_X7_faultless_r1 Ln I A (-1) (fun (r7 : Int32) (I8 : Nat → Nat → Int32) => (Q r7 I8 A))))))))))
set_option maxRecDepth 100000 in
theorem T_X7_sheet_r1 (Ln : Nat) (I A : Nat → Nat → Int32) (v1 : Int32) (v2 : Int32) (v3 : Int32) (Q : Int32 → (Nat → Nat → Int32) → (Nat → Nat → Int32) → Prop) (h0 : W_X7_sheet_r1 Ln I A v1 v2 v3 Q) : zSem 66 0 0 0 [some (.ref 1), some (.int v1), some (.int v2), some (.int v3)] [] (zGs Ln I A) (fun r => ∃ x I1 A1, r = (some (.int x), zGs Ln I1 A1) ∧ Q x I1 A1) := by
  unfold W_X7_sheet_r1 at h0
  obtain ⟨c0, c1, c2, c3, hg⟩ := h0
  by_cases n0 : v1 = 0
  · have q := c0 n0
    subst n0
    exact T_X7_sheet_r1_c0 Ln I A v2 v3 Q q
  by_cases n1 : v1 = 1
  · have q := c1 n1
    subst n1
    exact T_X7_sheet_r1_c1 Ln I A v2 v3 Q q
  by_cases n2 : v1 = 2
  · have q := c2 n2
    subst n2
    exact T_X7_sheet_r1_c2 Ln I A v2 v3 Q q
  by_cases n3 : v1 = 3
  · have q := c3 n3
    subst n3
    exact T_X7_sheet_r1_c3 Ln I A v2 v3 Q q
  have h0 := hg n0 n1 n2 n3
  obtain ⟨_, h1, r1, rfl, h2⟩ := T_X7_isSheet Ln _ _ _ _ h0
  refine zS1 (fun r he => B_X7_sheet_r1_0 Ln _ _ _ _ _  h1 rfl he) ?_
  obtain ⟨h4, h5⟩ := h2
  by_cases h3 : (r1 : Int32) ≠ 0
  · refine zS1 (fun r he => B_X7_sheet_r1_4_s1 Ln _ _ _ _ _ _  (fun _ => he) (fun n => absurd h3 n)) ?_
    have h4 := h4 h3
    obtain ⟨_, h6, r2, rfl, h7⟩ := T_X7_isLane Ln _ _ _ _ h4
    refine zS1 (fun r he => B_X7_sheet_r1_13 Ln _ _ _ _ _  h6 rfl he) ?_
    obtain ⟨h9, h10⟩ := h7
    by_cases h8 : (r2 : Int32) = 0
    · refine zS1 (fun r he => B_X7_sheet_r1_17_s1 Ln _ _ _ _ _ _  (fun _ => he) (fun n => absurd h8 n)) ?_
      have h9 := h9 h8
      exact TJ_X7_sheet_r1_26  h9
    · refine zS1 (fun r he => B_X7_sheet_r1_17_s1 Ln _ _ _ _ _ _  (fun n => absurd n h8) (fun _ => he)) ?_
      have h10 := h10 h8
      obtain ⟨h12, h13⟩ := h10
      by_cases h11 : (v3 : Int32) ≤ 60
      · refine zS1 (fun r he => B_X7_sheet_r1_20 Ln _ _ _ _ _  (fun _ => he) (fun n => absurd h11 n)) ?_
        have h12 := h12 h11
        obtain ⟨h15, h16⟩ := h12
        by_cases h14 : (0 : Int32) ≤ v3
        · refine zS1 (fun r he => B_X7_sheet_r1_33 Ln _ _ _ _ _  (fun _ => he) (fun n => absurd h14 n)) ?_
          have h15 := h15 h14
          exact h15.elim
        · refine zS1 (fun r he => B_X7_sheet_r1_33 Ln _ _ _ _ _  (fun n => absurd n h14) (fun _ => he)) ?_
          have h16 := h16 h14
          obtain ⟨_, h17, r5, I6, rfl, h18⟩ := T_X7_faulted_r1 Ln _ _ _ _ h16
          refine zS1 (fun r he => B_X7_sheet_r1_37 Ln _ _ _ _ _  h17 rfl he) ?_
          exact ⟨_, B_X7_sheet_r1_42_s1 Ln _ _ _ _ _ _ , _, _, _, rfl, h18⟩
      · refine zS1 (fun r he => B_X7_sheet_r1_20 Ln _ _ _ _ _  (fun n => absurd n h11) (fun _ => he)) ?_
        have h13 := h13 h11
        exact TJ_X7_sheet_r1_26  h13
  · refine zS1 (fun r he => B_X7_sheet_r1_4_s1 Ln _ _ _ _ _ _  (fun n => absurd n h3) (fun _ => he)) ?_
    have h5 := h5 h3
    obtain ⟨_, h19, r7, I8, rfl, h20⟩ := T_X7_faultless_r1 Ln _ _ _ _ h5
    refine zS1 (fun r he => B_X7_sheet_r1_7 Ln _ _ _ _ _  h19 rfl he) ?_
    exact ⟨_, B_X7_sheet_r1_12_s1 Ln _ _ _ _ _ _ , _, _, _, rfl, h20⟩
def W_X7_lose_r1 (Ln : Nat) (I A : Nat → Nat → Int32) (v1 : Int32) (Q : Int32 → (Nat → Nat → Int32) → Prop) : Prop := (v1 = 0 → W_X7_lose_r1_c0 Ln I A  Q) ∧ (v1 = 1 → W_X7_lose_r1_c1 Ln I A  Q) ∧ (v1 = 2 → W_X7_lose_r1_c2 Ln I A  Q) ∧ (v1 = 3 → W_X7_lose_r1_c3 Ln I A  Q) ∧ (¬ (v1 = 0) → ¬ (v1 = 1) → ¬ (v1 = 2) → ¬ (v1 = 3) → ((W_X7_isSheet Ln I A v1 (fun (r1 : Int32) => (((r1 : Int32) ≠ 0 → False) ∧ (¬ ((r1 : Int32) ≠ 0) → (Q (-1) I)))))))
set_option maxRecDepth 100000 in
theorem T_X7_lose_r1 (Ln : Nat) (I A : Nat → Nat → Int32) (v1 : Int32) (Q : Int32 → (Nat → Nat → Int32) → Prop) (h0 : W_X7_lose_r1 Ln I A v1 Q) : zSem 67 0 0 0 [some (.ref 1), some (.int v1), none] [] (zGs Ln I A) (fun r => ∃ x I1, r = (some (.int x), zGs Ln I1 A) ∧ Q x I1) := by
  unfold W_X7_lose_r1 at h0
  obtain ⟨c0, c1, c2, c3, hg⟩ := h0
  by_cases n0 : v1 = 0
  · have q := c0 n0
    subst n0
    exact T_X7_lose_r1_c0 Ln I A  Q q
  by_cases n1 : v1 = 1
  · have q := c1 n1
    subst n1
    exact T_X7_lose_r1_c1 Ln I A  Q q
  by_cases n2 : v1 = 2
  · have q := c2 n2
    subst n2
    exact T_X7_lose_r1_c2 Ln I A  Q q
  by_cases n3 : v1 = 3
  · have q := c3 n3
    subst n3
    exact T_X7_lose_r1_c3 Ln I A  Q q
  have h0 := hg n0 n1 n2 n3
  obtain ⟨_, h1, r1, rfl, h2⟩ := T_X7_isSheet Ln _ _ _ _ h0
  refine zS1 (fun r he => B_X7_lose_r1_0 Ln _ _ _  h1 rfl he) ?_
  obtain ⟨h4, h5⟩ := h2
  by_cases h3 : (r1 : Int32) ≠ 0
  · refine zS1 (fun r he => B_X7_lose_r1_4_s1 Ln _ _ _ _  (fun _ => he) (fun n => absurd h3 n)) ?_
    have h4 := h4 h3
    exact h4.elim
  · refine zS1 (fun r he => B_X7_lose_r1_4_s1 Ln _ _ _ _  (fun n => absurd n h3) (fun _ => he)) ?_
    have h5 := h5 h3
    exact ⟨_, B_X7_lose_r1_7 Ln _ _ _ , _, _, rfl, h5⟩
def W_X7_put_r1 (Ln : Nat) (I A : Nat → Nat → Int32) (v1 : Int32) (v2 : Int32) (v3 : Int32) (Q : Int32 → (Nat → Nat → Int32) → (Nat → Nat → Int32) → Prop) : Prop := (v1 = 0 → W_X7_put_r1_c0 Ln I A v2 v3 Q) ∧ (v1 = 1 → W_X7_put_r1_c1 Ln I A v2 v3 Q) ∧ (v1 = 2 → W_X7_put_r1_c2 Ln I A v2 v3 Q) ∧ (v1 = 3 → W_X7_put_r1_c3 Ln I A v2 v3 Q) ∧ (¬ (v1 = 0) → ¬ (v1 = 1) → ¬ (v1 = 2) → ¬ (v1 = 3) → ((W_X7_isSheet Ln I A v1 (fun (r1 : Int32) => (((r1 : Int32) ≠ 0 → False) ∧ (¬ ((r1 : Int32) ≠ 0) → ((W_X7_faultless_r1 Ln I A (-1) (fun (r2 : Int32) (I3 : Nat → Nat → Int32) => (Q r2 I3 A))))))))))
set_option maxRecDepth 100000 in
theorem T_X7_put_r1 (Ln : Nat) (I A : Nat → Nat → Int32) (v1 : Int32) (v2 : Int32) (v3 : Int32) (Q : Int32 → (Nat → Nat → Int32) → (Nat → Nat → Int32) → Prop) (h0 : W_X7_put_r1 Ln I A v1 v2 v3 Q) : zSem 68 0 0 0 [some (.ref 1), some (.int v1), some (.int v2), some (.int v3), none] [] (zGs Ln I A) (fun r => ∃ x I1 A1, r = (some (.int x), zGs Ln I1 A1) ∧ Q x I1 A1) := by
  unfold W_X7_put_r1 at h0
  obtain ⟨c0, c1, c2, c3, hg⟩ := h0
  by_cases n0 : v1 = 0
  · have q := c0 n0
    subst n0
    exact T_X7_put_r1_c0 Ln I A v2 v3 Q q
  by_cases n1 : v1 = 1
  · have q := c1 n1
    subst n1
    exact T_X7_put_r1_c1 Ln I A v2 v3 Q q
  by_cases n2 : v1 = 2
  · have q := c2 n2
    subst n2
    exact T_X7_put_r1_c2 Ln I A v2 v3 Q q
  by_cases n3 : v1 = 3
  · have q := c3 n3
    subst n3
    exact T_X7_put_r1_c3 Ln I A v2 v3 Q q
  have h0 := hg n0 n1 n2 n3
  obtain ⟨_, h1, r1, rfl, h2⟩ := T_X7_isSheet Ln _ _ _ _ h0
  refine zS1 (fun r he => B_X7_put_r1_0 Ln _ _ _ _ _  h1 rfl he) ?_
  obtain ⟨h4, h5⟩ := h2
  by_cases h3 : (r1 : Int32) ≠ 0
  · refine zS1 (fun r he => B_X7_put_r1_4_s1 Ln _ _ _ _ _ _  (fun _ => he) (fun n => absurd h3 n)) ?_
    have h4 := h4 h3
    exact h4.elim
  · refine zS1 (fun r he => B_X7_put_r1_4_s1 Ln _ _ _ _ _ _  (fun n => absurd n h3) (fun _ => he)) ?_
    have h5 := h5 h3
    obtain ⟨_, h6, r2, I3, rfl, h7⟩ := T_X7_faultless_r1 Ln _ _ _ _ h5
    refine zS1 (fun r he => B_X7_put_r1_7 Ln _ _ _ _ _  h6 rfl he) ?_
    exact ⟨_, B_X7_put_r1_12_s1 Ln _ _ _ _ _ _ , _, _, _, rfl, h7⟩
def W_X7_cell_r1 (Ln : Nat) (I A : Nat → Nat → Int32) (v1 : Int32) (v2 : Int32) (v3 : Int32) (Q : Int64 → (Nat → Nat → Int32) → Prop) : Prop := (v1 = 0 → W_X7_cell_r1_c0 Ln I A v2 v3 Q) ∧ (v1 = 1 → W_X7_cell_r1_c1 Ln I A v2 v3 Q) ∧ (v1 = 2 → W_X7_cell_r1_c2 Ln I A v2 v3 Q) ∧ (v1 = 3 → W_X7_cell_r1_c3 Ln I A v2 v3 Q) ∧ (¬ (v1 = 0) → ¬ (v1 = 1) → ¬ (v1 = 2) → ¬ (v1 = 3) → ((∀ I1 : Nat → Nat → Int32, I1 = zp I 1 11 0 → (W_X7_isSheet Ln I1 A v1 (fun (r2 : Int32) => (((r2 : Int32) = 0 → (Q (-9223372036854775808) I1)) ∧ (¬ ((r2 : Int32) = 0) → ((W_X7_isLane Ln I1 A v3 (fun (r3 : Int32) => (((r3 : Int32) ≠ 0 → False) ∧ (¬ ((r3 : Int32) ≠ 0) → (Q (-9223372036854775808) I1)))))))))))))
set_option maxRecDepth 100000 in
theorem T_X7_cell_r1 (Ln : Nat) (I A : Nat → Nat → Int32) (v1 : Int32) (v2 : Int32) (v3 : Int32) (Q : Int64 → (Nat → Nat → Int32) → Prop) (h0 : W_X7_cell_r1 Ln I A v1 v2 v3 Q) : zSem 69 0 0 0 [some (.ref 1), some (.int v1), some (.int v2), some (.int v3)] [] (zGs Ln I A) (fun r => ∃ x I1, r = (some (.long x), zGs Ln I1 A) ∧ Q x I1) := by
  unfold W_X7_cell_r1 at h0
  obtain ⟨c0, c1, c2, c3, hg⟩ := h0
  by_cases n0 : v1 = 0
  · have q := c0 n0
    subst n0
    exact T_X7_cell_r1_c0 Ln I A v2 v3 Q q
  by_cases n1 : v1 = 1
  · have q := c1 n1
    subst n1
    exact T_X7_cell_r1_c1 Ln I A v2 v3 Q q
  by_cases n2 : v1 = 2
  · have q := c2 n2
    subst n2
    exact T_X7_cell_r1_c2 Ln I A v2 v3 Q q
  by_cases n3 : v1 = 3
  · have q := c3 n3
    subst n3
    exact T_X7_cell_r1_c3 Ln I A v2 v3 Q q
  have h0 := hg n0 n1 n2 n3
  have h1 := h0 _ rfl
  obtain ⟨_, h2, r2, rfl, h3⟩ := T_X7_isSheet Ln _ _ _ _ h1
  refine zS1 (fun r he => B_X7_cell_r1_0 Ln _ _ _ _ _  h2 rfl he) ?_
  obtain ⟨h5, h6⟩ := h3
  by_cases h4 : (r2 : Int32) = 0
  · refine zS1 (fun r he => B_X7_cell_r1_9_s1 Ln _ _ _ _ _ _  (fun _ => he) (fun n => absurd h4 n)) ?_
    have h5 := h5 h4
    exact ⟨_, B_X7_cell_r1_19 Ln _ _ _ _ _ , _, _, rfl, h5⟩
  · refine zS1 (fun r he => B_X7_cell_r1_9_s1 Ln _ _ _ _ _ _  (fun n => absurd n h4) (fun _ => he)) ?_
    have h6 := h6 h4
    obtain ⟨_, h7, r3, rfl, h8⟩ := T_X7_isLane Ln _ _ _ _ h6
    refine zS1 (fun r he => B_X7_cell_r1_12 Ln _ _ _ _ _  h7 rfl he) ?_
    obtain ⟨h10, h11⟩ := h8
    by_cases h9 : (r3 : Int32) ≠ 0
    · refine zS1 (fun r he => B_X7_cell_r1_16_s1 Ln _ _ _ _ _ _  (fun _ => he) (fun n => absurd h9 n)) ?_
      have h10 := h10 h9
      exact h10.elim
    · refine zS1 (fun r he => B_X7_cell_r1_16_s1 Ln _ _ _ _ _ _  (fun n => absurd n h9) (fun _ => he)) ?_
      have h11 := h11 h9
      exact ⟨_, B_X7_cell_r1_19 Ln _ _ _ _ _ , _, _, rfl, h11⟩
