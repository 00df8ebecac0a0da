/-! what a method asks, by program (wip/whole/gen_wp.py) -/
def W_X7_put_r1_c3 (Ln : Nat) (I A : Nat → Nat → Int32) (v2 : Int32) (v3 : Int32) (Q : Int32 → (Nat → Nat → Int32) → (Nat → Nat → Int32) → Prop) : Prop := ((W_X7_isSheet Ln I A 3 (fun (r1 : Int32) => (((r1 : Int32) ≠ 0 → ((W_X4_faultOfCells_r9 Ln I A (I 9 2) v2 1 (fun (r2 : Int32) => (((r2 : Int32) = 0 → ((W_X4_write_r9 Ln I A v2 v3 (fun (A3 : Nat → Nat → Int32) => ((W_X7_faultless_r1 Ln I A3 1 (fun (r4 : Int32) (I5 : Nat → Nat → Int32) => (Q r4 I5 A3)))))))) ∧ (¬ ((r2 : Int32) = 0) → ((W_X7_faulted_r1 Ln I A r2 (fun (r6 : Int32) (I7 : Nat → Nat → Int32) => (Q r6 I7 A)))))))))) ∧ (¬ ((r1 : Int32) ≠ 0) → ((W_X7_faultless_r1 Ln I A (-1) (fun (r8 : Int32) (I9 : Nat → Nat → Int32) => (Q r8 I9 A)))))))))
set_option maxRecDepth 100000 in
theorem T_X7_put_r1_c3 (Ln : Nat) (I A : Nat → Nat → Int32) (v2 : Int32) (v3 : Int32) (Q : Int32 → (Nat → Nat → Int32) → (Nat → Nat → Int32) → Prop) (h0 : W_X7_put_r1_c3 Ln I A v2 v3 Q) : zSem 68 0 0 0 [some (.ref 1), some (.int 3), some (.int v2), some (.int v3), none] [] (zGs Ln I A) (fun r => ∃ x I1 A1, r = (some (.int x), zGs Ln I1 A1) ∧ Q x I1 A1) := by
  unfold W_X7_put_r1_c3 at h0
  obtain ⟨_, h1, r1, rfl, h2⟩ := T_X7_isSheet Ln _ _ _ _ h0
  refine zS1 (fun r he => B_X7_put_r1_c3_0 Ln _ _ _ _  h1 rfl he) ?_
  obtain ⟨h4, h5⟩ := h2
  by_cases h3 : (r1 : Int32) ≠ 0
  · refine zS1 (fun r he => B_X7_put_r1_c3_4_s1 Ln _ _ _ _ _  (fun _ => he) (fun n => absurd h3 n)) ?_
    have h4 := h4 h3
    obtain ⟨_, h6, r2, rfl, h7⟩ := T_X4_faultOfCells_r9 Ln _ _ _ _ _ _ h4
    refine zS1 (fun r he => B_X7_put_r1_c3_13 Ln _ _ _ _  h6 rfl he) ?_
    obtain ⟨h9, h10⟩ := h7
    by_cases h8 : (r2 : Int32) = 0
    · refine zS1 (fun r he => B_X7_put_r1_c3_33_s1 Ln _ _ _ _ _  (fun _ => he) (fun n => absurd h8 n)) ?_
      have h9 := h9 h8
      obtain ⟨_, h11, A3, rfl, h12⟩ := T_X4_write_r9 Ln _ _ _ _ _ h9
      refine zS1 (fun r he => B_X7_put_r1_c3_47 Ln _ _ _ _ _  h11 rfl he) ?_
      obtain ⟨_, h13, r4, I5, rfl, h14⟩ := T_X7_faultless_r1 Ln _ _ _ _ h12
      refine zS1 (fun r he => B_X7_put_r1_c3_58 Ln _ _ _ _ _  h13 rfl he) ?_
      exact ⟨_, B_X7_put_r1_c3_63_s1 Ln _ _ _ _ _ _ , _, _, _, rfl, h14⟩
    · refine zS1 (fun r he => B_X7_put_r1_c3_33_s1 Ln _ _ _ _ _  (fun n => absurd n h8) (fun _ => he)) ?_
      have h10 := h10 h8
      obtain ⟨_, h15, r6, I7, rfl, h16⟩ := T_X7_faulted_r1 Ln _ _ _ _ h10
      refine zS1 (fun r he => B_X7_put_r1_c3_40 Ln _ _ _ _ _  h15 rfl he) ?_
      exact ⟨_, B_X7_put_r1_c3_46_s1 Ln _ _ _ _ _ _ , _, _, _, rfl, h16⟩
  · refine zS1 (fun r he => B_X7_put_r1_c3_4_s1 Ln _ _ _ _ _  (fun n => absurd n h3) (fun _ => he)) ?_
    have h5 := h5 h3
    obtain ⟨_, h17, r8, I9, rfl, h18⟩ := T_X7_faultless_r1 Ln _ _ _ _ h5
    refine zS1 (fun r he => B_X7_put_r1_c3_7 Ln _ _ _ _  h17 rfl he) ?_
    exact ⟨_, B_X7_put_r1_c3_12_s1 Ln _ _ _ _ _ , _, _, _, rfl, h18⟩
def W_X7_cell_r1_c0 (Ln : Nat) (I A : Nat → Nat → Int32) (v2 : Int32) (v3 : Int32) (Q : Int64 → (Nat → Nat → Int32) → Prop) : Prop := ((∀ I1 : Nat → Nat → Int32, I1 = zp I 1 11 0 → (W_X7_isSheet Ln I1 A 0 (fun (r2 : Int32) => (((r2 : Int32) = 0 → (Q (-9223372036854775808) I1)) ∧ (¬ ((r2 : Int32) = 0) → ((W_X7_isLane Ln I1 A v3 (fun (r3 : Int32) => (((r3 : Int32) ≠ 0 → ((W_X4_faultOfCells_r3 Ln I1 A v3 v2 1 (fun (r4 : Int32) => (((r4 : Int32) ≠ 0 → (∀ I5 : Nat → Nat → Int32, I5 = zp I1 1 11 r4 → ((Q (-9223372036854775808) I5)))) ∧ (¬ ((r4 : Int32) ≠ 0) → (∀ I6 : Nat → Nat → Int32, I6 = zp I1 1 11 r4 → ((zin v2 60 = true) ∧ (Q (Int32.toInt64 (A 4 (v2).toNatClampNeg)) I6))))))))) ∧ (¬ ((r3 : Int32) ≠ 0) → (Q (-9223372036854775808) I1))))))))))))
set_option maxRecDepth 100000 in
theorem T_X7_cell_r1_c0 (Ln : Nat) (I A : Nat → Nat → Int32) (v2 : Int32) (v3 : Int32) (Q : Int64 → (Nat → Nat → Int32) → Prop) (h0 : W_X7_cell_r1_c0 Ln I A v2 v3 Q) : zSem 69 0 0 0 [some (.ref 1), some (.int 0), some (.int v2), some (.int v3)] [] (zGs Ln I A) (fun r => ∃ x I1, r = (some (.long x), zGs Ln I1 A) ∧ Q x I1) := by
  unfold W_X7_cell_r1_c0 at h0
  have h1 := h0 _ rfl
  obtain ⟨_, h2, r2, rfl, h3⟩ := T_X7_isSheet Ln _ _ _ _ h1
  refine zS1 (fun r he => B_X7_cell_r1_c0_0 Ln _ _ _ _  h2 rfl he) ?_
  obtain ⟨h5, h6⟩ := h3
  by_cases h4 : (r2 : Int32) = 0
  · refine zS1 (fun r he => B_X7_cell_r1_c0_9_s1 Ln _ _ _ _ _  (fun _ => he) (fun n => absurd h4 n)) ?_
    have h5 := h5 h4
    exact ⟨_, B_X7_cell_r1_c0_19 Ln _ _ _ _ , _, _, rfl, h5⟩
  · refine zS1 (fun r he => B_X7_cell_r1_c0_9_s1 Ln _ _ _ _ _  (fun n => absurd n h4) (fun _ => he)) ?_
    have h6 := h6 h4
    obtain ⟨_, h7, r3, rfl, h8⟩ := T_X7_isLane Ln _ _ _ _ h6
    refine zS1 (fun r he => B_X7_cell_r1_c0_12 Ln _ _ _ _  h7 rfl he) ?_
    obtain ⟨h10, h11⟩ := h8
    by_cases h9 : (r3 : Int32) ≠ 0
    · refine zS1 (fun r he => B_X7_cell_r1_c0_16_s1 Ln _ _ _ _ _  (fun _ => he) (fun n => absurd h9 n)) ?_
      have h10 := h10 h9
      obtain ⟨_, h12, r4, rfl, h13⟩ := T_X4_faultOfCells_r3 Ln _ _ _ _ _ _ h10
      refine zS1 (fun r he => B_X7_cell_r1_c0_23 Ln _ _ _ _  h12 rfl he) ?_
      obtain ⟨h15, h16⟩ := h13
      by_cases h14 : (r4 : Int32) ≠ 0
      · refine zS1 (fun r he => B_X7_cell_r1_c0_36_s2 Ln _ _ _ _ _  (fun _ => he) (fun n => absurd h14 n)) ?_
        have h15 := h15 h14
        have h17 := h15 _ rfl
        refine zS1 (fun r he => B_X7_cell_r1_c0_61 Ln _ _ _ _  he) ?_
        exact ⟨_, B_X7_cell_r1_c0_64_s1 Ln _ _ _ _ _ , _, _, rfl, h17⟩
      · refine zS1 (fun r he => B_X7_cell_r1_c0_36_s2 Ln _ _ _ _ _  (fun n => absurd n h14) (fun _ => he)) ?_
        have h16 := h16 h14
        have h18 := h16 _ rfl
        obtain ⟨h19, h20⟩ := h18
        refine zS1 (fun r he => B_X7_cell_r1_c0_46 Ln _ _ _ _ h19 he) ?_
        exact ⟨_, B_X7_cell_r1_c0_64_s1 Ln _ _ _ _ _ , _, _, rfl, h20⟩
    · refine zS1 (fun r he => B_X7_cell_r1_c0_16_s1 Ln _ _ _ _ _  (fun n => absurd n h9) (fun _ => he)) ?_
      have h11 := h11 h9
      exact ⟨_, B_X7_cell_r1_c0_19 Ln _ _ _ _ , _, _, rfl, h11⟩
def W_X7_cell_r1_c1 (Ln : Nat) (I A : Nat → Nat → Int32) (v2 : Int32) (v3 : Int32) (Q : Int64 → (Nat → Nat → Int32) → Prop) : Prop := ((∀ I1 : Nat → Nat → Int32, I1 = zp I 1 11 0 → (W_X7_isSheet Ln I1 A 1 (fun (r2 : Int32) => (((r2 : Int32) = 0 → (Q (-9223372036854775808) I1)) ∧ (¬ ((r2 : Int32) = 0) → ((W_X7_isLane Ln I1 A v3 (fun (r3 : Int32) => (((r3 : Int32) ≠ 0 → ((W_X4_faultOfCells_r5 Ln I1 A v3 v2 1 (fun (r4 : Int32) => (((r4 : Int32) ≠ 0 → (∀ I5 : Nat → Nat → Int32, I5 = zp I1 1 11 r4 → ((Q (-9223372036854775808) I5)))) ∧ (¬ ((r4 : Int32) ≠ 0) → (∀ I6 : Nat → Nat → Int32, I6 = zp I1 1 11 r4 → ((zin v2 60 = true) ∧ (Q (Int32.toInt64 (A 6 (v2).toNatClampNeg)) I6))))))))) ∧ (¬ ((r3 : Int32) ≠ 0) → (Q (-9223372036854775808) I1))))))))))))
set_option maxRecDepth 100000 in
theorem T_X7_cell_r1_c1 (Ln : Nat) (I A : Nat → Nat → Int32) (v2 : Int32) (v3 : Int32) (Q : Int64 → (Nat → Nat → Int32) → Prop) (h0 : W_X7_cell_r1_c1 Ln I A v2 v3 Q) : zSem 69 0 0 0 [some (.ref 1), some (.int 1), some (.int v2), some (.int v3)] [] (zGs Ln I A) (fun r => ∃ x I1, r = (some (.long x), zGs Ln I1 A) ∧ Q x I1) := by
  unfold W_X7_cell_r1_c1 at h0
  have h1 := h0 _ rfl
  obtain ⟨_, h2, r2, rfl, h3⟩ := T_X7_isSheet Ln _ _ _ _ h1
  refine zS1 (fun r he => B_X7_cell_r1_c1_0 Ln _ _ _ _  h2 rfl he) ?_
  obtain ⟨h5, h6⟩ := h3
  by_cases h4 : (r2 : Int32) = 0
  · refine zS1 (fun r he => B_X7_cell_r1_c1_9_s1 Ln _ _ _ _ _  (fun _ => he) (fun n => absurd h4 n)) ?_
    have h5 := h5 h4
    exact ⟨_, B_X7_cell_r1_c1_19 Ln _ _ _ _ , _, _, rfl, h5⟩
  · refine zS1 (fun r he => B_X7_cell_r1_c1_9_s1 Ln _ _ _ _ _  (fun n => absurd n h4) (fun _ => he)) ?_
    have h6 := h6 h4
    obtain ⟨_, h7, r3, rfl, h8⟩ := T_X7_isLane Ln _ _ _ _ h6
    refine zS1 (fun r he => B_X7_cell_r1_c1_12 Ln _ _ _ _  h7 rfl he) ?_
    obtain ⟨h10, h11⟩ := h8
    by_cases h9 : (r3 : Int32) ≠ 0
    · refine zS1 (fun r he => B_X7_cell_r1_c1_16_s1 Ln _ _ _ _ _  (fun _ => he) (fun n => absurd h9 n)) ?_
      have h10 := h10 h9
      obtain ⟨_, h12, r4, rfl, h13⟩ := T_X4_faultOfCells_r5 Ln _ _ _ _ _ _ h10
      refine zS1 (fun r he => B_X7_cell_r1_c1_23 Ln _ _ _ _  h12 rfl he) ?_
      obtain ⟨h15, h16⟩ := h13
      by_cases h14 : (r4 : Int32) ≠ 0
      · refine zS1 (fun r he => B_X7_cell_r1_c1_36_s2 Ln _ _ _ _ _  (fun _ => he) (fun n => absurd h14 n)) ?_
        have h15 := h15 h14
        have h17 := h15 _ rfl
        refine zS1 (fun r he => B_X7_cell_r1_c1_61 Ln _ _ _ _  he) ?_
        exact ⟨_, B_X7_cell_r1_c1_64_s1 Ln _ _ _ _ _ , _, _, rfl, h17⟩
      · refine zS1 (fun r he => B_X7_cell_r1_c1_36_s2 Ln _ _ _ _ _  (fun n => absurd n h14) (fun _ => he)) ?_
        have h16 := h16 h14
        have h18 := h16 _ rfl
        obtain ⟨h19, h20⟩ := h18
        refine zS1 (fun r he => B_X7_cell_r1_c1_46 Ln _ _ _ _ h19 he) ?_
        exact ⟨_, B_X7_cell_r1_c1_64_s1 Ln _ _ _ _ _ , _, _, rfl, h20⟩
    · refine zS1 (fun r he => B_X7_cell_r1_c1_16_s1 Ln _ _ _ _ _  (fun n => absurd n h9) (fun _ => he)) ?_
      have h11 := h11 h9
      exact ⟨_, B_X7_cell_r1_c1_19 Ln _ _ _ _ , _, _, rfl, h11⟩
def W_X7_cell_r1_c2 (Ln : Nat) (I A : Nat → Nat → Int32) (v2 : Int32) (v3 : Int32) (Q : Int64 → (Nat → Nat → Int32) → Prop) : Prop := ((∀ I1 : Nat → Nat → Int32, I1 = zp I 1 11 0 → (W_X7_isSheet Ln I1 A 2 (fun (r2 : Int32) => (((r2 : Int32) = 0 → (Q (-9223372036854775808) I1)) ∧ (¬ ((r2 : Int32) = 0) → ((W_X7_isLane Ln I1 A v3 (fun (r3 : Int32) => (((r3 : Int32) ≠ 0 → ((W_X4_faultOfCells_r7 Ln I1 A v3 v2 1 (fun (r4 : Int32) => (((r4 : Int32) ≠ 0 → (∀ I5 : Nat → Nat → Int32, I5 = zp I1 1 11 r4 → ((Q (-9223372036854775808) I5)))) ∧ (¬ ((r4 : Int32) ≠ 0) → (∀ I6 : Nat → Nat → Int32, I6 = zp I1 1 11 r4 → ((zin v2 60 = true) ∧ (Q (Int32.toInt64 (A 8 (v2).toNatClampNeg)) I6))))))))) ∧ (¬ ((r3 : Int32) ≠ 0) → (Q (-9223372036854775808) I1))))))))))))
set_option maxRecDepth 100000 in
theorem T_X7_cell_r1_c2 (Ln : Nat) (I A : Nat → Nat → Int32) (v2 : Int32) (v3 : Int32) (Q : Int64 → (Nat → Nat → Int32) → Prop) (h0 : W_X7_cell_r1_c2 Ln I A v2 v3 Q) : zSem 69 0 0 0 [some (.ref 1), some (.int 2), some (.int v2), some (.int v3)] [] (zGs Ln I A) (fun r => ∃ x I1, r = (some (.long x), zGs Ln I1 A) ∧ Q x I1) := by
  unfold W_X7_cell_r1_c2 at h0
  have h1 := h0 _ rfl
  obtain ⟨_, h2, r2, rfl, h3⟩ := T_X7_isSheet Ln _ _ _ _ h1
  refine zS1 (fun r he => B_X7_cell_r1_c2_0 Ln _ _ _ _  h2 rfl he) ?_
  obtain ⟨h5, h6⟩ := h3
  by_cases h4 : (r2 : Int32) = 0
  · refine zS1 (fun r he => B_X7_cell_r1_c2_9_s1 Ln _ _ _ _ _  (fun _ => he) (fun n => absurd h4 n)) ?_
    have h5 := h5 h4
    exact ⟨_, B_X7_cell_r1_c2_19 Ln _ _ _ _ , _, _, rfl, h5⟩
  · refine zS1 (fun r he => B_X7_cell_r1_c2_9_s1 Ln _ _ _ _ _  (fun n => absurd n h4) (fun _ => he)) ?_
    have h6 := h6 h4
    obtain ⟨_, h7, r3, rfl, h8⟩ := T_X7_isLane Ln _ _ _ _ h6
    refine zS1 (fun r he => B_X7_cell_r1_c2_12 Ln _ _ _ _  h7 rfl he) ?_
    obtain ⟨h10, h11⟩ := h8
    by_cases h9 : (r3 : Int32) ≠ 0
    · refine zS1 (fun r he => B_X7_cell_r1_c2_16_s1 Ln _ _ _ _ _  (fun _ => he) (fun n => absurd h9 n)) ?_
      have h10 := h10 h9
      obtain ⟨_, h12, r4, rfl, h13⟩ := T_X4_faultOfCells_r7 Ln _ _ _ _ _ _ h10
      refine zS1 (fun r he => B_X7_cell_r1_c2_23 Ln _ _ _ _  h12 rfl he) ?_
      obtain ⟨h15, h16⟩ := h13
      by_cases h14 : (r4 : Int32) ≠ 0
      · refine zS1 (fun r he => B_X7_cell_r1_c2_36_s2 Ln _ _ _ _ _  (fun _ => he) (fun n => absurd h14 n)) ?_
        have h15 := h15 h14
        have h17 := h15 _ rfl
        refine zS1 (fun r he => B_X7_cell_r1_c2_61 Ln _ _ _ _  he) ?_
        exact ⟨_, B_X7_cell_r1_c2_64_s1 Ln _ _ _ _ _ , _, _, rfl, h17⟩
      · refine zS1 (fun r he => B_X7_cell_r1_c2_36_s2 Ln _ _ _ _ _  (fun n => absurd n h14) (fun _ => he)) ?_
        have h16 := h16 h14
        have h18 := h16 _ rfl
        obtain ⟨h19, h20⟩ := h18
        refine zS1 (fun r he => B_X7_cell_r1_c2_46 Ln _ _ _ _ h19 he) ?_
        exact ⟨_, B_X7_cell_r1_c2_64_s1 Ln _ _ _ _ _ , _, _, rfl, h20⟩
    · refine zS1 (fun r he => B_X7_cell_r1_c2_16_s1 Ln _ _ _ _ _  (fun n => absurd n h9) (fun _ => he)) ?_
      have h11 := h11 h9
      exact ⟨_, B_X7_cell_r1_c2_19 Ln _ _ _ _ , _, _, rfl, h11⟩
def W_X7_cell_r1_c3 (Ln : Nat) (I A : Nat → Nat → Int32) (v2 : Int32) (v3 : Int32) (Q : Int64 → (Nat → Nat → Int32) → Prop) : Prop := ((∀ I1 : Nat → Nat → Int32, I1 = zp I 1 11 0 → (W_X7_isSheet Ln I1 A 3 (fun (r2 : Int32) => (((r2 : Int32) = 0 → (Q (-9223372036854775808) I1)) ∧ (¬ ((r2 : Int32) = 0) → ((W_X7_isLane Ln I1 A v3 (fun (r3 : Int32) => (((r3 : Int32) ≠ 0 → ((W_X4_faultOfCells_r9 Ln I1 A v3 v2 1 (fun (r4 : Int32) => (((r4 : Int32) ≠ 0 → (∀ I5 : Nat → Nat → Int32, I5 = zp I1 1 11 r4 → ((Q (-9223372036854775808) I5)))) ∧ (¬ ((r4 : Int32) ≠ 0) → (∀ I6 : Nat → Nat → Int32, I6 = zp I1 1 11 r4 → ((zin v2 60 = true) ∧ (Q (Int32.toInt64 (A 10 (v2).toNatClampNeg)) I6))))))))) ∧ (¬ ((r3 : Int32) ≠ 0) → (Q (-9223372036854775808) I1))))))))))))
set_option maxRecDepth 100000 in
theorem T_X7_cell_r1_c3 (Ln : Nat) (I A : Nat → Nat → Int32) (v2 : Int32) (v3 : Int32) (Q : Int64 → (Nat → Nat → Int32) → Prop) (h0 : W_X7_cell_r1_c3 Ln I A v2 v3 Q) : zSem 69 0 0 0 [some (.ref 1), some (.int 3), some (.int v2), some (.int v3)] [] (zGs Ln I A) (fun r => ∃ x I1, r = (some (.long x), zGs Ln I1 A) ∧ Q x I1) := by
  unfold W_X7_cell_r1_c3 at h0
  have h1 := h0 _ rfl
  obtain ⟨_, h2, r2, rfl, h3⟩ := T_X7_isSheet Ln _ _ _ _ h1
  refine zS1 (fun r he => B_X7_cell_r1_c3_0 Ln _ _ _ _  h2 rfl he) ?_
  obtain ⟨h5, h6⟩ := h3
  by_cases h4 : (r2 : Int32) = 0
  · refine zS1 (fun r he => B_X7_cell_r1_c3_9_s1 Ln _ _ _ _ _  (fun _ => he) (fun n => absurd h4 n)) ?_
    have h5 := h5 h4
    exact ⟨_, B_X7_cell_r1_c3_19 Ln _ _ _ _ , _, _, rfl, h5⟩
  · refine zS1 (fun r he => B_X7_cell_r1_c3_9_s1 Ln _ _ _ _ _  (fun n => absurd n h4) (fun _ => he)) ?_
    have h6 := h6 h4
    obtain ⟨_, h7, r3, rfl, h8⟩ := T_X7_isLane Ln _ _ _ _ h6
    refine zS1 (fun r he => B_X7_cell_r1_c3_12 Ln _ _ _ _  h7 rfl he) ?_
    obtain ⟨h10, h11⟩ := h8
    by_cases h9 : (r3 : Int32) ≠ 0
    · refine zS1 (fun r he => B_X7_cell_r1_c3_16_s1 Ln _ _ _ _ _  (fun _ => he) (fun n => absurd h9 n)) ?_
      have h10 := h10 h9
      obtain ⟨_, h12, r4, rfl, h13⟩ := T_X4_faultOfCells_r9 Ln _ _ _ _ _ _ h10
      refine zS1 (fun r he => B_X7_cell_r1_c3_23 Ln _ _ _ _  h12 rfl he) ?_
      obtain ⟨h15, h16⟩ := h13
      by_cases h14 : (r4 : Int32) ≠ 0
      · refine zS1 (fun r he => B_X7_cell_r1_c3_36_s2 Ln _ _ _ _ _  (fun _ => he) (fun n => absurd h14 n)) ?_
        have h15 := h15 h14
        have h17 := h15 _ rfl
        refine zS1 (fun r he => B_X7_cell_r1_c3_61 Ln _ _ _ _  he) ?_
        exact ⟨_, B_X7_cell_r1_c3_64_s1 Ln _ _ _ _ _ , _, _, rfl, h17⟩
      · refine zS1 (fun r he => B_X7_cell_r1_c3_36_s2 Ln _ _ _ _ _  (fun n => absurd n h14) (fun _ => he)) ?_
        have h16 := h16 h14
        have h18 := h16 _ rfl
        obtain ⟨h19, h20⟩ := h18
        refine zS1 (fun r he => B_X7_cell_r1_c3_46 Ln _ _ _ _ h19 he) ?_
        exact ⟨_, B_X7_cell_r1_c3_64_s1 Ln _ _ _ _ _ , _, _, rfl, h20⟩
    · refine zS1 (fun r he => B_X7_cell_r1_c3_16_s1 Ln _ _ _ _ _  (fun n => absurd n h9) (fun _ => he)) ?_
      have h11 := h11 h9
      exact ⟨_, B_X7_cell_r1_c3_19 Ln _ _ _ _ , _, _, rfl, h11⟩
def SL_X1_leastWaiting_r26_4 (Ln : Nat) (I A : Nat → Nat → Int32) (v1 : Int32) (Q : Int32 → (Nat → Nat → Int32) → Prop) : Int32 × Int32 → Prop
  | (v2, v3) => zSem 11 4 0 0 [some (.ref 26), some (.int v1), some (.int v2), some (.int v3), none] [] (zGs Ln I A) (fun r => ∃ x A1, r = (some (.int x), zGs Ln I A1) ∧ Q x A1)
def SL_X1_leastWaiting_r26_61 (Ln : Nat) (I : Nat → Nat → Int32) (v1 : Int32) (v2 : Int32) (Q : Int32 → (Nat → Nat → Int32) → Prop) : Int32 × (Nat → Nat → Int32) → Prop
  | (v3, A) => zSem 11 61 0 0 [some (.ref 26), some (.int v1), some (.int v2), some (.int v3), none] [] (zGs Ln I A) (fun r => ∃ x A1, r = (some (.int x), zGs Ln I A1) ∧ Q x A1)
def SL_X1_leastWaiting_r26_94 (Ln : Nat) (I A : Nat → Nat → Int32) (v1 : Int32) (v2 : Int32) (Q : Int32 → (Nat → Nat → Int32) → Prop) : Int32 × Int32 → Prop
  | (v3, v4) => zSem 11 94 0 0 [some (.ref 26), some (.int v1), some (.int v2), some (.int v3), some (.int v4)] [] (zGs Ln I A) (fun r => ∃ x A1, r = (some (.int x), zGs Ln I A1) ∧ Q x A1)
def L_X1_leastWaiting_r26_94 (Ln : Nat) (I A : Nat → Nat → Int32) (v1 : Int32) (v2 : Int32) (Q : Int32 → (Nat → Nat → Int32) → Prop) : Int32 × Int32 → (Int32 × Int32 → Prop) → Prop
  | (v3, v4), K94 => (((64 : Int32) ≤ v4 → (Q v3 A)) ∧ (¬ ((64 : Int32) ≤ v4) → ((zin v4 64 = true) ∧ (K94 ((if A 27 (v4).toNatClampNeg < v3 then A 27 (v4).toNatClampNeg else v3), (v4 + 1))))))
set_option maxRecDepth 100000 in
theorem TL_X1_leastWaiting_r26_94 {Ln : Nat} {I A : Nat → Nat → Int32} {v1 : Int32} {v2 : Int32} {Q : Int32 → (Nat → Nat → Int32) → Prop} : ∀ p, zLoop (L_X1_leastWaiting_r26_94 Ln I A v1 v2  Q) p → SL_X1_leastWaiting_r26_94 Ln I A v1 v2 Q p := by
  refine zLoop.sound (Sem := SL_X1_leastWaiting_r26_94 Ln I A v1 v2 Q) ?_
  rintro ⟨v3, v4⟩ K94 hK94 h0
  show zSem 11 94 0 0 [some (.ref 26), some (.int v1), some (.int v2), some (.int v3), some (.int v4)] [] (zGs Ln I A) (fun r => ∃ x A1, r = (some (.int x), zGs Ln I A1) ∧ Q x A1)
  change (((64 : Int32) ≤ v4 → (Q v3 A)) ∧ (¬ ((64 : Int32) ≤ v4) → ((zin v4 64 = true) ∧ (K94 ((if A 27 (v4).toNatClampNeg < v3 then A 27 (v4).toNatClampNeg else v3), (v4 + 1)))))) at h0
  obtain ⟨h2, h3⟩ := h0
  by_cases h1 : (64 : Int32) ≤ v4
  · refine zS1 (fun r he => B_X1_leastWaiting_r26_94 Ln _ _ _ _ _ _  (fun _ => he) (fun n => absurd h1 n)) ?_
    have h2 := h2 h1
    exact ⟨_, B_X1_leastWaiting_r26_119 Ln _ _ _ _ _ _ , _, _, rfl, h2⟩
  · refine zS1 (fun r he => B_X1_leastWaiting_r26_94 Ln _ _ _ _ _ _  (fun n => absurd n h1) (fun _ => he)) ?_
    have h3 := h3 h1
    obtain ⟨h4, h5⟩ := h3
    refine zS1 (fun r he => B_X1_leastWaiting_r26_101 Ln _ _ _ _ _ _ h4 he) ?_
    have q := hK94 _ h5
    exact q
def L_X1_leastWaiting_r26_61 (Ln : Nat) (I : Nat → Nat → Int32) (v1 : Int32) (v2 : Int32) (Q : Int32 → (Nat → Nat → Int32) → Prop) : Int32 × (Nat → Nat → Int32) → (Int32 × (Nat → Nat → Int32) → Prop) → Prop
  | (v3, A), K61 => (((60 : Int32) ≤ v3 → ((zLoop (L_X1_leastWaiting_r26_94 Ln I A v1 v2  Q) (1000, 0)))) ∧ (¬ ((60 : Int32) ≤ v3) → ((zin v3 60 = true) ∧ (W_X1_cross_r26 Ln I A (A 16 (v3).toNatClampNeg) v2 (fun (A2 : Nat → Nat → Int32) => ((K61 ((v3 + 1), A2))))))))
set_option maxRecDepth 100000 in
theorem TL_X1_leastWaiting_r26_61 {Ln : Nat} {I : Nat → Nat → Int32} {v1 : Int32} {v2 : Int32} {Q : Int32 → (Nat → Nat → Int32) → Prop} : ∀ p, zLoop (L_X1_leastWaiting_r26_61 Ln I v1 v2  Q) p → SL_X1_leastWaiting_r26_61 Ln I v1 v2 Q p := by
  refine zLoop.sound (Sem := SL_X1_leastWaiting_r26_61 Ln I v1 v2 Q) ?_
  rintro ⟨v3, A⟩ K61 hK61 h0
  show zSem 11 61 0 0 [some (.ref 26), some (.int v1), some (.int v2), some (.int v3), none] [] (zGs Ln I A) (fun r => ∃ x A1, r = (some (.int x), zGs Ln I A1) ∧ Q x A1)
  change (((60 : Int32) ≤ v3 → ((zLoop (L_X1_leastWaiting_r26_94 Ln I A v1 v2  Q) (1000, 0)))) ∧ (¬ ((60 : Int32) ≤ v3) → ((zin v3 60 = true) ∧ (W_X1_cross_r26 Ln I A (A 16 (v3).toNatClampNeg) v2 (fun (A2 : Nat → Nat → Int32) => ((K61 ((v3 + 1), A2)))))))) at h0
  obtain ⟨h2, h3⟩ := h0
  by_cases h1 : (60 : Int32) ≤ v3
  · refine zS1 (fun r he => B_X1_leastWaiting_r26_61 Ln _ _ _ _ _  (fun _ => he) (fun n => absurd h1 n)) ?_
    have h2 := h2 h1
    refine zS1 (fun r he => B_X1_leastWaiting_r26_87 Ln _ _ _ _ _  he) ?_
    exact TL_X1_leastWaiting_r26_94  _ h2
  · refine zS1 (fun r he => B_X1_leastWaiting_r26_61 Ln _ _ _ _ _  (fun n => absurd n h1) (fun _ => he)) ?_
    have h3 := h3 h1
    obtain ⟨h4, h5⟩ := h3
    obtain ⟨_, h6, A2, rfl, h7⟩ := T_X1_cross_r26 Ln _ _ _ _ _ h5
    refine zS1 (fun r he => B_X1_leastWaiting_r26_67 Ln _ _ _ _ _ h4 h6 rfl he) ?_
    refine zS1 (fun r he => B_X1_leastWaiting_r26_81 Ln _ _ _ _ _  he) ?_
    have q := hK61 _ h7
    exact q
def L_X1_leastWaiting_r26_4 (Ln : Nat) (I A : Nat → Nat → Int32) (v1 : Int32) (Q : Int32 → (Nat → Nat → Int32) → Prop) : Int32 × Int32 → (Int32 × Int32 → Prop) → Prop
  | (v2, v3), K4 => ((((I 11 0) : Int32) ≤ v3 → ((W_J7_fill_53178_r27 Ln I A 1000 (fun (A1 : Nat → Nat → Int32) => ((zLoop (L_X1_leastWaiting_r26_61 Ln I v1 v2  Q) (0, (zw A1 27 0 0)))))))) ∧ (¬ (((I 11 0) : Int32) ≤ v3) → ((W_X0_carries_r11 Ln I A (1 <<< (v3 &&& 31)) (fun (r3 : Int32) => (((r3 : Int32) = 0 → ((K4 (v2, (v3 + 1))))) ∧ (¬ ((r3 : Int32) = 0) → (((K4 ((v2 ||| (v1 &&& (1 <<< (v3 &&& 31)))), (v3 + 1))))))))))))
set_option maxRecDepth 100000 in
theorem TL_X1_leastWaiting_r26_4 {Ln : Nat} {I A : Nat → Nat → Int32} {v1 : Int32} {Q : Int32 → (Nat → Nat → Int32) → Prop} : ∀ p, zLoop (L_X1_leastWaiting_r26_4 Ln I A v1  Q) p → SL_X1_leastWaiting_r26_4 Ln I A v1 Q p := by
  refine zLoop.sound (Sem := SL_X1_leastWaiting_r26_4 Ln I A v1 Q) ?_
  rintro ⟨v2, v3⟩ K4 hK4 h0
  show zSem 11 4 0 0 [some (.ref 26), some (.int v1), some (.int v2), some (.int v3), none] [] (zGs Ln I A) (fun r => ∃ x A1, r = (some (.int x), zGs Ln I A1) ∧ Q x A1)
  change ((((I 11 0) : Int32) ≤ v3 → ((W_J7_fill_53178_r27 Ln I A 1000 (fun (A1 : Nat → Nat → Int32) => ((zLoop (L_X1_leastWaiting_r26_61 Ln I v1 v2  Q) (0, (zw A1 27 0 0)))))))) ∧ (¬ (((I 11 0) : Int32) ≤ v3) → ((W_X0_carries_r11 Ln I A (1 <<< (v3 &&& 31)) (fun (r3 : Int32) => (((r3 : Int32) = 0 → ((K4 (v2, (v3 + 1))))) ∧ (¬ ((r3 : Int32) = 0) → (((K4 ((v2 ||| (v1 &&& (1 <<< (v3 &&& 31)))), (v3 + 1)))))))))))) at h0
  obtain ⟨h2, h3⟩ := h0
  by_cases h1 : ((I 11 0) : Int32) ≤ v3
  · refine zS1 (fun r he => B_X1_leastWaiting_r26_4 Ln _ _ _ _ _  (fun _ => he) (fun n => absurd h1 n)) ?_
    have h2 := h2 h1
    obtain ⟨_, h4, A1, rfl, h5⟩ := T_J7_fill_53178_r27 Ln _ _ _ _ h2
    refine zS1 (fun r he => B_X1_leastWaiting_r26_42 Ln _ _ _ _ _  h4 rfl he) ?_
    refine zS1 (fun r he => B_X1_leastWaiting_r26_52 Ln _ _ _ _ _  he) ?_
    exact TL_X1_leastWaiting_r26_61  _ h5
  · refine zS1 (fun r he => B_X1_leastWaiting_r26_4 Ln _ _ _ _ _  (fun n => absurd n h1) (fun _ => he)) ?_
    have h3 := h3 h1
    obtain ⟨_, h6, r3, rfl, h7⟩ := T_X0_carries_r11 Ln _ _ _ _ h3
    refine zS1 (fun r he => B_X1_leastWaiting_r26_15 Ln _ _ _ _ _  h6 rfl he) ?_
    obtain ⟨h9, h10⟩ := h7
    by_cases h8 : (r3 : Int32) = 0
    · refine zS1 (fun r he => B_X1_leastWaiting_r26_25_s1 Ln _ _ _ _ _ _  (fun _ => he) (fun n => absurd h8 n)) ?_
      have h9 := h9 h8
      refine zS1 (fun r he => B_X1_leastWaiting_r26_36 Ln _ _ _ _ _  he) ?_
      have q := hK4 _ h9
      exact q
    · refine zS1 (fun r he => B_X1_leastWaiting_r26_25_s1 Ln _ _ _ _ _ _  (fun n => absurd n h8) (fun _ => he)) ?_
      have h10 := h10 h8
      refine zS1 (fun r he => B_X1_leastWaiting_r26_28 Ln _ _ _ _ _  he) ?_
      refine zS1 (fun r he => B_X1_leastWaiting_r26_36 Ln _ _ _ _ _  he) ?_
      have q := hK4 _ h10
      exact q
def W_X1_leastWaiting_r26 (Ln : Nat) (I A : Nat → Nat → Int32) (v1 : Int32) (Q : Int32 → (Nat → Nat → Int32) → Prop) : Prop := ((zLoop (L_X1_leastWaiting_r26_4 Ln I A v1  Q) (0, 0)))
set_option maxRecDepth 100000 in
theorem T_X1_leastWaiting_r26 (Ln : Nat) (I A : Nat → Nat → Int32) (v1 : Int32) (Q : Int32 → (Nat → Nat → Int32) → Prop) (h0 : W_X1_leastWaiting_r26 Ln I A v1 Q) : zSem 11 0 0 0 [some (.ref 26), some (.int v1), none, none, none] [] (zGs Ln I A) (fun r => ∃ x A1, r = (some (.int x), zGs Ln I A1) ∧ Q x A1) := by
  unfold W_X1_leastWaiting_r26 at h0
  refine zS1 (fun r he => B_X1_leastWaiting_r26_0 Ln _ _ _  he) ?_
  exact TL_X1_leastWaiting_r26_4  _ h0
def SL_X6_goThrough_r35_r42_38 (Ln : Nat) (I : Nat → Nat → Int32) (v2 : Int32) (v3 : Int32) (Q : (Nat → Nat → Int32) → Prop) : Int32 × Int32 × (Nat → Nat → Int32) → Prop
  | (v4, v5, A) => ∀  (j6 : Option Int32), zSem 35 38 0 0 [some (.ref 35), some (.ref 42), some (.int v2), some (.int v3), some (.int v4), some (.int v5), (Option.map Value.int j6)] [] (zGs Ln I A) (fun r => ∃ A1, r = (none, zGs Ln I A1) ∧ Q A1)
def L_X6_goThrough_r35_r42_38 (Ln : Nat) (I : Nat → Nat → Int32) (v2 : Int32) (v3 : Int32) (Q : (Nat → Nat → Int32) → Prop) : Int32 × Int32 × (Nat → Nat → Int32) → (Int32 × Int32 × (Nat → Nat → Int32) → Prop) → Prop
  | (v4, v5, A), K38 => (((60 : Int32) ≤ v5 → (Q A)) ∧ (¬ ((60 : Int32) ≤ v5) → ((zin v5 60 = true) ∧ (zin v5 60 = true) ∧ (zin v5 60 = true) ∧ ((((A 16 (v5).toNatClampNeg) &&& (v4 ^^^ ((-1)))) : Int32) = 0 → ((zin v5 60 = true) ∧ (K38 (v4, (v5 + 1), (zw (zw (zw A 37 ((v5).toNatClampNeg) ((-9))) 38 ((v5).toNatClampNeg) 0) 39 ((v5).toNatClampNeg) v4))))) ∧ (¬ ((((A 16 (v5).toNatClampNeg) &&& (v4 ^^^ ((-1)))) : Int32) = 0) → (∀ x5 : Int32, x5 = (A 16 (v5).toNatClampNeg) &&& (v4 ^^^ ((-1))) → (∀ A6 : Nat → Nat → Int32, A6 = zw (zw A 37 ((v5).toNatClampNeg) ((-9))) 38 ((v5).toNatClampNeg) 0 → ((W_X6_firstOf_r35 Ln I A6 (x5 &&& (v3 ^^^ ((-1)))) (fun (r7 : Int32) => ((zin v5 60 = true) ∧ (∀ A8 : Nat → Nat → Int32, A8 = zw A6 37 ((v5).toNatClampNeg) r7 → (W_X6_seat_r35 Ln I A8 (x5 &&& v3) (fun (r9 : Int32) => ((zin v5 60 = true) ∧ (zin v5 60 = true) ∧ (zin v5 60 = true) ∧ (W_X6_freed_r35 Ln I (zw A8 38 ((v5).toNatClampNeg) r9) (A8 37 (v5).toNatClampNeg) (fun (r10 : Int32) (A11 : Nat → Nat → Int32) => (∀ x12 : Int32, x12 = ((zw A8 38 ((v5).toNatClampNeg) r9) 38) (v5).toNatClampNeg → ((W_X6_note_r35 Ln I A11 (x5 &&& (v4 ||| (x12 ||| r10))) v5 (fun (A13 : Nat → Nat → Int32) => ((zin v5 60 = true) ∧ (K38 ((v4 ||| (x12 ||| r10)), (v5 + 1), (zw A13 39 ((v5).toNatClampNeg) (v4 ||| (x12 ||| r10))))))))))))))))))))))))))
set_option maxRecDepth 100000 in
theorem TL_X6_goThrough_r35_r42_38 {Ln : Nat} {I : Nat → Nat → Int32} {v2 : Int32} {v3 : Int32} {Q : (Nat → Nat → Int32) → Prop} : ∀ p, zLoop (L_X6_goThrough_r35_r42_38 Ln I v2 v3  Q) p → SL_X6_goThrough_r35_r42_38 Ln I v2 v3 Q p := by
  refine zLoop.sound (Sem := SL_X6_goThrough_r35_r42_38 Ln I v2 v3 Q) ?_
  rintro ⟨v4, v5, A⟩ K38 hK38 h0
  intro j6
  show zSem 35 38 0 0 [some (.ref 35), some (.ref 42), some (.int v2), some (.int v3), some (.int v4), some (.int v5), (Option.map Value.int j6)] [] (zGs Ln I A) (fun r => ∃ A1, r = (none, zGs Ln I A1) ∧ Q A1)
  change (((60 : Int32) ≤ v5 → (Q A)) ∧ (¬ ((60 : Int32) ≤ v5) → ((zin v5 60 = true) ∧ (zin v5 60 = true) ∧ (zin v5 60 = true) ∧ ((((A 16 (v5).toNatClampNeg) &&& (v4 ^^^ ((-1)))) : Int32) = 0 → ((zin v5 60 = true) ∧ (K38 (v4, (v5 + 1), (zw (zw (zw A 37 ((v5).toNatClampNeg) ((-9))) 38 ((v5).toNatClampNeg) 0) 39 ((v5).toNatClampNeg) v4))))) ∧ (¬ ((((A 16 (v5).toNatClampNeg) &&& (v4 ^^^ ((-1)))) : Int32) = 0) → (∀ x5 : Int32, x5 = (A 16 (v5).toNatClampNeg) &&& (v4 ^^^ ((-1))) → (∀ A6 : Nat → Nat → Int32, A6 = zw (zw A 37 ((v5).toNatClampNeg) ((-9))) 38 ((v5).toNatClampNeg) 0 → ((W_X6_firstOf_r35 Ln I A6 (x5 &&& (v3 ^^^ ((-1)))) (fun (r7 : Int32) => ((zin v5 60 = true) ∧ (∀ A8 : Nat → Nat → Int32, A8 = zw A6 37 ((v5).toNatClampNeg) r7 → (W_X6_seat_r35 Ln I A8 (x5 &&& v3) (fun (r9 : Int32) => ((zin v5 60 = true) ∧ (zin v5 60 = true) ∧ (zin v5 60 = true) ∧ (W_X6_freed_r35 Ln I (zw A8 38 ((v5).toNatClampNeg) r9) (A8 37 (v5).toNatClampNeg) (fun (r10 : Int32) (A11 : Nat → Nat → Int32) => (∀ x12 : Int32, x12 = ((zw A8 38 ((v5).toNatClampNeg) r9) 38) (v5).toNatClampNeg → ((W_X6_note_r35 Ln I A11 (x5 &&& (v4 ||| (x12 ||| r10))) v5 (fun (A13 : Nat → Nat → Int32) => ((zin v5 60 = true) ∧ (K38 ((v4 ||| (x12 ||| r10)), (v5 + 1), (zw A13 39 ((v5).toNatClampNeg) (v4 ||| (x12 ||| r10)))))))))))))))))))))))))) at h0
  obtain ⟨h2, h3⟩ := h0
  by_cases h1 : (60 : Int32) ≤ v5
  · refine zS1 (fun r he => B_X6_goThrough_r35_r42_38 Ln _ _ _ _ _ _ j6  (fun _ => he) (fun n => absurd h1 n)) ?_
    have h2 := h2 h1
    exact ⟨_, B_X6_goThrough_r35_r42_166 Ln _ _ _ _ _ _ j6 , _, rfl, h2⟩
  · refine zS1 (fun r he => B_X6_goThrough_r35_r42_38 Ln _ _ _ _ _ _ j6  (fun n => absurd n h1) (fun _ => he)) ?_
    have h3 := h3 h1
    obtain ⟨h4, h5⟩ := h3
    obtain ⟨h6, h7⟩ := h5
    obtain ⟨h8, h9⟩ := h7
    obtain ⟨h11, h12⟩ := h9
    by_cases h10 : (((A 16 (v5).toNatClampNeg) &&& (v4 ^^^ ((-1)))) : Int32) = 0
    · refine zS1 (fun r he => B_X6_goThrough_r35_r42_45 Ln _ _ _ _ _ _ j6 h4 h6 h8 (fun _ => he) (fun n => absurd h10 n)) ?_
      have h11 := h11 h10
      obtain ⟨h13, h14⟩ := h11
      refine zS1 (fun r he => B_X6_goThrough_r35_r42_151 Ln _ _ _ _ _ _ _ h13 he) ?_
      have q := hK38 _ h14
      exact q (some _)
    · refine zS1 (fun r he => B_X6_goThrough_r35_r42_45 Ln _ _ _ _ _ _ j6 h4 h6 h8 (fun n => absurd n h10) (fun _ => he)) ?_
      have h12 := h12 h10
      have h15 := h12 _ rfl
      have h16 := h15 _ rfl
      obtain ⟨_, h17, r7, rfl, h18⟩ := T_X6_firstOf_r35 Ln _ _ _ _ h16
      refine zS1 (fun r he => B_X6_goThrough_r35_r42_84 Ln _ _ _ _ _ _ _  h17 rfl he) ?_
      obtain ⟨h19, h20⟩ := h18
      have h21 := h20 _ rfl
      obtain ⟨_, h22, r9, rfl, h23⟩ := T_X6_seat_r35 Ln _ _ _ _ h21
      refine zS1 (fun r he => B_X6_goThrough_r35_r42_100_s3 Ln _ _ _ _ _ _ _ _ _ h19 h22 rfl he) ?_
      obtain ⟨h24, h25⟩ := h23
      obtain ⟨h26, h27⟩ := h25
      obtain ⟨h28, h29⟩ := h27
      obtain ⟨_, h30, r10, A11, rfl, h31⟩ := T_X6_freed_r35 Ln _ _ _ _ h29
      refine zS1 (fun r he => B_X6_goThrough_r35_r42_115_s3 Ln _ _ _ _ _ _ _ _ _ h24 h26 h28 h30 rfl he) ?_
      have h32 := h31 _ rfl
      obtain ⟨_, h33, A13, rfl, h34⟩ := T_X6_note_r35 Ln _ _ _ _ _ h32
      refine zS1 (fun r he => B_X6_goThrough_r35_r42_136_s3 Ln _ _ _ _ _ _ _ _ _ _  h33 rfl he) ?_
      obtain ⟨h35, h36⟩ := h34
      refine zS1 (fun r he => B_X6_goThrough_r35_r42_151 Ln _ _ _ _ _ _ _ h35 he) ?_
      have q := hK38 _ h36
      exact q (some _)
def W_X6_goThrough_r35_r42 (Ln : Nat) (I A : Nat → Nat → Int32) (v2 : Int32) (Q : (Nat → Nat → Int32) → Prop) : Prop := ((W_X6_lineUp_r35_r42 Ln I A v2 (fun (A1 : Nat → Nat → Int32) => ((W_J7_fill_53178_r36 Ln I A1 (-9) (fun (A2 : Nat → Nat → Int32) => ((W_J7_fill_53178_r41 Ln I A2 0 (fun (A3 : Nat → Nat → Int32) => ((W_X0_whoPays_r11_r42 Ln I A3  (fun (r4 : Int32) => ((zLoop (L_X6_goThrough_r35_r42_38 Ln I v2 r4  Q) (0, 0, A3)))))))))))))))
set_option maxRecDepth 100000 in
theorem T_X6_goThrough_r35_r42 (Ln : Nat) (I A : Nat → Nat → Int32) (v2 : Int32) (Q : (Nat → Nat → Int32) → Prop) (h0 : W_X6_goThrough_r35_r42 Ln I A v2 Q) : zSem 35 0 0 0 [some (.ref 35), some (.ref 42), some (.int v2), none, none, none, none] [] (zGs Ln I A) (fun r => ∃ A1, r = (none, zGs Ln I A1) ∧ Q A1) := by
  unfold W_X6_goThrough_r35_r42 at h0
  obtain ⟨_, h1, A1, rfl, h2⟩ := T_X6_lineUp_r35_r42 Ln _ _ _ _ h0
  refine zS1 (fun r he => B_X6_goThrough_r35_r42_0 Ln _ _ _  h1 rfl he) ?_
  obtain ⟨_, h3, A2, rfl, h4⟩ := T_J7_fill_53178_r36 Ln _ _ _ _ h2
  refine zS1 (fun r he => B_X6_goThrough_r35_r42_6 Ln _ _ _  h3 rfl he) ?_
  obtain ⟨_, h5, A3, rfl, h6⟩ := T_J7_fill_53178_r41 Ln _ _ _ _ h4
  refine zS1 (fun r he => B_X6_goThrough_r35_r42_15 Ln _ _ _  h5 rfl he) ?_
  obtain ⟨_, h7, r4, rfl, h8⟩ := T_X0_whoPays_r11_r42 Ln _ _ _ h6
  refine zS1 (fun r he => B_X6_goThrough_r35_r42_23 Ln _ _ _  h7 rfl he) ?_
  refine zS1 (fun r he => B_X6_goThrough_r35_r42_31_s1 Ln _ _ _ _  he) ?_
  exact TL_X6_goThrough_r35_r42_38  _ h8 none
def SL_X6_goThrough_r35_r43_38 (Ln : Nat) (I : Nat → Nat → Int32) (v2 : Int32) (v3 : Int32) (Q : (Nat → Nat → Int32) → Prop) : Int32 × Int32 × (Nat → Nat → Int32) → Prop
  | (v4, v5, A) => ∀  (j6 : Option Int32), zSem 35 38 0 0 [some (.ref 35), some (.ref 43), some (.int v2), some (.int v3), some (.int v4), some (.int v5), (Option.map Value.int j6)] [] (zGs Ln I A) (fun r => ∃ A1, r = (none, zGs Ln I A1) ∧ Q A1)
def L_X6_goThrough_r35_r43_38 (Ln : Nat) (I : Nat → Nat → Int32) (v2 : Int32) (v3 : Int32) (Q : (Nat → Nat → Int32) → Prop) : Int32 × Int32 × (Nat → Nat → Int32) → (Int32 × Int32 × (Nat → Nat → Int32) → Prop) → Prop
  | (v4, v5, A), K38 => (((60 : Int32) ≤ v5 → (Q A)) ∧ (¬ ((60 : Int32) ≤ v5) → ((zin v5 60 = true) ∧ (zin v5 60 = true) ∧ (zin v5 60 = true) ∧ ((((A 16 (v5).toNatClampNeg) &&& (v4 ^^^ ((-1)))) : Int32) = 0 → ((zin v5 60 = true) ∧ (K38 (v4, (v5 + 1), (zw (zw (zw A 37 ((v5).toNatClampNeg) ((-9))) 38 ((v5).toNatClampNeg) 0) 39 ((v5).toNatClampNeg) v4))))) ∧ (¬ ((((A 16 (v5).toNatClampNeg) &&& (v4 ^^^ ((-1)))) : Int32) = 0) → (∀ x5 : Int32, x5 = (A 16 (v5).toNatClampNeg) &&& (v4 ^^^ ((-1))) → (∀ A6 : Nat → Nat → Int32, A6 = zw (zw A 37 ((v5).toNatClampNeg) ((-9))) 38 ((v5).toNatClampNeg) 0 → ((W_X6_firstOf_r35 Ln I A6 (x5 &&& (v3 ^^^ ((-1)))) (fun (r7 : Int32) => ((zin v5 60 = true) ∧ (∀ A8 : Nat → Nat → Int32, A8 = zw A6 37 ((v5).toNatClampNeg) r7 → (W_X6_seat_r35 Ln I A8 (x5 &&& v3) (fun (r9 : Int32) => ((zin v5 60 = true) ∧ (zin v5 60 = true) ∧ (zin v5 60 = true) ∧ (W_X6_freed_r35 Ln I (zw A8 38 ((v5).toNatClampNeg) r9) (A8 37 (v5).toNatClampNeg) (fun (r10 : Int32) (A11 : Nat → Nat → Int32) => (∀ x12 : Int32, x12 = ((zw A8 38 ((v5).toNatClampNeg) r9) 38) (v5).toNatClampNeg → ((W_X6_note_r35 Ln I A11 (x5 &&& (v4 ||| (x12 ||| r10))) v5 (fun (A13 : Nat → Nat → Int32) => ((zin v5 60 = true) ∧ (K38 ((v4 ||| (x12 ||| r10)), (v5 + 1), (zw A13 39 ((v5).toNatClampNeg) (v4 ||| (x12 ||| r10))))))))))))))))))))))))))
set_option maxRecDepth 100000 in
theorem TL_X6_goThrough_r35_r43_38 {Ln : Nat} {I : Nat → Nat → Int32} {v2 : Int32} {v3 : Int32} {Q : (Nat → Nat → Int32) → Prop} : ∀ p, zLoop (L_X6_goThrough_r35_r43_38 Ln I v2 v3  Q) p → SL_X6_goThrough_r35_r43_38 Ln I v2 v3 Q p := by
  refine zLoop.sound (Sem := SL_X6_goThrough_r35_r43_38 Ln I v2 v3 Q) ?_
  rintro ⟨v4, v5, A⟩ K38 hK38 h0
  intro j6
  show zSem 35 38 0 0 [some (.ref 35), some (.ref 43), some (.int v2), some (.int v3), some (.int v4), some (.int v5), (Option.map Value.int j6)] [] (zGs Ln I A) (fun r => ∃ A1, r = (none, zGs Ln I A1) ∧ Q A1)
  change (((60 : Int32) ≤ v5 → (Q A)) ∧ (¬ ((60 : Int32) ≤ v5) → ((zin v5 60 = true) ∧ (zin v5 60 = true) ∧ (zin v5 60 = true) ∧ ((((A 16 (v5).toNatClampNeg) &&& (v4 ^^^ ((-1)))) : Int32) = 0 → ((zin v5 60 = true) ∧ (K38 (v4, (v5 + 1), (zw (zw (zw A 37 ((v5).toNatClampNeg) ((-9))) 38 ((v5).toNatClampNeg) 0) 39 ((v5).toNatClampNeg) v4))))) ∧ (¬ ((((A 16 (v5).toNatClampNeg) &&& (v4 ^^^ ((-1)))) : Int32) = 0) → (∀ x5 : Int32, x5 = (A 16 (v5).toNatClampNeg) &&& (v4 ^^^ ((-1))) → (∀ A6 : Nat → Nat → Int32, A6 = zw (zw A 37 ((v5).toNatClampNeg) ((-9))) 38 ((v5).toNatClampNeg) 0 → ((W_X6_firstOf_r35 Ln I A6 (x5 &&& (v3 ^^^ ((-1)))) (fun (r7 : Int32) => ((zin v5 60 = true) ∧ (∀ A8 : Nat → Nat → Int32, A8 = zw A6 37 ((v5).toNatClampNeg) r7 → (W_X6_seat_r35 Ln I A8 (x5 &&& v3) (fun (r9 : Int32) => ((zin v5 60 = true) ∧ (zin v5 60 = true) ∧ (zin v5 60 = true) ∧ (W_X6_freed_r35 Ln I (zw A8 38 ((v5).toNatClampNeg) r9) (A8 37 (v5).toNatClampNeg) (fun (r10 : Int32) (A11 : Nat → Nat → Int32) => (∀ x12 : Int32, x12 = ((zw A8 38 ((v5).toNatClampNeg) r9) 38) (v5).toNatClampNeg → ((W_X6_note_r35 Ln I A11 (x5 &&& (v4 ||| (x12 ||| r10))) v5 (fun (A13 : Nat → Nat → Int32) => ((zin v5 60 = true) ∧ (K38 ((v4 ||| (x12 ||| r10)), (v5 + 1), (zw A13 39 ((v5).toNatClampNeg) (v4 ||| (x12 ||| r10)))))))))))))))))))))))))) at h0
  obtain ⟨h2, h3⟩ := h0
  by_cases h1 : (60 : Int32) ≤ v5
  · refine zS1 (fun r he => B_X6_goThrough_r35_r43_38 Ln _ _ _ _ _ _ j6  (fun _ => he) (fun n => absurd h1 n)) ?_
    have h2 := h2 h1
    exact ⟨_, B_X6_goThrough_r35_r43_166 Ln _ _ _ _ _ _ j6 , _, rfl, h2⟩
  · refine zS1 (fun r he => B_X6_goThrough_r35_r43_38 Ln _ _ _ _ _ _ j6  (fun n => absurd n h1) (fun _ => he)) ?_
    have h3 := h3 h1
    obtain ⟨h4, h5⟩ := h3
    obtain ⟨h6, h7⟩ := h5
    obtain ⟨h8, h9⟩ := h7
    obtain ⟨h11, h12⟩ := h9
    by_cases h10 : (((A 16 (v5).toNatClampNeg) &&& (v4 ^^^ ((-1)))) : Int32) = 0
    · refine zS1 (fun r he => B_X6_goThrough_r35_r43_45 Ln _ _ _ _ _ _ j6 h4 h6 h8 (fun _ => he) (fun n => absurd h10 n)) ?_
      have h11 := h11 h10
      obtain ⟨h13, h14⟩ := h11
      refine zS1 (fun r he => B_X6_goThrough_r35_r43_151 Ln _ _ _ _ _ _ _ h13 he) ?_
      have q := hK38 _ h14
      exact q (some _)
    · refine zS1 (fun r he => B_X6_goThrough_r35_r43_45 Ln _ _ _ _ _ _ j6 h4 h6 h8 (fun n => absurd n h10) (fun _ => he)) ?_
      have h12 := h12 h10
      have h15 := h12 _ rfl
      have h16 := h15 _ rfl
      obtain ⟨_, h17, r7, rfl, h18⟩ := T_X6_firstOf_r35 Ln _ _ _ _ h16
      refine zS1 (fun r he => B_X6_goThrough_r35_r43_84 Ln _ _ _ _ _ _ _  h17 rfl he) ?_
      obtain ⟨h19, h20⟩ := h18
      have h21 := h20 _ rfl
      obtain ⟨_, h22, r9, rfl, h23⟩ := T_X6_seat_r35 Ln _ _ _ _ h21
      refine zS1 (fun r he => B_X6_goThrough_r35_r43_100_s3 Ln _ _ _ _ _ _ _ _ _ h19 h22 rfl he) ?_
      obtain ⟨h24, h25⟩ := h23
      obtain ⟨h26, h27⟩ := h25
      obtain ⟨h28, h29⟩ := h27
      obtain ⟨_, h30, r10, A11, rfl, h31⟩ := T_X6_freed_r35 Ln _ _ _ _ h29
      refine zS1 (fun r he => B_X6_goThrough_r35_r43_115_s3 Ln _ _ _ _ _ _ _ _ _ h24 h26 h28 h30 rfl he) ?_
      have h32 := h31 _ rfl
      obtain ⟨_, h33, A13, rfl, h34⟩ := T_X6_note_r35 Ln _ _ _ _ _ h32
      refine zS1 (fun r he => B_X6_goThrough_r35_r43_136_s3 Ln _ _ _ _ _ _ _ _ _ _  h33 rfl he) ?_
      obtain ⟨h35, h36⟩ := h34
      refine zS1 (fun r he => B_X6_goThrough_r35_r43_151 Ln _ _ _ _ _ _ _ h35 he) ?_
      have q := hK38 _ h36
      exact q (some _)
def W_X6_goThrough_r35_r43 (Ln : Nat) (I A : Nat → Nat → Int32) (v2 : Int32) (Q : (Nat → Nat → Int32) → Prop) : Prop := ((W_X6_lineUp_r35_r43 Ln I A v2 (fun (A1 : Nat → Nat → Int32) => ((W_J7_fill_53178_r36 Ln I A1 (-9) (fun (A2 : Nat → Nat → Int32) => ((W_J7_fill_53178_r41 Ln I A2 0 (fun (A3 : Nat → Nat → Int32) => ((W_X0_whoPays_r11_r43 Ln I A3  (fun (r4 : Int32) => ((zLoop (L_X6_goThrough_r35_r43_38 Ln I v2 r4  Q) (0, 0, A3)))))))))))))))
set_option maxRecDepth 100000 in
theorem T_X6_goThrough_r35_r43 (Ln : Nat) (I A : Nat → Nat → Int32) (v2 : Int32) (Q : (Nat → Nat → Int32) → Prop) (h0 : W_X6_goThrough_r35_r43 Ln I A v2 Q) : zSem 35 0 0 0 [some (.ref 35), some (.ref 43), some (.int v2), none, none, none, none] [] (zGs Ln I A) (fun r => ∃ A1, r = (none, zGs Ln I A1) ∧ Q A1) := by
  unfold W_X6_goThrough_r35_r43 at h0
  obtain ⟨_, h1, A1, rfl, h2⟩ := T_X6_lineUp_r35_r43 Ln _ _ _ _ h0
  refine zS1 (fun r he => B_X6_goThrough_r35_r43_0 Ln _ _ _  h1 rfl he) ?_
  obtain ⟨_, h3, A2, rfl, h4⟩ := T_J7_fill_53178_r36 Ln _ _ _ _ h2
  refine zS1 (fun r he => B_X6_goThrough_r35_r43_6 Ln _ _ _  h3 rfl he) ?_
  obtain ⟨_, h5, A3, rfl, h6⟩ := T_J7_fill_53178_r41 Ln _ _ _ _ h4
  refine zS1 (fun r he => B_X6_goThrough_r35_r43_15 Ln _ _ _  h5 rfl he) ?_
  obtain ⟨_, h7, r4, rfl, h8⟩ := T_X0_whoPays_r11_r43 Ln _ _ _ h6
  refine zS1 (fun r he => B_X6_goThrough_r35_r43_23 Ln _ _ _  h7 rfl he) ?_
  refine zS1 (fun r he => B_X6_goThrough_r35_r43_31_s1 Ln _ _ _ _  he) ?_
  exact TL_X6_goThrough_r35_r43_38  _ h8 none
