/-! what a method asks, by program (wip/whole/gen_wp.py) -/
def J_X8_put_r44_73_s3 (Ln : Nat) (I A : Nat → Nat → Int32) (v1 : Int32) (v2 : Int32) (v3 : Int32) (s1 : Int32) (s2 : Int32) (Q : Int32 → (Nat → Nat → Int32) → (Nat → Nat → Int32) → Prop) : Prop := ((zin s1 240 = true) ∧ (∀ A4 : Nat → Nat → Int32, A4 = zw A 67 ((s1).toNatClampNeg) s2 → (W_X8_refused_r44 Ln I A4 1 (fun (r5 : Int32) (I6 : Nat → Nat → Int32) => (Q r5 I6 A4)))))
set_option maxRecDepth 100000 in
theorem TJ_X8_put_r44_73_s3 {Ln : Nat} {I A : Nat → Nat → Int32} {v1 : Int32} {v2 : Int32} {v3 : Int32} {s1 : Int32} {s2 : Int32} {Q : Int32 → (Nat → Nat → Int32) → (Nat → Nat → Int32) → Prop} (h0 : J_X8_put_r44_73_s3 Ln I A v1 v2 v3 s1 s2  Q) : zSem 151 73 0 0 [some (.ref 44), some (.int v1), some (.int v2), some (.int v3)] [.int s2, .int s1, .ref 67] (zGs Ln I A) (fun r => ∃ x I1 A1, r = (some (.int x), zGs Ln I1 A1) ∧ Q x I1 A1) := by
  unfold J_X8_put_r44_73_s3 at h0
  obtain ⟨h1, h2⟩ := h0
  have h3 := h2 _ rfl
  obtain ⟨_, h4, r5, I6, rfl, h5⟩ := T_X8_refused_r44 Ln _ _ _ _ h3
  refine zS1 (fun r he => B_X8_put_r44_73_s3 Ln _ _ _ _ _ _ _ h1 h4 rfl he) ?_
  exact ⟨_, B_X8_put_r44_79_s1 Ln _ _ _ _ _ _ , _, _, _, rfl, h5⟩
def W_X8_put_r44 (Ln : Nat) (I A : Nat → Nat → Int32) (v1 : Int32) (v2 : Int32) (v3 : Int32) (Q : Int32 → (Nat → Nat → Int32) → (Nat → Nat → Int32) → Prop) : Prop := ((W_X8_noSheet Ln I A v1 (fun (r1 : Int32) => (((r1 : Int32) = 0 → ((W_X8_noCell_r44 Ln I A v1 v2 (fun (r2 : Int32) => (((r2 : Int32) ≤ 0 → ((zin v1 4 = true) ∧ (((A 66 (v1).toNatClampNeg) : Int32) ≠ 0 → (∀ x3 : Int32, x3 = (60 * v1) + v2 → ((zin v1 4 = true) ∧ (((A 66 (v1).toNatClampNeg) : Int32) ≠ 1 → ((J_X8_put_r44_73_s3 Ln I A v1 v2 v3 x3 v3  Q))) ∧ (¬ (((A 66 (v1).toNatClampNeg) : Int32) ≠ 1) → ((J_X8_put_r44_73_s3 Ln I A v1 v2 v3 x3 ((Int32.toInt16 v3).toInt32)  Q)))))) ∧ (¬ (((A 66 (v1).toNatClampNeg) : Int32) ≠ 0) → (∀ x7 : Int32, x7 = (60 * v1) + v2 → ((J_X8_put_r44_73_s3 Ln I A v1 v2 v3 x7 ((Int32.toInt8 v3).toInt32)  Q)))))) ∧ (¬ ((r2 : Int32) ≤ 0) → ((W_X8_noCell_r44 Ln I A v1 v2 (fun (r8 : Int32) => ((W_X8_failed_r44 Ln I A r8 (fun (r9 : Int32) (I10 : Nat → Nat → Int32) => (Q r9 I10 A))))))))))))) ∧ (¬ ((r1 : Int32) = 0) → ((W_X8_refused_r44 Ln I A (-1) (fun (r11 : Int32) (I12 : Nat → Nat → Int32) => (Q r11 I12 A)))))))))
set_option maxRecDepth 100000 in
theorem T_X8_put_r44 (Ln : Nat) (I A : Nat → Nat → Int32) (v1 : Int32) (v2 : Int32) (v3 : Int32) (Q : Int32 → (Nat → Nat → Int32) → (Nat → Nat → Int32) → Prop) (h0 : W_X8_put_r44 Ln I A v1 v2 v3 Q) : zSem 151 0 0 0 [some (.ref 44), some (.int v1), some (.int v2), some (.int v3)] [] (zGs Ln I A) (fun r => ∃ x I1 A1, r = (some (.int x), zGs Ln I1 A1) ∧ Q x I1 A1) := by
  unfold W_X8_put_r44 at h0
  obtain ⟨_, h1, r1, rfl, h2⟩ := T_X8_noSheet Ln _ _ _ _ h0
  refine zS1 (fun r he => B_X8_put_r44_0 Ln _ _ _ _ _  h1 rfl he) ?_
  obtain ⟨h4, h5⟩ := h2
  by_cases h3 : (r1 : Int32) = 0
  · refine zS1 (fun r he => B_X8_put_r44_4_s1 Ln _ _ _ _ _ _  (fun _ => he) (fun n => absurd h3 n)) ?_
    have h4 := h4 h3
    obtain ⟨_, h6, r2, rfl, h7⟩ := T_X8_noCell_r44 Ln _ _ _ _ _ h4
    refine zS1 (fun r he => B_X8_put_r44_13 Ln _ _ _ _ _  h6 rfl he) ?_
    obtain ⟨h9, h10⟩ := h7
    by_cases h8 : (r2 : Int32) ≤ 0
    · refine zS1 (fun r he => B_X8_put_r44_19_s1 Ln _ _ _ _ _ _  (fun _ => he) (fun n => absurd h8 n)) ?_
      have h9 := h9 h8
      obtain ⟨h11, h12⟩ := h9
      obtain ⟨h14, h15⟩ := h12
      by_cases h13 : ((A 66 (v1).toNatClampNeg) : Int32) ≠ 0
      · refine zS1 (fun r he => B_X8_put_r44_33 Ln _ _ _ _ _ h11 (fun _ => he) (fun n => absurd h13 n)) ?_
        have h14 := h14 h13
        have h16 := h14 _ rfl
        obtain ⟨h17, h18⟩ := h16
        obtain ⟨h20, h21⟩ := h18
        by_cases h19 : ((A 66 (v1).toNatClampNeg) : Int32) ≠ 1
        · refine zS1 (fun r he => B_X8_put_r44_57_s2 Ln _ _ _ _ _ _ h17 (fun _ => he) (fun n => absurd h19 n)) ?_
          have h20 := h20 h19
          refine zS1 (fun r he => B_X8_put_r44_72_s2 Ln _ _ _ _ _ _  he) ?_
          exact TJ_X8_put_r44_73_s3  h20
        · refine zS1 (fun r he => B_X8_put_r44_57_s2 Ln _ _ _ _ _ _ h17 (fun n => absurd n h19) (fun _ => he)) ?_
          have h21 := h21 h19
          refine zS1 (fun r he => B_X8_put_r44_67_s2 Ln _ _ _ _ _ _  he) ?_
          exact TJ_X8_put_r44_73_s3  h21
      · refine zS1 (fun r he => B_X8_put_r44_33 Ln _ _ _ _ _ h11 (fun n => absurd n h13) (fun _ => he)) ?_
        have h15 := h15 h13
        have h22 := h15 _ rfl
        refine zS1 (fun r he => B_X8_put_r44_52_s2 Ln _ _ _ _ _ _  he) ?_
        exact TJ_X8_put_r44_73_s3  h22
    · refine zS1 (fun r he => B_X8_put_r44_19_s1 Ln _ _ _ _ _ _  (fun n => absurd n h8) (fun _ => he)) ?_
      have h10 := h10 h8
      obtain ⟨_, h23, r8, rfl, h24⟩ := T_X8_noCell_r44 Ln _ _ _ _ _ h10
      refine zS1 (fun r he => B_X8_put_r44_22 Ln _ _ _ _ _  h23 rfl he) ?_
      obtain ⟨_, h25, r9, I10, rfl, h26⟩ := T_X8_failed_r44 Ln _ _ _ _ h24
      refine zS1 (fun r he => B_X8_put_r44_29_s2 Ln _ _ _ _ _ _  h25 rfl he) ?_
      exact ⟨_, B_X8_put_r44_32_s1 Ln _ _ _ _ _ _ , _, _, _, rfl, h26⟩
  · refine zS1 (fun r he => B_X8_put_r44_4_s1 Ln _ _ _ _ _ _  (fun n => absurd n h3) (fun _ => he)) ?_
    have h5 := h5 h3
    obtain ⟨_, h27, r11, I12, rfl, h28⟩ := T_X8_refused_r44 Ln _ _ _ _ h5
    refine zS1 (fun r he => B_X8_put_r44_7 Ln _ _ _ _ _  h27 rfl he) ?_
    exact ⟨_, B_X8_put_r44_12_s1 Ln _ _ _ _ _ _ , _, _, _, rfl, h28⟩
def J_X8_cell_r44_24 (Ln : Nat) (I A : Nat → Nat → Int32) (v1 : Int32) (v2 : Int32) (v3 : Int32) (Q : Int64 → (Nat → Nat → Int32) → Prop) : Prop := ((W_X8_lost Ln I A  (fun (r3 : Int64) => (Q r3 I))))
set_option maxRecDepth 100000 in
theorem TJ_X8_cell_r44_24 {Ln : Nat} {I A : Nat → Nat → Int32} {v1 : Int32} {v2 : Int32} {v3 : Int32} {Q : Int64 → (Nat → Nat → Int32) → Prop} (h0 : J_X8_cell_r44_24 Ln I A v1 v2 v3   Q) : zSem 152 24 0 0 [some (.ref 44), some (.int v1), some (.int v2), some (.int v3)] [] (zGs Ln I A) (fun r => ∃ x I1, r = (some (.long x), zGs Ln I1 A) ∧ Q x I1) := by
  unfold J_X8_cell_r44_24 at h0
  obtain ⟨_, h1, r3, rfl, h2⟩ := T_X8_lost Ln _ _ _ h0
  refine zS1 (fun r he => B_X8_cell_r44_24 Ln _ _ _ _ _  h1 rfl he) ?_
  exact ⟨_, B_X8_cell_r44_27_s1 Ln _ _ _ _ _ _ , _, _, rfl, h2⟩
def J_X8_cell_r44_53 (Ln : Nat) (I A : Nat → Nat → Int32) (v1 : Int32) (v2 : Int32) (v3 : Int32) (Q : Int64 → (Nat → Nat → Int32) → Prop) : Prop := ((W_X8_noCell_r44 Ln I A v1 v2 (fun (r5 : Int32) => (((r5 : Int32) ≤ 0 → ((zin ((60 * v1) + v2) 240 = true) ∧ (Q (Int32.toInt64 (A 67 ((60 * v1) + v2).toNatClampNeg)) I))) ∧ (¬ ((r5 : Int32) ≤ 0) → ((W_X8_noCell_r44 Ln I A v1 v2 (fun (r6 : Int32) => ((W_X8_failedLong_r44 Ln I A r6 (fun (r7 : Int64) (I8 : Nat → Nat → Int32) => ((Q r7 I8)))))))))))))
set_option maxRecDepth 100000 in
theorem TJ_X8_cell_r44_53 {Ln : Nat} {I A : Nat → Nat → Int32} {v1 : Int32} {v2 : Int32} {v3 : Int32} {Q : Int64 → (Nat → Nat → Int32) → Prop} (h0 : J_X8_cell_r44_53 Ln I A v1 v2 v3   Q) : zSem 152 53 0 0 [some (.ref 44), some (.int v1), some (.int v2), some (.int v3)] [] (zGs Ln I A) (fun r => ∃ x I1, r = (some (.long x), zGs Ln I1 A) ∧ Q x I1) := by
  unfold J_X8_cell_r44_53 at h0
  obtain ⟨_, h1, r5, rfl, h2⟩ := T_X8_noCell_r44 Ln _ _ _ _ _ h0
  refine zS1 (fun r he => B_X8_cell_r44_53 Ln _ _ _ _ _  h1 rfl he) ?_
  obtain ⟨h4, h5⟩ := h2
  by_cases h3 : (r5 : Int32) ≤ 0
  · refine zS1 (fun r he => B_X8_cell_r44_59_s1 Ln _ _ _ _ _ _  (fun _ => he) (fun n => absurd h3 n)) ?_
    have h4 := h4 h3
    obtain ⟨h6, h7⟩ := h4
    refine zS1 (fun r he => B_X8_cell_r44_75 Ln _ _ _ _ _ h6 he) ?_
    exact ⟨_, B_X8_cell_r44_87_s1 Ln _ _ _ _ _ _ , _, _, rfl, h7⟩
  · refine zS1 (fun r he => B_X8_cell_r44_59_s1 Ln _ _ _ _ _ _  (fun n => absurd n h3) (fun _ => he)) ?_
    have h5 := h5 h3
    obtain ⟨_, h8, r6, rfl, h9⟩ := T_X8_noCell_r44 Ln _ _ _ _ _ h5
    refine zS1 (fun r he => B_X8_cell_r44_62 Ln _ _ _ _ _  h8 rfl he) ?_
    obtain ⟨_, h10, r7, I8, rfl, h11⟩ := T_X8_failedLong_r44 Ln _ _ _ _ h9
    refine zS1 (fun r he => B_X8_cell_r44_69_s2 Ln _ _ _ _ _ _  h10 rfl he) ?_
    refine zS1 (fun r he => B_X8_cell_r44_72_s1 Ln _ _ _ _ _ _  he) ?_
    exact ⟨_, B_X8_cell_r44_87_s1 Ln _ _ _ _ _ _ , _, _, rfl, h11⟩
def W_X8_cell_r44 (Ln : Nat) (I A : Nat → Nat → Int32) (v1 : Int32) (v2 : Int32) (v3 : Int32) (Q : Int64 → (Nat → Nat → Int32) → Prop) : Prop := ((∀ I1 : Nat → Nat → Int32, I1 = zp I 44 0 0 → (W_X8_noSheet Ln I1 A v1 (fun (r2 : Int32) => (((r2 : Int32) ≠ 0 → (J_X8_cell_r44_24 Ln I1 A v1 v2 v3  Q)) ∧ (¬ ((r2 : Int32) ≠ 0) → ((W_X8_in Ln I1 A (Int32.toInt64 v3) 0 2 (fun (r4 : Int32) => (((r4 : Int32) ≠ 0 → ((zin v1 4 = true) ∧ (((A 65 (v1).toNatClampNeg) : Int32) < 0 → (J_X8_cell_r44_53 Ln I1 A v1 v2 v3  Q)) ∧ (¬ (((A 65 (v1).toNatClampNeg) : Int32) < 0) → ((zin v1 4 = true) ∧ (((A 66 (v1).toNatClampNeg) : Int32) = v3 → (J_X8_cell_r44_53 Ln I1 A v1 v2 v3  Q)) ∧ (¬ (((A 66 (v1).toNatClampNeg) : Int32) = v3) → ((W_X8_failedLong_r44 Ln I1 A 2 (fun (r9 : Int64) (I10 : Nat → Nat → Int32) => (Q r9 I10))))))))) ∧ (¬ ((r4 : Int32) ≠ 0) → (J_X8_cell_r44_24 Ln I1 A v1 v2 v3  Q))))))))))))
set_option maxRecDepth 100000 in
theorem T_X8_cell_r44 (Ln : Nat) (I A : Nat → Nat → Int32) (v1 : Int32) (v2 : Int32) (v3 : Int32) (Q : Int64 → (Nat → Nat → Int32) → Prop) (h0 : W_X8_cell_r44 Ln I A v1 v2 v3 Q) : zSem 152 0 0 0 [some (.ref 44), some (.int v1), some (.int v2), some (.int v3)] [] (zGs Ln I A) (fun r => ∃ x I1, r = (some (.long x), zGs Ln I1 A) ∧ Q x I1) := by
  unfold W_X8_cell_r44 at h0
  have h1 := h0 _ rfl
  obtain ⟨_, h2, r2, rfl, h3⟩ := T_X8_noSheet Ln _ _ _ _ h1
  refine zS1 (fun r he => B_X8_cell_r44_0 Ln _ _ _ _ _  h2 rfl he) ?_
  obtain ⟨h5, h6⟩ := h3
  by_cases h4 : (r2 : Int32) ≠ 0
  · refine zS1 (fun r he => B_X8_cell_r44_9_s1 Ln _ _ _ _ _ _  (fun _ => he) (fun n => absurd h4 n)) ?_
    have h5 := h5 h4
    exact TJ_X8_cell_r44_24  h5
  · refine zS1 (fun r he => B_X8_cell_r44_9_s1 Ln _ _ _ _ _ _  (fun n => absurd n h4) (fun _ => he)) ?_
    have h6 := h6 h4
    obtain ⟨_, h7, r4, rfl, h8⟩ := T_X8_in Ln _ _ _ _ _ _ h6
    refine zS1 (fun r he => B_X8_cell_r44_12 Ln _ _ _ _ _  h7 rfl he) ?_
    obtain ⟨h10, h11⟩ := h8
    by_cases h9 : (r4 : Int32) ≠ 0
    · refine zS1 (fun r he => B_X8_cell_r44_21_s1 Ln _ _ _ _ _ _  (fun _ => he) (fun n => absurd h9 n)) ?_
      have h10 := h10 h9
      obtain ⟨h12, h13⟩ := h10
      obtain ⟨h15, h16⟩ := h13
      by_cases h14 : ((A 65 (v1).toNatClampNeg) : Int32) < 0
      · refine zS1 (fun r he => B_X8_cell_r44_28 Ln _ _ _ _ _ h12 (fun _ => he) (fun n => absurd h14 n)) ?_
        have h15 := h15 h14
        exact TJ_X8_cell_r44_53  h15
      · refine zS1 (fun r he => B_X8_cell_r44_28 Ln _ _ _ _ _ h12 (fun n => absurd n h14) (fun _ => he)) ?_
        have h16 := h16 h14
        obtain ⟨h17, h18⟩ := h16
        obtain ⟨h20, h21⟩ := h18
        by_cases h19 : ((A 66 (v1).toNatClampNeg) : Int32) = v3
        · refine zS1 (fun r he => B_X8_cell_r44_37 Ln _ _ _ _ _ h17 (fun _ => he) (fun n => absurd h19 n)) ?_
          have h20 := h20 h19
          exact TJ_X8_cell_r44_53  h20
        · refine zS1 (fun r he => B_X8_cell_r44_37 Ln _ _ _ _ _ h17 (fun n => absurd n h19) (fun _ => he)) ?_
          have h21 := h21 h19
          obtain ⟨_, h22, r9, I10, rfl, h23⟩ := T_X8_failedLong_r44 Ln _ _ _ _ h21
          refine zS1 (fun r he => B_X8_cell_r44_47 Ln _ _ _ _ _  h22 rfl he) ?_
          exact ⟨_, B_X8_cell_r44_52_s1 Ln _ _ _ _ _ _ , _, _, rfl, h23⟩
    · refine zS1 (fun r he => B_X8_cell_r44_21_s1 Ln _ _ _ _ _ _  (fun n => absurd n h9) (fun _ => he)) ?_
      have h11 := h11 h9
      exact TJ_X8_cell_r44_24  h11
def J_X8_copy_r44_14 (Ln : Nat) (I A : Nat → Nat → Int32) (v1 : Int32) (v2 : Int32) (v3 : Int32) (v4 : Int32) (v5 : Int32) (Q : Int32 → (Nat → Nat → Int32) → (Nat → Nat → Int32) → Prop) : Prop := ((W_X8_refused_r44 Ln I A (-1) (fun (r2 : Int32) (I3 : Nat → Nat → Int32) => (Q r2 I3 A))))
set_option maxRecDepth 100000 in
theorem TJ_X8_copy_r44_14 {Ln : Nat} {I A : Nat → Nat → Int32} {v1 : Int32} {v2 : Int32} {v3 : Int32} {v4 : Int32} {v5 : Int32} {Q : Int32 → (Nat → Nat → Int32) → (Nat → Nat → Int32) → Prop} (h0 : J_X8_copy_r44_14 Ln I A v1 v2 v3 v4 v5   Q) : zSem 154 14 0 0 [some (.ref 44), some (.int v1), some (.int v2), some (.int v3), some (.int v4), some (.int v5), none] [] (zGs Ln I A) (fun r => ∃ x I1 A1, r = (some (.int x), zGs Ln I1 A1) ∧ Q x I1 A1) := by
  unfold J_X8_copy_r44_14 at h0
  obtain ⟨_, h1, r2, I3, rfl, h2⟩ := T_X8_refused_r44 Ln _ _ _ _ h0
  refine zS1 (fun r he => B_X8_copy_r44_14 Ln _ _ _ _ _ _ _  h1 rfl he) ?_
  exact ⟨_, B_X8_copy_r44_19_s1 Ln _ _ _ _ _ _ _ _ , _, _, _, rfl, h2⟩
def J_X8_copy_r44_38 (Ln : Nat) (I A : Nat → Nat → Int32) (v1 : Int32) (v2 : Int32) (v3 : Int32) (v4 : Int32) (v5 : Int32) (Q : Int32 → (Nat → Nat → Int32) → (Nat → Nat → Int32) → Prop) : Prop := ((W_X8_failed_r44 Ln I A 1 (fun (r5 : Int32) (I6 : Nat → Nat → Int32) => (Q r5 I6 A))))
set_option maxRecDepth 100000 in
theorem TJ_X8_copy_r44_38 {Ln : Nat} {I A : Nat → Nat → Int32} {v1 : Int32} {v2 : Int32} {v3 : Int32} {v4 : Int32} {v5 : Int32} {Q : Int32 → (Nat → Nat → Int32) → (Nat → Nat → Int32) → Prop} (h0 : J_X8_copy_r44_38 Ln I A v1 v2 v3 v4 v5   Q) : zSem 154 38 0 0 [some (.ref 44), some (.int v1), some (.int v2), some (.int v3), some (.int v4), some (.int v5), none] [] (zGs Ln I A) (fun r => ∃ x I1 A1, r = (some (.int x), zGs Ln I1 A1) ∧ Q x I1 A1) := by
  unfold J_X8_copy_r44_38 at h0
  obtain ⟨_, h1, r5, I6, rfl, h2⟩ := T_X8_failed_r44 Ln _ _ _ _ h0
  refine zS1 (fun r he => B_X8_copy_r44_38 Ln _ _ _ _ _ _ _  h1 rfl he) ?_
  exact ⟨_, B_X8_copy_r44_43_s1 Ln _ _ _ _ _ _ _ _ , _, _, _, rfl, h2⟩
def J_X8_copy_r44_98 (Ln : Nat) (I A : Nat → Nat → Int32) (v1 : Int32) (v2 : Int32) (v3 : Int32) (v4 : Int32) (v5 : Int32) (Q : Int32 → (Nat → Nat → Int32) → (Nat → Nat → Int32) → Prop) : Prop := ((W_X8_failed_r44 Ln I A 3 (fun (r8 : Int32) (I9 : Nat → Nat → Int32) => (Q r8 I9 A))))
set_option maxRecDepth 100000 in
theorem TJ_X8_copy_r44_98 {Ln : Nat} {I A : Nat → Nat → Int32} {v1 : Int32} {v2 : Int32} {v3 : Int32} {v4 : Int32} {v5 : Int32} {Q : Int32 → (Nat → Nat → Int32) → (Nat → Nat → Int32) → Prop} (h0 : J_X8_copy_r44_98 Ln I A v1 v2 v3 v4 v5   Q) : zSem 154 98 0 0 [some (.ref 44), some (.int v1), some (.int v2), some (.int v3), some (.int v4), some (.int v5), none] [] (zGs Ln I A) (fun r => ∃ x I1 A1, r = (some (.int x), zGs Ln I1 A1) ∧ Q x I1 A1) := by
  unfold J_X8_copy_r44_98 at h0
  obtain ⟨_, h1, r8, I9, rfl, h2⟩ := T_X8_failed_r44 Ln _ _ _ _ h0
  refine zS1 (fun r he => B_X8_copy_r44_98 Ln _ _ _ _ _ _ _  h1 rfl he) ?_
  exact ⟨_, B_X8_copy_r44_103_s1 Ln _ _ _ _ _ _ _ _ , _, _, _, rfl, h2⟩
def SL_X8_copy_r44_107 (Ln : Nat) (I : Nat → Nat → Int32) (v1 : Int32) (v2 : Int32) (v3 : Int32) (v4 : Int32) (v5 : Int32) (Q : Int32 → (Nat → Nat → Int32) → (Nat → Nat → Int32) → Prop) : Int32 × (Nat → Nat → Int32) → Prop
  | (v6, A) => zSem 154 107 0 0 [some (.ref 44), some (.int v1), some (.int v2), some (.int v3), some (.int v4), some (.int v5), some (.int v6)] [] (zGs Ln I A) (fun r => ∃ x I1 A1, r = (some (.int x), zGs Ln I1 A1) ∧ Q x I1 A1)
def SL_X8_copy_r44_144 (Ln : Nat) (I : Nat → Nat → Int32) (v1 : Int32) (v2 : Int32) (v3 : Int32) (v4 : Int32) (v5 : Int32) (Q : Int32 → (Nat → Nat → Int32) → (Nat → Nat → Int32) → Prop) : Int32 × (Nat → Nat → Int32) → Prop
  | (v6, A) => zSem 154 144 0 0 [some (.ref 44), some (.int v1), some (.int v2), some (.int v3), some (.int v4), some (.int v5), some (.int v6)] [] (zGs Ln I A) (fun r => ∃ x I1 A1, r = (some (.int x), zGs Ln I1 A1) ∧ Q x I1 A1)
def L_X8_copy_r44_144 (Ln : Nat) (I : Nat → Nat → Int32) (v1 : Int32) (v2 : Int32) (v3 : Int32) (v4 : Int32) (v5 : Int32) (Q : Int32 → (Nat → Nat → Int32) → (Nat → Nat → Int32) → Prop) : Int32 × (Nat → Nat → Int32) → (Int32 × (Nat → Nat → Int32) → Prop) → Prop
  | (v6, A), K144 => (((v5 : Int32) ≤ v6 → ((W_X8_refused_r44 Ln I A v5 (fun (r11 : Int32) (I12 : Nat → Nat → Int32) => (Q r11 I12 A))))) ∧ (¬ ((v5 : Int32) ≤ v6) → ((zin v6 60 = true) ∧ (zin (((60 * v3) + v4) + v6) 240 = true) ∧ (K144 ((v6 + 1), (zw A 67 ((((60 * v3) + v4) + v6).toNatClampNeg) (A 68 (v6).toNatClampNeg)))))))
set_option maxRecDepth 100000 in
theorem TL_X8_copy_r44_144 {Ln : Nat} {I : Nat → Nat → Int32} {v1 : Int32} {v2 : Int32} {v3 : Int32} {v4 : Int32} {v5 : Int32} {Q : Int32 → (Nat → Nat → Int32) → (Nat → Nat → Int32) → Prop} : ∀ p, zLoop (L_X8_copy_r44_144 Ln I v1 v2 v3 v4 v5  Q) p → SL_X8_copy_r44_144 Ln I v1 v2 v3 v4 v5 Q p := by
  refine zLoop.sound (Sem := SL_X8_copy_r44_144 Ln I v1 v2 v3 v4 v5 Q) ?_
  rintro ⟨v6, A⟩ K144 hK144 h0
  show zSem 154 144 0 0 [some (.ref 44), some (.int v1), some (.int v2), some (.int v3), some (.int v4), some (.int v5), some (.int v6)] [] (zGs Ln I A) (fun r => ∃ x I1 A1, r = (some (.int x), zGs Ln I1 A1) ∧ Q x I1 A1)
  change (((v5 : Int32) ≤ v6 → ((W_X8_refused_r44 Ln I A v5 (fun (r11 : Int32) (I12 : Nat → Nat → Int32) => (Q r11 I12 A))))) ∧ (¬ ((v5 : Int32) ≤ v6) → ((zin v6 60 = true) ∧ (zin (((60 * v3) + v4) + v6) 240 = true) ∧ (K144 ((v6 + 1), (zw A 67 ((((60 * v3) + v4) + v6).toNatClampNeg) (A 68 (v6).toNatClampNeg))))))) at h0
  obtain ⟨h2, h3⟩ := h0
  by_cases h1 : (v5 : Int32) ≤ v6
  · refine zS1 (fun r he => B_X8_copy_r44_144 Ln _ _ _ _ _ _ _ _  (fun _ => he) (fun n => absurd h1 n)) ?_
    have h2 := h2 h1
    obtain ⟨_, h4, r11, I12, rfl, h5⟩ := T_X8_refused_r44 Ln _ _ _ _ h2
    refine zS1 (fun r he => B_X8_copy_r44_179 Ln _ _ _ _ _ _ _ _  h4 rfl he) ?_
    exact ⟨_, B_X8_copy_r44_185_s1 Ln _ _ _ _ _ _ _ _ _ , _, _, _, rfl, h5⟩
  · refine zS1 (fun r he => B_X8_copy_r44_144 Ln _ _ _ _ _ _ _ _  (fun n => absurd n h1) (fun _ => he)) ?_
    have h3 := h3 h1
    obtain ⟨h6, h7⟩ := h3
    obtain ⟨h8, h9⟩ := h7
    refine zS1 (fun r he => B_X8_copy_r44_151 Ln _ _ _ _ _ _ _ _ h6 h8 he) ?_
    have q := hK144 _ h9
    exact q
def L_X8_copy_r44_107 (Ln : Nat) (I : Nat → Nat → Int32) (v1 : Int32) (v2 : Int32) (v3 : Int32) (v4 : Int32) (v5 : Int32) (Q : Int32 → (Nat → Nat → Int32) → (Nat → Nat → Int32) → Prop) : Int32 × (Nat → Nat → Int32) → (Int32 × (Nat → Nat → Int32) → Prop) → Prop
  | (v6, A), K107 => (((v5 : Int32) ≤ v6 → ((zLoop (L_X8_copy_r44_144 Ln I v1 v2 v3 v4 v5  Q) (0, A)))) ∧ (¬ ((v5 : Int32) ≤ v6) → ((zin (((60 * v1) + v2) + v6) 240 = true) ∧ (zin v6 60 = true) ∧ (K107 ((v6 + 1), (zw A 68 ((v6).toNatClampNeg) (A 67 (((60 * v1) + v2) + v6).toNatClampNeg)))))))
set_option maxRecDepth 100000 in
theorem TL_X8_copy_r44_107 {Ln : Nat} {I : Nat → Nat → Int32} {v1 : Int32} {v2 : Int32} {v3 : Int32} {v4 : Int32} {v5 : Int32} {Q : Int32 → (Nat → Nat → Int32) → (Nat → Nat → Int32) → Prop} : ∀ p, zLoop (L_X8_copy_r44_107 Ln I v1 v2 v3 v4 v5  Q) p → SL_X8_copy_r44_107 Ln I v1 v2 v3 v4 v5 Q p := by
  refine zLoop.sound (Sem := SL_X8_copy_r44_107 Ln I v1 v2 v3 v4 v5 Q) ?_
  rintro ⟨v6, A⟩ K107 hK107 h0
  show zSem 154 107 0 0 [some (.ref 44), some (.int v1), some (.int v2), some (.int v3), some (.int v4), some (.int v5), some (.int v6)] [] (zGs Ln I A) (fun r => ∃ x I1 A1, r = (some (.int x), zGs Ln I1 A1) ∧ Q x I1 A1)
  change (((v5 : Int32) ≤ v6 → ((zLoop (L_X8_copy_r44_144 Ln I v1 v2 v3 v4 v5  Q) (0, A)))) ∧ (¬ ((v5 : Int32) ≤ v6) → ((zin (((60 * v1) + v2) + v6) 240 = true) ∧ (zin v6 60 = true) ∧ (K107 ((v6 + 1), (zw A 68 ((v6).toNatClampNeg) (A 67 (((60 * v1) + v2) + v6).toNatClampNeg))))))) at h0
  obtain ⟨h2, h3⟩ := h0
  by_cases h1 : (v5 : Int32) ≤ v6
  · refine zS1 (fun r he => B_X8_copy_r44_107 Ln _ _ _ _ _ _ _ _  (fun _ => he) (fun n => absurd h1 n)) ?_
    have h2 := h2 h1
    refine zS1 (fun r he => B_X8_copy_r44_141 Ln _ _ _ _ _ _ _ _  he) ?_
    exact TL_X8_copy_r44_144  _ h2
  · refine zS1 (fun r he => B_X8_copy_r44_107 Ln _ _ _ _ _ _ _ _  (fun n => absurd n h1) (fun _ => he)) ?_
    have h3 := h3 h1
    obtain ⟨h4, h5⟩ := h3
    obtain ⟨h6, h7⟩ := h5
    refine zS1 (fun r he => B_X8_copy_r44_114 Ln _ _ _ _ _ _ _ _ h4 h6 he) ?_
    have q := hK107 _ h7
    exact q
def W_X8_copy_r44 (Ln : Nat) (I A : Nat → Nat → Int32) (v1 : Int32) (v2 : Int32) (v3 : Int32) (v4 : Int32) (v5 : Int32) (Q : Int32 → (Nat → Nat → Int32) → (Nat → Nat → Int32) → Prop) : Prop := ((W_X8_noSheet Ln I A v1 (fun (r1 : Int32) => (((r1 : Int32) ≠ 0 → (J_X8_copy_r44_14 Ln I A v1 v2 v3 v4 v5  Q)) ∧ (¬ ((r1 : Int32) ≠ 0) → ((W_X8_noSheet Ln I A v3 (fun (r4 : Int32) => (((r4 : Int32) = 0 → ((zin v1 4 = true) ∧ (((A 65 (v1).toNatClampNeg) : Int32) < 0 → (J_X8_copy_r44_38 Ln I A v1 v2 v3 v4 v5  Q)) ∧ (¬ (((A 65 (v1).toNatClampNeg) : Int32) < 0) → ((zin v3 4 = true) ∧ ((0 : Int32) ≤ (A 65 (v3).toNatClampNeg) → ((zin v1 4 = true) ∧ (zin v3 4 = true) ∧ (((A 66 (v1).toNatClampNeg) : Int32) = (A 66 (v3).toNatClampNeg) → ((zin v1 4 = true) ∧ (W_X8_isBeyond Ln I A v2 (Int32.toInt64 v5) (A 65 (v1).toNatClampNeg) (fun (r7 : Int32) => (((r7 : Int32) ≠ 0 → (J_X8_copy_r44_98 Ln I A v1 v2 v3 v4 v5  Q)) ∧ (¬ ((r7 : Int32) ≠ 0) → ((zin v3 4 = true) ∧ (W_X8_isBeyond Ln I A v4 (Int32.toInt64 v5) (A 65 (v3).toNatClampNeg) (fun (r10 : Int32) => (((r10 : Int32) = 0 → ((zLoop (L_X8_copy_r44_107 Ln I v1 v2 v3 v4 v5  Q) (0, A)))) ∧ (¬ ((r10 : Int32) = 0) → (J_X8_copy_r44_98 Ln I A v1 v2 v3 v4 v5  Q)))))))))))) ∧ (¬ (((A 66 (v1).toNatClampNeg) : Int32) = (A 66 (v3).toNatClampNeg)) → ((W_X8_failed_r44 Ln I A 2 (fun (r13 : Int32) (I14 : Nat → Nat → Int32) => (Q r13 I14 A))))))) ∧ (¬ ((0 : Int32) ≤ (A 65 (v3).toNatClampNeg)) → (J_X8_copy_r44_38 Ln I A v1 v2 v3 v4 v5  Q)))))) ∧ (¬ ((r4 : Int32) = 0) → (J_X8_copy_r44_14 Ln I A v1 v2 v3 v4 v5  Q)))))))))))
set_option maxRecDepth 100000 in
theorem T_X8_copy_r44 (Ln : Nat) (I A : Nat → Nat → Int32) (v1 : Int32) (v2 : Int32) (v3 : Int32) (v4 : Int32) (v5 : Int32) (Q : Int32 → (Nat → Nat → Int32) → (Nat → Nat → Int32) → Prop) (h0 : W_X8_copy_r44 Ln I A v1 v2 v3 v4 v5 Q) : zSem 154 0 0 0 [some (.ref 44), some (.int v1), some (.int v2), some (.int v3), some (.int v4), some (.int v5), none] [] (zGs Ln I A) (fun r => ∃ x I1 A1, r = (some (.int x), zGs Ln I1 A1) ∧ Q x I1 A1) := by
  unfold W_X8_copy_r44 at h0
  obtain ⟨_, h1, r1, rfl, h2⟩ := T_X8_noSheet Ln _ _ _ _ h0
  refine zS1 (fun r he => B_X8_copy_r44_0 Ln _ _ _ _ _ _ _  h1 rfl he) ?_
  obtain ⟨h4, h5⟩ := h2
  by_cases h3 : (r1 : Int32) ≠ 0
  · refine zS1 (fun r he => B_X8_copy_r44_4_s1 Ln _ _ _ _ _ _ _ _  (fun _ => he) (fun n => absurd h3 n)) ?_
    have h4 := h4 h3
    exact TJ_X8_copy_r44_14  h4
  · refine zS1 (fun r he => B_X8_copy_r44_4_s1 Ln _ _ _ _ _ _ _ _  (fun n => absurd n h3) (fun _ => he)) ?_
    have h5 := h5 h3
    obtain ⟨_, h6, r4, rfl, h7⟩ := T_X8_noSheet Ln _ _ _ _ h5
    refine zS1 (fun r he => B_X8_copy_r44_7 Ln _ _ _ _ _ _ _  h6 rfl he) ?_
    obtain ⟨h9, h10⟩ := h7
    by_cases h8 : (r4 : Int32) = 0
    · refine zS1 (fun r he => B_X8_copy_r44_11_s1 Ln _ _ _ _ _ _ _ _  (fun _ => he) (fun n => absurd h8 n)) ?_
      have h9 := h9 h8
      obtain ⟨h11, h12⟩ := h9
      obtain ⟨h14, h15⟩ := h12
      by_cases h13 : ((A 65 (v1).toNatClampNeg) : Int32) < 0
      · refine zS1 (fun r he => B_X8_copy_r44_20 Ln _ _ _ _ _ _ _ h11 (fun _ => he) (fun n => absurd h13 n)) ?_
        have h14 := h14 h13
        exact TJ_X8_copy_r44_38  h14
      · refine zS1 (fun r he => B_X8_copy_r44_20 Ln _ _ _ _ _ _ _ h11 (fun n => absurd n h13) (fun _ => he)) ?_
        have h15 := h15 h13
        obtain ⟨h16, h17⟩ := h15
        obtain ⟨h19, h20⟩ := h17
        by_cases h18 : (0 : Int32) ≤ (A 65 (v3).toNatClampNeg)
        · refine zS1 (fun r he => B_X8_copy_r44_29 Ln _ _ _ _ _ _ _ h16 (fun _ => he) (fun n => absurd h18 n)) ?_
          have h19 := h19 h18
          obtain ⟨h21, h22⟩ := h19
          obtain ⟨h23, h24⟩ := h22
          obtain ⟨h26, h27⟩ := h24
          by_cases h25 : ((A 66 (v1).toNatClampNeg) : Int32) = (A 66 (v3).toNatClampNeg)
          · refine zS1 (fun r he => B_X8_copy_r44_44 Ln _ _ _ _ _ _ _ h21 h23 (fun _ => he) (fun n => absurd h25 n)) ?_
            have h26 := h26 h25
            obtain ⟨h28, h29⟩ := h26
            obtain ⟨_, h30, r7, rfl, h31⟩ := T_X8_isBeyond Ln _ _ _ _ _ _ h29
            refine zS1 (fun r he => B_X8_copy_r44_65 Ln _ _ _ _ _ _ _ h28 h30 rfl he) ?_
            obtain ⟨h33, h34⟩ := h31
            by_cases h32 : (r7 : Int32) ≠ 0
            · refine zS1 (fun r he => B_X8_copy_r44_78_s1 Ln _ _ _ _ _ _ _ _  (fun _ => he) (fun n => absurd h32 n)) ?_
              have h33 := h33 h32
              exact TJ_X8_copy_r44_98  h33
            · refine zS1 (fun r he => B_X8_copy_r44_78_s1 Ln _ _ _ _ _ _ _ _  (fun n => absurd n h32) (fun _ => he)) ?_
              have h34 := h34 h32
              obtain ⟨h35, h36⟩ := h34
              obtain ⟨_, h37, r10, rfl, h38⟩ := T_X8_isBeyond Ln _ _ _ _ _ _ h36
              refine zS1 (fun r he => B_X8_copy_r44_81 Ln _ _ _ _ _ _ _ h35 h37 rfl he) ?_
              obtain ⟨h40, h41⟩ := h38
              by_cases h39 : (r10 : Int32) = 0
              · refine zS1 (fun r he => B_X8_copy_r44_95_s1 Ln _ _ _ _ _ _ _ _  (fun _ => he) (fun n => absurd h39 n)) ?_
                have h40 := h40 h39
                refine zS1 (fun r he => B_X8_copy_r44_104 Ln _ _ _ _ _ _ _  he) ?_
                exact TL_X8_copy_r44_107  _ h40
              · refine zS1 (fun r he => B_X8_copy_r44_95_s1 Ln _ _ _ _ _ _ _ _  (fun n => absurd n h39) (fun _ => he)) ?_
                have h41 := h41 h39
                exact TJ_X8_copy_r44_98  h41
          · refine zS1 (fun r he => B_X8_copy_r44_44 Ln _ _ _ _ _ _ _ h21 h23 (fun n => absurd n h25) (fun _ => he)) ?_
            have h27 := h27 h25
            obtain ⟨_, h42, r13, I14, rfl, h43⟩ := T_X8_failed_r44 Ln _ _ _ _ h27
            refine zS1 (fun r he => B_X8_copy_r44_59 Ln _ _ _ _ _ _ _  h42 rfl he) ?_
            exact ⟨_, B_X8_copy_r44_64_s1 Ln _ _ _ _ _ _ _ _ , _, _, _, rfl, h43⟩
        · refine zS1 (fun r he => B_X8_copy_r44_29 Ln _ _ _ _ _ _ _ h16 (fun n => absurd n h18) (fun _ => he)) ?_
          have h20 := h20 h18
          exact TJ_X8_copy_r44_38  h20
    · refine zS1 (fun r he => B_X8_copy_r44_11_s1 Ln _ _ _ _ _ _ _ _  (fun n => absurd n h8) (fun _ => he)) ?_
      have h10 := h10 h8
      exact TJ_X8_copy_r44_14  h10
def J_X8_tell_r44_51 (Ln : Nat) (I A : Nat → Nat → Int32) (v1 : Int32) (v2 : Int32) (Q : Int32 → (Nat → Nat → Int32) → Prop) : Prop := ((zin v1 6 = true) ∧ ((v2 : Int32) ≠ 0 → (∀ x3 : Int32, x3 = A 47 (v1).toNatClampNeg → (((v2 : Int32) ≠ 1 → ((Q ((2 * x3) + 100) I))) ∧ (¬ ((v2 : Int32) ≠ 1) → ((Q (x3 + 100) I)))))) ∧ (¬ ((v2 : Int32) ≠ 0) → (∀ x4 : Int32, x4 = A 47 (v1).toNatClampNeg → ((Q x4 I)))))
set_option maxRecDepth 100000 in
theorem TJ_X8_tell_r44_51 {Ln : Nat} {I A : Nat → Nat → Int32} {v1 : Int32} {v2 : Int32} {Q : Int32 → (Nat → Nat → Int32) → Prop} (h0 : J_X8_tell_r44_51 Ln I A v1 v2   Q) : zSem 156 51 0 0 [some (.ref 44), some (.int v1), some (.int v2), none] [] (zGs Ln I A) (fun r => ∃ x I1, r = (some (.int x), zGs Ln I1 A) ∧ Q x I1) := by
  unfold J_X8_tell_r44_51 at h0
  obtain ⟨h1, h2⟩ := h0
  obtain ⟨h4, h5⟩ := h2
  by_cases h3 : (v2 : Int32) ≠ 0
  · refine zS1 (fun r he => B_X8_tell_r44_51 Ln _ _ _ _ h1 (fun _ => he) (fun n => absurd h3 n)) ?_
    have h4 := h4 h3
    have h6 := h4 _ rfl
    obtain ⟨h8, h9⟩ := h6
    by_cases h7 : (v2 : Int32) ≠ 1
    · refine zS1 (fun r he => B_X8_tell_r44_66 Ln _ _ _ _ _  (fun _ => he) (fun n => absurd h7 n)) ?_
      have h8 := h8 h7
      refine zS1 (fun r he => B_X8_tell_r44_78 Ln _ _ _ _ _  he) ?_
      exact ⟨_, B_X8_tell_r44_84_s1 Ln _ _ _ _ _ _ , _, _, rfl, h8⟩
    · refine zS1 (fun r he => B_X8_tell_r44_66 Ln _ _ _ _ _  (fun n => absurd n h7) (fun _ => he)) ?_
      have h9 := h9 h7
      refine zS1 (fun r he => B_X8_tell_r44_71 Ln _ _ _ _ _  he) ?_
      exact ⟨_, B_X8_tell_r44_84_s1 Ln _ _ _ _ _ _ , _, _, rfl, h9⟩
  · refine zS1 (fun r he => B_X8_tell_r44_51 Ln _ _ _ _ h1 (fun n => absurd n h3) (fun _ => he)) ?_
    have h5 := h5 h3
    have h10 := h5 _ rfl
    refine zS1 (fun r he => B_X8_tell_r44_62 Ln _ _ _ _ _  he) ?_
    exact ⟨_, B_X8_tell_r44_84_s1 Ln _ _ _ _ _ _ , _, _, rfl, h10⟩
def J_X8_tell_r44_36 (Ln : Nat) (I A : Nat → Nat → Int32) (v1 : Int32) (v2 : Int32) (Q : Int32 → (Nat → Nat → Int32) → Prop) : Prop := ((W_X8_traced_r44 Ln I A 1 (fun (I2 : Nat → Nat → Int32) => (((v2 : Int32) ≠ 2 → (J_X8_tell_r44_51 Ln I2 A v1 v2  Q)) ∧ (¬ ((v2 : Int32) ≠ 2) → ((W_X8_traced_r44 Ln I2 A 1 (fun (I5 : Nat → Nat → Int32) => (J_X8_tell_r44_51 Ln I5 A v1 v2  Q)))))))))
set_option maxRecDepth 100000 in
theorem TJ_X8_tell_r44_36 {Ln : Nat} {I A : Nat → Nat → Int32} {v1 : Int32} {v2 : Int32} {Q : Int32 → (Nat → Nat → Int32) → Prop} (h0 : J_X8_tell_r44_36 Ln I A v1 v2   Q) : zSem 156 36 0 0 [some (.ref 44), some (.int v1), some (.int v2), none] [] (zGs Ln I A) (fun r => ∃ x I1, r = (some (.int x), zGs Ln I1 A) ∧ Q x I1) := by
  unfold J_X8_tell_r44_36 at h0
  obtain ⟨_, h1, I2, rfl, h2⟩ := T_X8_traced_r44 Ln _ _ _ _ h0
  refine zS1 (fun r he => B_X8_tell_r44_36 Ln _ _ _ _  h1 rfl he) ?_
  obtain ⟨h4, h5⟩ := h2
  by_cases h3 : (v2 : Int32) ≠ 2
  · refine zS1 (fun r he => B_X8_tell_r44_41 Ln _ _ _ _  (fun _ => he) (fun n => absurd h3 n)) ?_
    have h4 := h4 h3
    exact TJ_X8_tell_r44_51  h4
  · refine zS1 (fun r he => B_X8_tell_r44_41 Ln _ _ _ _  (fun n => absurd n h3) (fun _ => he)) ?_
    have h5 := h5 h3
    obtain ⟨_, h6, I5, rfl, h7⟩ := T_X8_traced_r44 Ln _ _ _ _ h5
    refine zS1 (fun r he => B_X8_tell_r44_46 Ln _ _ _ _  h6 rfl he) ?_
    exact TJ_X8_tell_r44_51  h7
def J_X8_tell_r44_27 (Ln : Nat) (I A : Nat → Nat → Int32) (v1 : Int32) (v2 : Int32) (Q : Int32 → (Nat → Nat → Int32) → Prop) : Prop := (((v2 : Int32) ≤ 0 → (J_X8_tell_r44_36 Ln I A v1 v2  Q)) ∧ (¬ ((v2 : Int32) ≤ 0) → ((W_X8_traced_r44 Ln I A 2 (fun (I6 : Nat → Nat → Int32) => (J_X8_tell_r44_36 Ln I6 A v1 v2  Q))))))
set_option maxRecDepth 100000 in
theorem TJ_X8_tell_r44_27 {Ln : Nat} {I A : Nat → Nat → Int32} {v1 : Int32} {v2 : Int32} {Q : Int32 → (Nat → Nat → Int32) → Prop} (h0 : J_X8_tell_r44_27 Ln I A v1 v2   Q) : zSem 156 27 0 0 [some (.ref 44), some (.int v1), some (.int v2), none] [] (zGs Ln I A) (fun r => ∃ x I1, r = (some (.int x), zGs Ln I1 A) ∧ Q x I1) := by
  unfold J_X8_tell_r44_27 at h0
  obtain ⟨h2, h3⟩ := h0
  by_cases h1 : (v2 : Int32) ≤ 0
  · refine zS1 (fun r he => B_X8_tell_r44_27 Ln _ _ _ _  (fun _ => he) (fun n => absurd h1 n)) ?_
    have h2 := h2 h1
    exact TJ_X8_tell_r44_36  h2
  · refine zS1 (fun r he => B_X8_tell_r44_27 Ln _ _ _ _  (fun n => absurd n h1) (fun _ => he)) ?_
    have h3 := h3 h1
    obtain ⟨_, h4, I6, rfl, h5⟩ := T_X8_traced_r44 Ln _ _ _ _ h3
    refine zS1 (fun r he => B_X8_tell_r44_31 Ln _ _ _ _  h4 rfl he) ?_
    exact TJ_X8_tell_r44_36  h5
def W_X8_tell_r44 (Ln : Nat) (I A : Nat → Nat → Int32) (v1 : Int32) (Q : Int32 → (Nat → Nat → Int32) → Prop) : Prop := ((W_X8_noShade_r44 Ln I A v1 (fun (r1 : Int32) => (((r1 : Int32) = 0 → ((zin v1 6 = true) ∧ (((A 45 (v1).toNatClampNeg) : Int32) ≠ 2 → (J_X8_tell_r44_27 Ln I A v1 (A 45 (v1).toNatClampNeg)  Q)) ∧ (¬ (((A 45 (v1).toNatClampNeg) : Int32) ≠ 2) → (∀ x7 : Int32, x7 = A 45 (v1).toNatClampNeg → ((W_X8_traced_r44 Ln I A 3 (fun (I8 : Nat → Nat → Int32) => (J_X8_tell_r44_27 Ln I8 A v1 x7  Q)))))))) ∧ (¬ ((r1 : Int32) = 0) → (Q (-1) I))))))
set_option maxRecDepth 100000 in
theorem T_X8_tell_r44 (Ln : Nat) (I A : Nat → Nat → Int32) (v1 : Int32) (Q : Int32 → (Nat → Nat → Int32) → Prop) (h0 : W_X8_tell_r44 Ln I A v1 Q) : zSem 156 0 0 0 [some (.ref 44), some (.int v1), none, none] [] (zGs Ln I A) (fun r => ∃ x I1, r = (some (.int x), zGs Ln I1 A) ∧ Q x I1) := by
  unfold W_X8_tell_r44 at h0
  obtain ⟨_, h1, r1, rfl, h2⟩ := T_X8_noShade_r44 Ln _ _ _ _ h0
  refine zS1 (fun r he => B_X8_tell_r44_0 Ln _ _ _  h1 rfl he) ?_
  obtain ⟨h4, h5⟩ := h2
  by_cases h3 : (r1 : Int32) = 0
  · refine zS1 (fun r he => B_X8_tell_r44_5_s1 Ln _ _ _ _  (fun _ => he) (fun n => absurd h3 n)) ?_
    have h4 := h4 h3
    obtain ⟨h6, h7⟩ := h4
    obtain ⟨h9, h10⟩ := h7
    by_cases h8 : ((A 45 (v1).toNatClampNeg) : Int32) ≠ 2
    · refine zS1 (fun r he => B_X8_tell_r44_10 Ln _ _ _ h6 (fun _ => he) (fun n => absurd h8 n)) ?_
      have h9 := h9 h8
      exact TJ_X8_tell_r44_27  h9
    · refine zS1 (fun r he => B_X8_tell_r44_10 Ln _ _ _ h6 (fun n => absurd n h8) (fun _ => he)) ?_
      have h10 := h10 h8
      have h11 := h10 _ rfl
      obtain ⟨_, h12, I8, rfl, h13⟩ := T_X8_traced_r44 Ln _ _ _ _ h11
      refine zS1 (fun r he => B_X8_tell_r44_22 Ln _ _ _ _  h12 rfl he) ?_
      exact TJ_X8_tell_r44_27  h13
  · refine zS1 (fun r he => B_X8_tell_r44_5_s1 Ln _ _ _ _  (fun n => absurd n h3) (fun _ => he)) ?_
    have h5 := h5 h3
    exact ⟨_, B_X8_tell_r44_8 Ln _ _ _ , _, _, rfl, h5⟩
def J_X8_hail_r44_26_s2 (Ln : Nat) (I A : Nat → Nat → Int32) (v1 : Int32) (s1 : Int32) (Q : Int32 → (Nat → Nat → Int32) → Prop) : Prop := ((W_X8_traced_r44 Ln I A s1 (fun (I2 : Nat → Nat → Int32) => ((zin v1 6 = true) ∧ (((A 45 (v1).toNatClampNeg) : Int32) ≠ 2 → ((Q v1 I2))) ∧ (¬ (((A 45 (v1).toNatClampNeg) : Int32) ≠ 2) → ((Q 60 I2)))))))
set_option maxRecDepth 100000 in
theorem TJ_X8_hail_r44_26_s2 {Ln : Nat} {I A : Nat → Nat → Int32} {v1 : Int32} {s1 : Int32} {Q : Int32 → (Nat → Nat → Int32) → Prop} (h0 : J_X8_hail_r44_26_s2 Ln I A v1 s1  Q) : zSem 157 26 0 0 [some (.ref 44), some (.int v1)] [.int s1, .ref 44] (zGs Ln I A) (fun r => ∃ x I1, r = (some (.int x), zGs Ln I1 A) ∧ Q x I1) := by
  unfold J_X8_hail_r44_26_s2 at h0
  obtain ⟨_, h1, I2, rfl, h2⟩ := T_X8_traced_r44 Ln _ _ _ _ h0
  refine zS1 (fun r he => B_X8_hail_r44_26_s2 Ln _ _ _ _  h1 rfl he) ?_
  obtain ⟨h3, h4⟩ := h2
  obtain ⟨h6, h7⟩ := h4
  by_cases h5 : ((A 45 (v1).toNatClampNeg) : Int32) ≠ 2
  · refine zS1 (fun r he => B_X8_hail_r44_29 Ln _ _ _ h3 (fun _ => he) (fun n => absurd h5 n)) ?_
    have h6 := h6 h5
    refine zS1 (fun r he => B_X8_hail_r44_44 Ln _ _ _  he) ?_
    exact ⟨_, B_X8_hail_r44_45_s1 Ln _ _ _ _ , _, _, rfl, h6⟩
  · refine zS1 (fun r he => B_X8_hail_r44_29 Ln _ _ _ h3 (fun n => absurd n h5) (fun _ => he)) ?_
    have h7 := h7 h5
    refine zS1 (fun r he => B_X8_hail_r44_39 Ln _ _ _  he) ?_
    exact ⟨_, B_X8_hail_r44_45_s1 Ln _ _ _ _ , _, _, rfl, h7⟩
def W_X8_hail_r44 (Ln : Nat) (I A : Nat → Nat → Int32) (v1 : Int32) (Q : Int32 → (Nat → Nat → Int32) → Prop) : Prop := ((W_X8_noShade_r44 Ln I A v1 (fun (r1 : Int32) => (((r1 : Int32) = 0 → ((zin v1 6 = true) ∧ (((A 45 (v1).toNatClampNeg) : Int32) ≠ 2 → ((J_X8_hail_r44_26_s2 Ln I A v1 4  Q))) ∧ (¬ (((A 45 (v1).toNatClampNeg) : Int32) ≠ 2) → ((J_X8_hail_r44_26_s2 Ln I A v1 5  Q))))) ∧ (¬ ((r1 : Int32) = 0) → (Q (-1) I))))))
set_option maxRecDepth 100000 in
theorem T_X8_hail_r44 (Ln : Nat) (I A : Nat → Nat → Int32) (v1 : Int32) (Q : Int32 → (Nat → Nat → Int32) → Prop) (h0 : W_X8_hail_r44 Ln I A v1 Q) : zSem 157 0 0 0 [some (.ref 44), some (.int v1)] [] (zGs Ln I A) (fun r => ∃ x I1, r = (some (.int x), zGs Ln I1 A) ∧ Q x I1) := by
  unfold W_X8_hail_r44 at h0
  obtain ⟨_, h1, r1, rfl, h2⟩ := T_X8_noShade_r44 Ln _ _ _ _ h0
  refine zS1 (fun r he => B_X8_hail_r44_0 Ln _ _ _  h1 rfl he) ?_
  obtain ⟨h4, h5⟩ := h2
  by_cases h3 : (r1 : Int32) = 0
  · refine zS1 (fun r he => B_X8_hail_r44_5_s1 Ln _ _ _ _  (fun _ => he) (fun n => absurd h3 n)) ?_
    have h4 := h4 h3
    obtain ⟨h6, h7⟩ := h4
    obtain ⟨h9, h10⟩ := h7
    by_cases h8 : ((A 45 (v1).toNatClampNeg) : Int32) ≠ 2
    · refine zS1 (fun r he => B_X8_hail_r44_10 Ln _ _ _ h6 (fun _ => he) (fun n => absurd h8 n)) ?_
      have h9 := h9 h8
      refine zS1 (fun r he => B_X8_hail_r44_25_s1 Ln _ _ _  he) ?_
      exact TJ_X8_hail_r44_26_s2  h9
    · refine zS1 (fun r he => B_X8_hail_r44_10 Ln _ _ _ h6 (fun n => absurd n h8) (fun _ => he)) ?_
      have h10 := h10 h8
      refine zS1 (fun r he => B_X8_hail_r44_21_s1 Ln _ _ _  he) ?_
      exact TJ_X8_hail_r44_26_s2  h10
  · refine zS1 (fun r he => B_X8_hail_r44_5_s1 Ln _ _ _ _  (fun n => absurd n h3) (fun _ => he)) ?_
    have h5 := h5 h3
    exact ⟨_, B_X8_hail_r44_8 Ln _ _ _ , _, _, rfl, h5⟩
def W_X8_as_r44 (Ln : Nat) (I A : Nat → Nat → Int32) (v1 : Int32) (v2 : Int32) (Q : Int32 → (Nat → Nat → Int32) → Prop) : Prop := ((W_X8_noShade_r44 Ln I A v1 (fun (r1 : Int32) => (((r1 : Int32) = 0 → ((W_X8_in Ln I A (Int32.toInt64 v2) 0 2 (fun (r2 : Int32) => (((r2 : Int32) ≠ 0 → ((zin v1 6 = true) ∧ (((A 45 (v1).toNatClampNeg) : Int32) < v2 → ((W_X8_failed_r44 Ln I A 2 (fun (r3 : Int32) (I4 : Nat → Nat → Int32) => (Q r3 I4))))) ∧ (¬ (((A 45 (v1).toNatClampNeg) : Int32) < v2) → ((W_X8_refused_r44 Ln I A 1 (fun (r5 : Int32) (I6 : Nat → Nat → Int32) => ((Q r5 I6)))))))) ∧ (¬ ((r2 : Int32) ≠ 0) → ((W_X8_refused_r44 Ln I A (-2) (fun (r7 : Int32) (I8 : Nat → Nat → Int32) => (Q r7 I8)))))))))) ∧ (¬ ((r1 : Int32) = 0) → ((W_X8_refused_r44 Ln I A (-1) (fun (r9 : Int32) (I10 : Nat → Nat → Int32) => (Q r9 I10)))))))))
set_option maxRecDepth 100000 in
theorem T_X8_as_r44 (Ln : Nat) (I A : Nat → Nat → Int32) (v1 : Int32) (v2 : Int32) (Q : Int32 → (Nat → Nat → Int32) → Prop) (h0 : W_X8_as_r44 Ln I A v1 v2 Q) : zSem 158 0 0 0 [some (.ref 44), some (.int v1), some (.int v2)] [] (zGs Ln I A) (fun r => ∃ x I1, r = (some (.int x), zGs Ln I1 A) ∧ Q x I1) := by
  unfold W_X8_as_r44 at h0
  obtain ⟨_, h1, r1, rfl, h2⟩ := T_X8_noShade_r44 Ln _ _ _ _ h0
  refine zS1 (fun r he => B_X8_as_r44_0 Ln _ _ _ _  h1 rfl he) ?_
  obtain ⟨h4, h5⟩ := h2
  by_cases h3 : (r1 : Int32) = 0
  · refine zS1 (fun r he => B_X8_as_r44_5_s1 Ln _ _ _ _ _  (fun _ => he) (fun n => absurd h3 n)) ?_
    have h4 := h4 h3
    obtain ⟨_, h6, r2, rfl, h7⟩ := T_X8_in Ln _ _ _ _ _ _ h4
    refine zS1 (fun r he => B_X8_as_r44_14 Ln _ _ _ _  h6 rfl he) ?_
    obtain ⟨h9, h10⟩ := h7
    by_cases h8 : (r2 : Int32) ≠ 0
    · refine zS1 (fun r he => B_X8_as_r44_23_s1 Ln _ _ _ _ _  (fun _ => he) (fun n => absurd h8 n)) ?_
      have h9 := h9 h8
      obtain ⟨h11, h12⟩ := h9
      obtain ⟨h14, h15⟩ := h12
      by_cases h13 : ((A 45 (v1).toNatClampNeg) : Int32) < v2
      · refine zS1 (fun r he => B_X8_as_r44_33 Ln _ _ _ _ h11 (fun _ => he) (fun n => absurd h13 n)) ?_
        have h14 := h14 h13
        obtain ⟨_, h16, r3, I4, rfl, h17⟩ := T_X8_failed_r44 Ln _ _ _ _ h14
        refine zS1 (fun r he => B_X8_as_r44_51 Ln _ _ _ _  h16 rfl he) ?_
        exact ⟨_, B_X8_as_r44_56_s1 Ln _ _ _ _ _ , _, _, rfl, h17⟩
      · refine zS1 (fun r he => B_X8_as_r44_33 Ln _ _ _ _ h11 (fun n => absurd n h13) (fun _ => he)) ?_
        have h15 := h15 h13
        obtain ⟨_, h18, r5, I6, rfl, h19⟩ := T_X8_refused_r44 Ln _ _ _ _ h15
        refine zS1 (fun r he => B_X8_as_r44_43 Ln _ _ _ _  h18 rfl he) ?_
        refine zS1 (fun r he => B_X8_as_r44_48_s1 Ln _ _ _ _ _  he) ?_
        exact ⟨_, B_X8_as_r44_56_s1 Ln _ _ _ _ _ , _, _, rfl, h19⟩
    · refine zS1 (fun r he => B_X8_as_r44_23_s1 Ln _ _ _ _ _  (fun n => absurd n h8) (fun _ => he)) ?_
      have h10 := h10 h8
      obtain ⟨_, h20, r7, I8, rfl, h21⟩ := T_X8_refused_r44 Ln _ _ _ _ h10
      refine zS1 (fun r he => B_X8_as_r44_26 Ln _ _ _ _  h20 rfl he) ?_
      exact ⟨_, B_X8_as_r44_32_s1 Ln _ _ _ _ _ , _, _, rfl, h21⟩
  · refine zS1 (fun r he => B_X8_as_r44_5_s1 Ln _ _ _ _ _  (fun n => absurd n h3) (fun _ => he)) ?_
    have h5 := h5 h3
    obtain ⟨_, h22, r9, I10, rfl, h23⟩ := T_X8_refused_r44 Ln _ _ _ _ h5
    refine zS1 (fun r he => B_X8_as_r44_8 Ln _ _ _ _  h22 rfl he) ?_
    exact ⟨_, B_X8_as_r44_13_s1 Ln _ _ _ _ _ , _, _, rfl, h23⟩
def W_X7_lose_r1_c0 (Ln : Nat) (I A : Nat → Nat → Int32) (Q : Int32 → (Nat → Nat → Int32) → Prop) : Prop := ((W_X7_isSheet Ln I A 0 (fun (r1 : Int32) => (((r1 : Int32) ≠ 0 → ((((I 3 1) : Int32) = 0 → ((Q 0 (zp I 3 1 0)))) ∧ (¬ (((I 3 1) : Int32) = 0) → ((Q 1 (zp I 3 1 0)))))) ∧ (¬ ((r1 : Int32) ≠ 0) → (Q (-1) I))))))
set_option maxRecDepth 100000 in
theorem T_X7_lose_r1_c0 (Ln : Nat) (I A : Nat → Nat → Int32) (Q : Int32 → (Nat → Nat → Int32) → Prop) (h0 : W_X7_lose_r1_c0 Ln I A Q) : zSem 67 0 0 0 [some (.ref 1), some (.int 0), none] [] (zGs Ln I A) (fun r => ∃ x I1, r = (some (.int x), zGs Ln I1 A) ∧ Q x I1) := by
  unfold W_X7_lose_r1_c0 at h0
  obtain ⟨_, h1, r1, rfl, h2⟩ := T_X7_isSheet Ln _ _ _ _ h0
  refine zS1 (fun r he => B_X7_lose_r1_c0_0 Ln _ _   h1 rfl he) ?_
  obtain ⟨h4, h5⟩ := h2
  by_cases h3 : (r1 : Int32) ≠ 0
  · refine zS1 (fun r he => B_X7_lose_r1_c0_4_s1 Ln _ _ _  (fun _ => he) (fun n => absurd h3 n)) ?_
    have h4 := h4 h3
    obtain ⟨h7, h8⟩ := h4
    by_cases h6 : ((I 3 1) : Int32) = 0
    · refine zS1 (fun r he => B_X7_lose_r1_c0_9 Ln _ _   (fun _ => he) (fun n => absurd h6 n)) ?_
      have h7 := h7 h6
      refine zS1 (fun r he => B_X7_lose_r1_c0_25 Ln _ _   he) ?_
      exact ⟨_, B_X7_lose_r1_c0_26_s1 Ln _ _ _ , _, _, rfl, h7⟩
    · refine zS1 (fun r he => B_X7_lose_r1_c0_9 Ln _ _   (fun n => absurd n h6) (fun _ => he)) ?_
      have h8 := h8 h6
      refine zS1 (fun r he => B_X7_lose_r1_c0_21 Ln _ _   he) ?_
      exact ⟨_, B_X7_lose_r1_c0_26_s1 Ln _ _ _ , _, _, rfl, h8⟩
  · refine zS1 (fun r he => B_X7_lose_r1_c0_4_s1 Ln _ _ _  (fun n => absurd n h3) (fun _ => he)) ?_
    have h5 := h5 h3
    exact ⟨_, B_X7_lose_r1_c0_7 Ln _ _  , _, _, rfl, h5⟩
def W_X7_lose_r1_c1 (Ln : Nat) (I A : Nat → Nat → Int32) (Q : Int32 → (Nat → Nat → Int32) → Prop) : Prop := ((W_X7_isSheet Ln I A 1 (fun (r1 : Int32) => (((r1 : Int32) ≠ 0 → ((((I 5 1) : Int32) = 0 → ((Q 0 (zp I 5 1 0)))) ∧ (¬ (((I 5 1) : Int32) = 0) → ((Q 1 (zp I 5 1 0)))))) ∧ (¬ ((r1 : Int32) ≠ 0) → (Q (-1) I))))))
set_option maxRecDepth 100000 in
theorem T_X7_lose_r1_c1 (Ln : Nat) (I A : Nat → Nat → Int32) (Q : Int32 → (Nat → Nat → Int32) → Prop) (h0 : W_X7_lose_r1_c1 Ln I A Q) : zSem 67 0 0 0 [some (.ref 1), some (.int 1), none] [] (zGs Ln I A) (fun r => ∃ x I1, r = (some (.int x), zGs Ln I1 A) ∧ Q x I1) := by
  unfold W_X7_lose_r1_c1 at h0
  obtain ⟨_, h1, r1, rfl, h2⟩ := T_X7_isSheet Ln _ _ _ _ h0
  refine zS1 (fun r he => B_X7_lose_r1_c1_0 Ln _ _   h1 rfl he) ?_
  obtain ⟨h4, h5⟩ := h2
  by_cases h3 : (r1 : Int32) ≠ 0
  · refine zS1 (fun r he => B_X7_lose_r1_c1_4_s1 Ln _ _ _  (fun _ => he) (fun n => absurd h3 n)) ?_
    have h4 := h4 h3
    obtain ⟨h7, h8⟩ := h4
    by_cases h6 : ((I 5 1) : Int32) = 0
    · refine zS1 (fun r he => B_X7_lose_r1_c1_9 Ln _ _   (fun _ => he) (fun n => absurd h6 n)) ?_
      have h7 := h7 h6
      refine zS1 (fun r he => B_X7_lose_r1_c1_25 Ln _ _   he) ?_
      exact ⟨_, B_X7_lose_r1_c1_26_s1 Ln _ _ _ , _, _, rfl, h7⟩
    · refine zS1 (fun r he => B_X7_lose_r1_c1_9 Ln _ _   (fun n => absurd n h6) (fun _ => he)) ?_
      have h8 := h8 h6
      refine zS1 (fun r he => B_X7_lose_r1_c1_21 Ln _ _   he) ?_
      exact ⟨_, B_X7_lose_r1_c1_26_s1 Ln _ _ _ , _, _, rfl, h8⟩
  · refine zS1 (fun r he => B_X7_lose_r1_c1_4_s1 Ln _ _ _  (fun n => absurd n h3) (fun _ => he)) ?_
    have h5 := h5 h3
    exact ⟨_, B_X7_lose_r1_c1_7 Ln _ _  , _, _, rfl, h5⟩
def W_X7_lose_r1_c2 (Ln : Nat) (I A : Nat → Nat → Int32) (Q : Int32 → (Nat → Nat → Int32) → Prop) : Prop := ((W_X7_isSheet Ln I A 2 (fun (r1 : Int32) => (((r1 : Int32) ≠ 0 → ((((I 7 1) : Int32) = 0 → ((Q 0 (zp I 7 1 0)))) ∧ (¬ (((I 7 1) : Int32) = 0) → ((Q 1 (zp I 7 1 0)))))) ∧ (¬ ((r1 : Int32) ≠ 0) → (Q (-1) I))))))
set_option maxRecDepth 100000 in
theorem T_X7_lose_r1_c2 (Ln : Nat) (I A : Nat → Nat → Int32) (Q : Int32 → (Nat → Nat → Int32) → Prop) (h0 : W_X7_lose_r1_c2 Ln I A Q) : zSem 67 0 0 0 [some (.ref 1), some (.int 2), none] [] (zGs Ln I A) (fun r => ∃ x I1, r = (some (.int x), zGs Ln I1 A) ∧ Q x I1) := by
  unfold W_X7_lose_r1_c2 at h0
  obtain ⟨_, h1, r1, rfl, h2⟩ := T_X7_isSheet Ln _ _ _ _ h0
  refine zS1 (fun r he => B_X7_lose_r1_c2_0 Ln _ _   h1 rfl he) ?_
  obtain ⟨h4, h5⟩ := h2
  by_cases h3 : (r1 : Int32) ≠ 0
  · refine zS1 (fun r he => B_X7_lose_r1_c2_4_s1 Ln _ _ _  (fun _ => he) (fun n => absurd h3 n)) ?_
    have h4 := h4 h3
    obtain ⟨h7, h8⟩ := h4
    by_cases h6 : ((I 7 1) : Int32) = 0
    · refine zS1 (fun r he => B_X7_lose_r1_c2_9 Ln _ _   (fun _ => he) (fun n => absurd h6 n)) ?_
      have h7 := h7 h6
      refine zS1 (fun r he => B_X7_lose_r1_c2_25 Ln _ _   he) ?_
      exact ⟨_, B_X7_lose_r1_c2_26_s1 Ln _ _ _ , _, _, rfl, h7⟩
    · refine zS1 (fun r he => B_X7_lose_r1_c2_9 Ln _ _   (fun n => absurd n h6) (fun _ => he)) ?_
      have h8 := h8 h6
      refine zS1 (fun r he => B_X7_lose_r1_c2_21 Ln _ _   he) ?_
      exact ⟨_, B_X7_lose_r1_c2_26_s1 Ln _ _ _ , _, _, rfl, h8⟩
  · refine zS1 (fun r he => B_X7_lose_r1_c2_4_s1 Ln _ _ _  (fun n => absurd n h3) (fun _ => he)) ?_
    have h5 := h5 h3
    exact ⟨_, B_X7_lose_r1_c2_7 Ln _ _  , _, _, rfl, h5⟩
