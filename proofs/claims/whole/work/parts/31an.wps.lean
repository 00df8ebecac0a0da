/-! what a method asks, by program (wip/whole/gen_wp.py) -/
def J_X7_copy_r1_c3_c0_14 (Ln : Nat) (I A : Nat → Nat → Int32) (v2 : Int32) (v4 : Int32) (v5 : Int32) (Q : Int32 → (Nat → Nat → Int32) → (Nat → Nat → Int32) → Prop) : Prop := ((W_X7_faultless_r1 Ln I A (-1) (fun (r2 : Int32) (I3 : Nat → Nat → Int32) => (Q r2 I3 A))))
set_option maxRecDepth 100000 in
theorem TJ_X7_copy_r1_c3_c0_14 {Ln : Nat} {I A : Nat → Nat → Int32} {v2 : Int32} {v4 : Int32} {v5 : Int32} {Q : Int32 → (Nat → Nat → Int32) → (Nat → Nat → Int32) → Prop} (h0 : J_X7_copy_r1_c3_c0_14 Ln I A v2 v4 v5   Q) : zSem 70 14 0 0 [some (.ref 1), some (.int 3), some (.int v2), some (.int 0), some (.int v4), some (.int v5), none, none] [] (zGs Ln I A) (fun r => ∃ x I1 A1, r = (some (.int x), zGs Ln I1 A1) ∧ Q x I1 A1) := by
  unfold J_X7_copy_r1_c3_c0_14 at h0
  obtain ⟨_, h1, r2, I3, rfl, h2⟩ := T_X7_faultless_r1 Ln _ _ _ _ h0
  refine zS1 (fun r he => B_X7_copy_r1_c3_c0_14 Ln _ _ _ _ _  h1 rfl he) ?_
  exact ⟨_, B_X7_copy_r1_c3_c0_19_s1 Ln _ _ _ _ _ _ , _, _, _, rfl, h2⟩
def J_X7_copy_r1_c3_c0_52 (Ln : Nat) (I A : Nat → Nat → Int32) (v2 : Int32) (v4 : Int32) (v5 : Int32) (Q : Int32 → (Nat → Nat → Int32) → (Nat → Nat → Int32) → Prop) : Prop := ((W_X7_faulted_r1 Ln I A 1 (fun (r5 : Int32) (I6 : Nat → Nat → Int32) => (Q r5 I6 A))))
set_option maxRecDepth 100000 in
theorem TJ_X7_copy_r1_c3_c0_52 {Ln : Nat} {I A : Nat → Nat → Int32} {v2 : Int32} {v4 : Int32} {v5 : Int32} {Q : Int32 → (Nat → Nat → Int32) → (Nat → Nat → Int32) → Prop} (h0 : J_X7_copy_r1_c3_c0_52 Ln I A v2 v4 v5   Q) : zSem 70 52 0 0 [some (.ref 1), some (.int 3), some (.int v2), some (.int 0), some (.int v4), some (.int v5), some (.ref 9), some (.ref 3)] [] (zGs Ln I A) (fun r => ∃ x I1 A1, r = (some (.int x), zGs Ln I1 A1) ∧ Q x I1 A1) := by
  unfold J_X7_copy_r1_c3_c0_52 at h0
  obtain ⟨_, h1, r5, I6, rfl, h2⟩ := T_X7_faulted_r1 Ln _ _ _ _ h0
  refine zS1 (fun r he => B_X7_copy_r1_c3_c0_52_l9_3 Ln _ _ _ _ _  h1 rfl he) ?_
  exact ⟨_, B_X7_copy_r1_c3_c0_57_s1_l9_3 Ln _ _ _ _ _ _ , _, _, _, rfl, h2⟩
def J_X7_copy_r1_c3_c0_105 (Ln : Nat) (I A : Nat → Nat → Int32) (v2 : Int32) (v4 : Int32) (v5 : Int32) (Q : Int32 → (Nat → Nat → Int32) → (Nat → Nat → Int32) → Prop) : Prop := ((W_X7_faulted_r1 Ln I A 3 (fun (r7 : Int32) (I8 : Nat → Nat → Int32) => (Q r7 I8 A))))
set_option maxRecDepth 100000 in
theorem TJ_X7_copy_r1_c3_c0_105 {Ln : Nat} {I A : Nat → Nat → Int32} {v2 : Int32} {v4 : Int32} {v5 : Int32} {Q : Int32 → (Nat → Nat → Int32) → (Nat → Nat → Int32) → Prop} (h0 : J_X7_copy_r1_c3_c0_105 Ln I A v2 v4 v5   Q) : zSem 70 105 0 0 [some (.ref 1), some (.int 3), some (.int v2), some (.int 0), some (.int v4), some (.int v5), some (.ref 9), some (.ref 3)] [] (zGs Ln I A) (fun r => ∃ x I1 A1, r = (some (.int x), zGs Ln I1 A1) ∧ Q x I1 A1) := by
  unfold J_X7_copy_r1_c3_c0_105 at h0
  obtain ⟨_, h1, r7, I8, rfl, h2⟩ := T_X7_faulted_r1 Ln _ _ _ _ h0
  refine zS1 (fun r he => B_X7_copy_r1_c3_c0_105_l9_3 Ln _ _ _ _ _  h1 rfl he) ?_
  exact ⟨_, B_X7_copy_r1_c3_c0_110_s1_l9_3 Ln _ _ _ _ _ _ , _, _, _, rfl, h2⟩
def W_X7_copy_r1_c3_c0 (Ln : Nat) (I A : Nat → Nat → Int32) (v2 : Int32) (v4 : Int32) (v5 : Int32) (Q : Int32 → (Nat → Nat → Int32) → (Nat → Nat → Int32) → Prop) : Prop := ((W_X7_isSheet Ln I A 3 (fun (r1 : Int32) => (((r1 : Int32) = 0 → (J_X7_copy_r1_c3_c0_14 Ln I A v2 v4 v5  Q)) ∧ (¬ ((r1 : Int32) = 0) → ((W_X7_isSheet Ln I A 0 (fun (r4 : Int32) => (((r4 : Int32) ≠ 0 → ((((I 9 1) : Int32) = 0 → (J_X7_copy_r1_c3_c0_52 Ln I A v2 v4 v5  Q)) ∧ (¬ (((I 9 1) : Int32) = 0) → ((((I 3 1) : Int32) ≠ 0 → ((((I 9 2) : Int32) = (I 3 2) → (((v5 : Int32) < 0 → (J_X7_copy_r1_c3_c0_105 Ln I A v2 v4 v5  Q)) ∧ (¬ ((v5 : Int32) < 0) → ((W_X4_holds_r9 Ln I A v2 v5 (fun (r9 : Int32) => (((r9 : Int32) = 0 → (J_X7_copy_r1_c3_c0_105 Ln I A v2 v4 v5  Q)) ∧ (¬ ((r9 : Int32) = 0) → ((W_X4_holds_r3 Ln I A v4 v5 (fun (r10 : Int32) => (((r10 : Int32) ≠ 0 → ((¬ v5 < 0) ∧ (¬ v4 < 0) ∧ (¬ v2 < 0) ∧ ((v2).toNatClampNeg + (v5).toNatClampNeg ≤ 60) ∧ ((v4).toNatClampNeg + (v5).toNatClampNeg ≤ 60) ∧ (∀ A11 : Nat → Nat → Int32, A11 = zcp A 10 4 (v2).toNatClampNeg (v4).toNatClampNeg (v5).toNatClampNeg → (W_X7_faultless_r1 Ln I A11 v5 (fun (r12 : Int32) (I13 : Nat → Nat → Int32) => (Q r12 I13 A11)))))) ∧ (¬ ((r10 : Int32) ≠ 0) → (J_X7_copy_r1_c3_c0_105 Ln I A v2 v4 v5  Q)))))))))))))) ∧ (¬ (((I 9 2) : Int32) = (I 3 2)) → ((W_X7_faulted_r1 Ln I A 2 (fun (r14 : Int32) (I15 : Nat → Nat → Int32) => (Q r14 I15 A))))))) ∧ (¬ (((I 3 1) : Int32) ≠ 0) → (J_X7_copy_r1_c3_c0_52 Ln I A v2 v4 v5  Q)))))) ∧ (¬ ((r4 : Int32) ≠ 0) → (J_X7_copy_r1_c3_c0_14 Ln I A v2 v4 v5  Q)))))))))))
set_option maxRecDepth 100000 in
theorem T_X7_copy_r1_c3_c0 (Ln : Nat) (I A : Nat → Nat → Int32) (v2 : Int32) (v4 : Int32) (v5 : Int32) (Q : Int32 → (Nat → Nat → Int32) → (Nat → Nat → Int32) → Prop) (h0 : W_X7_copy_r1_c3_c0 Ln I A v2 v4 v5 Q) : zSem 70 0 0 0 [some (.ref 1), some (.int 3), some (.int v2), some (.int 0), some (.int v4), some (.int v5), none, none] [] (zGs Ln I A) (fun r => ∃ x I1 A1, r = (some (.int x), zGs Ln I1 A1) ∧ Q x I1 A1) := by
  unfold W_X7_copy_r1_c3_c0 at h0
  obtain ⟨_, h1, r1, rfl, h2⟩ := T_X7_isSheet Ln _ _ _ _ h0
  refine zS1 (fun r he => B_X7_copy_r1_c3_c0_0 Ln _ _ _ _ _  h1 rfl he) ?_
  obtain ⟨h4, h5⟩ := h2
  by_cases h3 : (r1 : Int32) = 0
  · refine zS1 (fun r he => B_X7_copy_r1_c3_c0_4_s1 Ln _ _ _ _ _ _  (fun _ => he) (fun n => absurd h3 n)) ?_
    have h4 := h4 h3
    exact TJ_X7_copy_r1_c3_c0_14  h4
  · refine zS1 (fun r he => B_X7_copy_r1_c3_c0_4_s1 Ln _ _ _ _ _ _  (fun n => absurd n h3) (fun _ => he)) ?_
    have h5 := h5 h3
    obtain ⟨_, h6, r4, rfl, h7⟩ := T_X7_isSheet Ln _ _ _ _ h5
    refine zS1 (fun r he => B_X7_copy_r1_c3_c0_7 Ln _ _ _ _ _  h6 rfl he) ?_
    obtain ⟨h9, h10⟩ := h7
    by_cases h8 : (r4 : Int32) ≠ 0
    · refine zS1 (fun r he => B_X7_copy_r1_c3_c0_11_s1 Ln _ _ _ _ _ _  (fun _ => he) (fun n => absurd h8 n)) ?_
      have h9 := h9 h8
      obtain ⟨h12, h13⟩ := h9
      by_cases h11 : ((I 9 1) : Int32) = 0
      · refine zS1 (fun r he => B_X7_copy_r1_c3_c0_20 Ln _ _ _ _ _  (fun _ => he) (fun n => absurd h11 n)) ?_
        have h12 := h12 h11
        exact TJ_X7_copy_r1_c3_c0_52  h12
      · refine zS1 (fun r he => B_X7_copy_r1_c3_c0_20 Ln _ _ _ _ _  (fun n => absurd n h11) (fun _ => he)) ?_
        have h13 := h13 h11
        obtain ⟨h15, h16⟩ := h13
        by_cases h14 : ((I 3 1) : Int32) ≠ 0
        · refine zS1 (fun r he => B_X7_copy_r1_c3_c0_44_l9_3 Ln _ _ _ _ _  (fun _ => he) (fun n => absurd h14 n)) ?_
          have h15 := h15 h14
          obtain ⟨h18, h19⟩ := h15
          by_cases h17 : ((I 9 2) : Int32) = (I 3 2)
          · refine zS1 (fun r he => B_X7_copy_r1_c3_c0_58_l9_3 Ln _ _ _ _ _  (fun _ => he) (fun n => absurd h17 n)) ?_
            have h18 := h18 h17
            obtain ⟨h21, h22⟩ := h18
            by_cases h20 : (v5 : Int32) < 0
            · refine zS1 (fun r he => B_X7_copy_r1_c3_c0_77_l9_3 Ln _ _ _ _ _  (fun _ => he) (fun n => absurd h20 n)) ?_
              have h21 := h21 h20
              exact TJ_X7_copy_r1_c3_c0_105  h21
            · refine zS1 (fun r he => B_X7_copy_r1_c3_c0_77_l9_3 Ln _ _ _ _ _  (fun n => absurd n h20) (fun _ => he)) ?_
              have h22 := h22 h20
              obtain ⟨_, h23, r9, rfl, h24⟩ := T_X4_holds_r9 Ln _ _ _ _ _ h22
              refine zS1 (fun r he => B_X7_copy_r1_c3_c0_82_l9_3 Ln _ _ _ _ _  h23 rfl he) ?_
              obtain ⟨h26, h27⟩ := h24
              by_cases h25 : (r9 : Int32) = 0
              · refine zS1 (fun r he => B_X7_copy_r1_c3_c0_90_s1_l9_3 Ln _ _ _ _ _ _  (fun _ => he) (fun n => absurd h25 n)) ?_
                have h26 := h26 h25
                exact TJ_X7_copy_r1_c3_c0_105  h26
              · refine zS1 (fun r he => B_X7_copy_r1_c3_c0_90_s1_l9_3 Ln _ _ _ _ _ _  (fun n => absurd n h25) (fun _ => he)) ?_
                have h27 := h27 h25
                obtain ⟨_, h28, r10, rfl, h29⟩ := T_X4_holds_r3 Ln _ _ _ _ _ h27
                refine zS1 (fun r he => B_X7_copy_r1_c3_c0_93_l9_3 Ln _ _ _ _ _  h28 rfl he) ?_
                obtain ⟨h31, h32⟩ := h29
                by_cases h30 : (r10 : Int32) ≠ 0
                · refine zS1 (fun r he => B_X7_copy_r1_c3_c0_102_s1_l9_3 Ln _ _ _ _ _ _  (fun _ => he) (fun n => absurd h30 n)) ?_
                  have h31 := h31 h30
                  obtain ⟨h33, h34⟩ := h31
                  obtain ⟨h35, h36⟩ := h34
                  obtain ⟨h37, h38⟩ := h36
                  obtain ⟨h39, h40⟩ := h38
                  obtain ⟨h41, h42⟩ := h40
                  have h43 := h42 _ rfl
                  obtain ⟨_, h44, r12, I13, rfl, h45⟩ := T_X7_faultless_r1 Ln _ _ _ _ h43
                  refine zS1 (fun r he => B_X7_copy_r1_c3_c0_111_l9_3 Ln _ _ _ _ _ h33 h35 h37 h39 h41 h44 rfl he) ?_
                  exact ⟨_, B_X7_copy_r1_c3_c0_135_s1_l9_3 Ln _ _ _ _ _ _ , _, _, _, rfl, h45⟩
                · refine zS1 (fun r he => B_X7_copy_r1_c3_c0_102_s1_l9_3 Ln _ _ _ _ _ _  (fun n => absurd n h30) (fun _ => he)) ?_
                  have h32 := h32 h30
                  exact TJ_X7_copy_r1_c3_c0_105  h32
          · refine zS1 (fun r he => B_X7_copy_r1_c3_c0_58_l9_3 Ln _ _ _ _ _  (fun n => absurd n h17) (fun _ => he)) ?_
            have h19 := h19 h17
            obtain ⟨_, h46, r14, I15, rfl, h47⟩ := T_X7_faulted_r1 Ln _ _ _ _ h19
            refine zS1 (fun r he => B_X7_copy_r1_c3_c0_71_l9_3 Ln _ _ _ _ _  h46 rfl he) ?_
            exact ⟨_, B_X7_copy_r1_c3_c0_76_s1_l9_3 Ln _ _ _ _ _ _ , _, _, _, rfl, h47⟩
        · refine zS1 (fun r he => B_X7_copy_r1_c3_c0_44_l9_3 Ln _ _ _ _ _  (fun n => absurd n h14) (fun _ => he)) ?_
          have h16 := h16 h14
          exact TJ_X7_copy_r1_c3_c0_52  h16
    · refine zS1 (fun r he => B_X7_copy_r1_c3_c0_11_s1 Ln _ _ _ _ _ _  (fun n => absurd n h8) (fun _ => he)) ?_
      have h10 := h10 h8
      exact TJ_X7_copy_r1_c3_c0_14  h10
def J_X7_copy_r1_c3_c1_14 (Ln : Nat) (I A : Nat → Nat → Int32) (v2 : Int32) (v4 : Int32) (v5 : Int32) (Q : Int32 → (Nat → Nat → Int32) → (Nat → Nat → Int32) → Prop) : Prop := ((W_X7_faultless_r1 Ln I A (-1) (fun (r2 : Int32) (I3 : Nat → Nat → Int32) => (Q r2 I3 A))))
set_option maxRecDepth 100000 in
theorem TJ_X7_copy_r1_c3_c1_14 {Ln : Nat} {I A : Nat → Nat → Int32} {v2 : Int32} {v4 : Int32} {v5 : Int32} {Q : Int32 → (Nat → Nat → Int32) → (Nat → Nat → Int32) → Prop} (h0 : J_X7_copy_r1_c3_c1_14 Ln I A v2 v4 v5   Q) : zSem 70 14 0 0 [some (.ref 1), some (.int 3), some (.int v2), some (.int 1), some (.int v4), some (.int v5), none, none] [] (zGs Ln I A) (fun r => ∃ x I1 A1, r = (some (.int x), zGs Ln I1 A1) ∧ Q x I1 A1) := by
  unfold J_X7_copy_r1_c3_c1_14 at h0
  obtain ⟨_, h1, r2, I3, rfl, h2⟩ := T_X7_faultless_r1 Ln _ _ _ _ h0
  refine zS1 (fun r he => B_X7_copy_r1_c3_c1_14 Ln _ _ _ _ _  h1 rfl he) ?_
  exact ⟨_, B_X7_copy_r1_c3_c1_19_s1 Ln _ _ _ _ _ _ , _, _, _, rfl, h2⟩
def J_X7_copy_r1_c3_c1_52 (Ln : Nat) (I A : Nat → Nat → Int32) (v2 : Int32) (v4 : Int32) (v5 : Int32) (Q : Int32 → (Nat → Nat → Int32) → (Nat → Nat → Int32) → Prop) : Prop := ((W_X7_faulted_r1 Ln I A 1 (fun (r5 : Int32) (I6 : Nat → Nat → Int32) => (Q r5 I6 A))))
set_option maxRecDepth 100000 in
theorem TJ_X7_copy_r1_c3_c1_52 {Ln : Nat} {I A : Nat → Nat → Int32} {v2 : Int32} {v4 : Int32} {v5 : Int32} {Q : Int32 → (Nat → Nat → Int32) → (Nat → Nat → Int32) → Prop} (h0 : J_X7_copy_r1_c3_c1_52 Ln I A v2 v4 v5   Q) : zSem 70 52 0 0 [some (.ref 1), some (.int 3), some (.int v2), some (.int 1), some (.int v4), some (.int v5), some (.ref 9), some (.ref 5)] [] (zGs Ln I A) (fun r => ∃ x I1 A1, r = (some (.int x), zGs Ln I1 A1) ∧ Q x I1 A1) := by
  unfold J_X7_copy_r1_c3_c1_52 at h0
  obtain ⟨_, h1, r5, I6, rfl, h2⟩ := T_X7_faulted_r1 Ln _ _ _ _ h0
  refine zS1 (fun r he => B_X7_copy_r1_c3_c1_52_l9_5 Ln _ _ _ _ _  h1 rfl he) ?_
  exact ⟨_, B_X7_copy_r1_c3_c1_57_s1_l9_5 Ln _ _ _ _ _ _ , _, _, _, rfl, h2⟩
def J_X7_copy_r1_c3_c1_105 (Ln : Nat) (I A : Nat → Nat → Int32) (v2 : Int32) (v4 : Int32) (v5 : Int32) (Q : Int32 → (Nat → Nat → Int32) → (Nat → Nat → Int32) → Prop) : Prop := ((W_X7_faulted_r1 Ln I A 3 (fun (r7 : Int32) (I8 : Nat → Nat → Int32) => (Q r7 I8 A))))
set_option maxRecDepth 100000 in
theorem TJ_X7_copy_r1_c3_c1_105 {Ln : Nat} {I A : Nat → Nat → Int32} {v2 : Int32} {v4 : Int32} {v5 : Int32} {Q : Int32 → (Nat → Nat → Int32) → (Nat → Nat → Int32) → Prop} (h0 : J_X7_copy_r1_c3_c1_105 Ln I A v2 v4 v5   Q) : zSem 70 105 0 0 [some (.ref 1), some (.int 3), some (.int v2), some (.int 1), some (.int v4), some (.int v5), some (.ref 9), some (.ref 5)] [] (zGs Ln I A) (fun r => ∃ x I1 A1, r = (some (.int x), zGs Ln I1 A1) ∧ Q x I1 A1) := by
  unfold J_X7_copy_r1_c3_c1_105 at h0
  obtain ⟨_, h1, r7, I8, rfl, h2⟩ := T_X7_faulted_r1 Ln _ _ _ _ h0
  refine zS1 (fun r he => B_X7_copy_r1_c3_c1_105_l9_5 Ln _ _ _ _ _  h1 rfl he) ?_
  exact ⟨_, B_X7_copy_r1_c3_c1_110_s1_l9_5 Ln _ _ _ _ _ _ , _, _, _, rfl, h2⟩
def W_X7_copy_r1_c3_c1 (Ln : Nat) (I A : Nat → Nat → Int32) (v2 : Int32) (v4 : Int32) (v5 : Int32) (Q : Int32 → (Nat → Nat → Int32) → (Nat → Nat → Int32) → Prop) : Prop := ((W_X7_isSheet Ln I A 3 (fun (r1 : Int32) => (((r1 : Int32) = 0 → (J_X7_copy_r1_c3_c1_14 Ln I A v2 v4 v5  Q)) ∧ (¬ ((r1 : Int32) = 0) → ((W_X7_isSheet Ln I A 1 (fun (r4 : Int32) => (((r4 : Int32) ≠ 0 → ((((I 9 1) : Int32) = 0 → (J_X7_copy_r1_c3_c1_52 Ln I A v2 v4 v5  Q)) ∧ (¬ (((I 9 1) : Int32) = 0) → ((((I 5 1) : Int32) ≠ 0 → ((((I 9 2) : Int32) = (I 5 2) → (((v5 : Int32) < 0 → (J_X7_copy_r1_c3_c1_105 Ln I A v2 v4 v5  Q)) ∧ (¬ ((v5 : Int32) < 0) → ((W_X4_holds_r9 Ln I A v2 v5 (fun (r9 : Int32) => (((r9 : Int32) = 0 → (J_X7_copy_r1_c3_c1_105 Ln I A v2 v4 v5  Q)) ∧ (¬ ((r9 : Int32) = 0) → ((W_X4_holds_r5 Ln I A v4 v5 (fun (r10 : Int32) => (((r10 : Int32) ≠ 0 → ((¬ v5 < 0) ∧ (¬ v4 < 0) ∧ (¬ v2 < 0) ∧ ((v2).toNatClampNeg + (v5).toNatClampNeg ≤ 60) ∧ ((v4).toNatClampNeg + (v5).toNatClampNeg ≤ 60) ∧ (∀ A11 : Nat → Nat → Int32, A11 = zcp A 10 6 (v2).toNatClampNeg (v4).toNatClampNeg (v5).toNatClampNeg → (W_X7_faultless_r1 Ln I A11 v5 (fun (r12 : Int32) (I13 : Nat → Nat → Int32) => (Q r12 I13 A11)))))) ∧ (¬ ((r10 : Int32) ≠ 0) → (J_X7_copy_r1_c3_c1_105 Ln I A v2 v4 v5  Q)))))))))))))) ∧ (¬ (((I 9 2) : Int32) = (I 5 2)) → ((W_X7_faulted_r1 Ln I A 2 (fun (r14 : Int32) (I15 : Nat → Nat → Int32) => (Q r14 I15 A))))))) ∧ (¬ (((I 5 1) : Int32) ≠ 0) → (J_X7_copy_r1_c3_c1_52 Ln I A v2 v4 v5  Q)))))) ∧ (¬ ((r4 : Int32) ≠ 0) → (J_X7_copy_r1_c3_c1_14 Ln I A v2 v4 v5  Q)))))))))))
set_option maxRecDepth 100000 in
theorem T_X7_copy_r1_c3_c1 (Ln : Nat) (I A : Nat → Nat → Int32) (v2 : Int32) (v4 : Int32) (v5 : Int32) (Q : Int32 → (Nat → Nat → Int32) → (Nat → Nat → Int32) → Prop) (h0 : W_X7_copy_r1_c3_c1 Ln I A v2 v4 v5 Q) : zSem 70 0 0 0 [some (.ref 1), some (.int 3), some (.int v2), some (.int 1), some (.int v4), some (.int v5), none, none] [] (zGs Ln I A) (fun r => ∃ x I1 A1, r = (some (.int x), zGs Ln I1 A1) ∧ Q x I1 A1) := by
  unfold W_X7_copy_r1_c3_c1 at h0
  obtain ⟨_, h1, r1, rfl, h2⟩ := T_X7_isSheet Ln _ _ _ _ h0
  refine zS1 (fun r he => B_X7_copy_r1_c3_c1_0 Ln _ _ _ _ _  h1 rfl he) ?_
  obtain ⟨h4, h5⟩ := h2
  by_cases h3 : (r1 : Int32) = 0
  · refine zS1 (fun r he => B_X7_copy_r1_c3_c1_4_s1 Ln _ _ _ _ _ _  (fun _ => he) (fun n => absurd h3 n)) ?_
    have h4 := h4 h3
    exact TJ_X7_copy_r1_c3_c1_14  h4
  · refine zS1 (fun r he => B_X7_copy_r1_c3_c1_4_s1 Ln _ _ _ _ _ _  (fun n => absurd n h3) (fun _ => he)) ?_
    have h5 := h5 h3
    obtain ⟨_, h6, r4, rfl, h7⟩ := T_X7_isSheet Ln _ _ _ _ h5
    refine zS1 (fun r he => B_X7_copy_r1_c3_c1_7 Ln _ _ _ _ _  h6 rfl he) ?_
    obtain ⟨h9, h10⟩ := h7
    by_cases h8 : (r4 : Int32) ≠ 0
    · refine zS1 (fun r he => B_X7_copy_r1_c3_c1_11_s1 Ln _ _ _ _ _ _  (fun _ => he) (fun n => absurd h8 n)) ?_
      have h9 := h9 h8
      obtain ⟨h12, h13⟩ := h9
      by_cases h11 : ((I 9 1) : Int32) = 0
      · refine zS1 (fun r he => B_X7_copy_r1_c3_c1_20 Ln _ _ _ _ _  (fun _ => he) (fun n => absurd h11 n)) ?_
        have h12 := h12 h11
        exact TJ_X7_copy_r1_c3_c1_52  h12
      · refine zS1 (fun r he => B_X7_copy_r1_c3_c1_20 Ln _ _ _ _ _  (fun n => absurd n h11) (fun _ => he)) ?_
        have h13 := h13 h11
        obtain ⟨h15, h16⟩ := h13
        by_cases h14 : ((I 5 1) : Int32) ≠ 0
        · refine zS1 (fun r he => B_X7_copy_r1_c3_c1_44_l9_5 Ln _ _ _ _ _  (fun _ => he) (fun n => absurd h14 n)) ?_
          have h15 := h15 h14
          obtain ⟨h18, h19⟩ := h15
          by_cases h17 : ((I 9 2) : Int32) = (I 5 2)
          · refine zS1 (fun r he => B_X7_copy_r1_c3_c1_58_l9_5 Ln _ _ _ _ _  (fun _ => he) (fun n => absurd h17 n)) ?_
            have h18 := h18 h17
            obtain ⟨h21, h22⟩ := h18
            by_cases h20 : (v5 : Int32) < 0
            · refine zS1 (fun r he => B_X7_copy_r1_c3_c1_77_l9_5 Ln _ _ _ _ _  (fun _ => he) (fun n => absurd h20 n)) ?_
              have h21 := h21 h20
              exact TJ_X7_copy_r1_c3_c1_105  h21
            · refine zS1 (fun r he => B_X7_copy_r1_c3_c1_77_l9_5 Ln _ _ _ _ _  (fun n => absurd n h20) (fun _ => he)) ?_
              have h22 := h22 h20
              obtain ⟨_, h23, r9, rfl, h24⟩ := T_X4_holds_r9 Ln _ _ _ _ _ h22
              refine zS1 (fun r he => B_X7_copy_r1_c3_c1_82_l9_5 Ln _ _ _ _ _  h23 rfl he) ?_
              obtain ⟨h26, h27⟩ := h24
              by_cases h25 : (r9 : Int32) = 0
              · refine zS1 (fun r he => B_X7_copy_r1_c3_c1_90_s1_l9_5 Ln _ _ _ _ _ _  (fun _ => he) (fun n => absurd h25 n)) ?_
                have h26 := h26 h25
                exact TJ_X7_copy_r1_c3_c1_105  h26
              · refine zS1 (fun r he => B_X7_copy_r1_c3_c1_90_s1_l9_5 Ln _ _ _ _ _ _  (fun n => absurd n h25) (fun _ => he)) ?_
                have h27 := h27 h25
                obtain ⟨_, h28, r10, rfl, h29⟩ := T_X4_holds_r5 Ln _ _ _ _ _ h27
                refine zS1 (fun r he => B_X7_copy_r1_c3_c1_93_l9_5 Ln _ _ _ _ _  h28 rfl he) ?_
                obtain ⟨h31, h32⟩ := h29
                by_cases h30 : (r10 : Int32) ≠ 0
                · refine zS1 (fun r he => B_X7_copy_r1_c3_c1_102_s1_l9_5 Ln _ _ _ _ _ _  (fun _ => he) (fun n => absurd h30 n)) ?_
                  have h31 := h31 h30
                  obtain ⟨h33, h34⟩ := h31
                  obtain ⟨h35, h36⟩ := h34
                  obtain ⟨h37, h38⟩ := h36
                  obtain ⟨h39, h40⟩ := h38
                  obtain ⟨h41, h42⟩ := h40
                  have h43 := h42 _ rfl
                  obtain ⟨_, h44, r12, I13, rfl, h45⟩ := T_X7_faultless_r1 Ln _ _ _ _ h43
                  refine zS1 (fun r he => B_X7_copy_r1_c3_c1_111_l9_5 Ln _ _ _ _ _ h33 h35 h37 h39 h41 h44 rfl he) ?_
                  exact ⟨_, B_X7_copy_r1_c3_c1_135_s1_l9_5 Ln _ _ _ _ _ _ , _, _, _, rfl, h45⟩
                · refine zS1 (fun r he => B_X7_copy_r1_c3_c1_102_s1_l9_5 Ln _ _ _ _ _ _  (fun n => absurd n h30) (fun _ => he)) ?_
                  have h32 := h32 h30
                  exact TJ_X7_copy_r1_c3_c1_105  h32
          · refine zS1 (fun r he => B_X7_copy_r1_c3_c1_58_l9_5 Ln _ _ _ _ _  (fun n => absurd n h17) (fun _ => he)) ?_
            have h19 := h19 h17
            obtain ⟨_, h46, r14, I15, rfl, h47⟩ := T_X7_faulted_r1 Ln _ _ _ _ h19
            refine zS1 (fun r he => B_X7_copy_r1_c3_c1_71_l9_5 Ln _ _ _ _ _  h46 rfl he) ?_
            exact ⟨_, B_X7_copy_r1_c3_c1_76_s1_l9_5 Ln _ _ _ _ _ _ , _, _, _, rfl, h47⟩
        · refine zS1 (fun r he => B_X7_copy_r1_c3_c1_44_l9_5 Ln _ _ _ _ _  (fun n => absurd n h14) (fun _ => he)) ?_
          have h16 := h16 h14
          exact TJ_X7_copy_r1_c3_c1_52  h16
    · refine zS1 (fun r he => B_X7_copy_r1_c3_c1_11_s1 Ln _ _ _ _ _ _  (fun n => absurd n h8) (fun _ => he)) ?_
      have h10 := h10 h8
      exact TJ_X7_copy_r1_c3_c1_14  h10
def J_X7_copy_r1_c3_c2_14 (Ln : Nat) (I A : Nat → Nat → Int32) (v2 : Int32) (v4 : Int32) (v5 : Int32) (Q : Int32 → (Nat → Nat → Int32) → (Nat → Nat → Int32) → Prop) : Prop := ((W_X7_faultless_r1 Ln I A (-1) (fun (r2 : Int32) (I3 : Nat → Nat → Int32) => (Q r2 I3 A))))
set_option maxRecDepth 100000 in
theorem TJ_X7_copy_r1_c3_c2_14 {Ln : Nat} {I A : Nat → Nat → Int32} {v2 : Int32} {v4 : Int32} {v5 : Int32} {Q : Int32 → (Nat → Nat → Int32) → (Nat → Nat → Int32) → Prop} (h0 : J_X7_copy_r1_c3_c2_14 Ln I A v2 v4 v5   Q) : zSem 70 14 0 0 [some (.ref 1), some (.int 3), some (.int v2), some (.int 2), some (.int v4), some (.int v5), none, none] [] (zGs Ln I A) (fun r => ∃ x I1 A1, r = (some (.int x), zGs Ln I1 A1) ∧ Q x I1 A1) := by
  unfold J_X7_copy_r1_c3_c2_14 at h0
  obtain ⟨_, h1, r2, I3, rfl, h2⟩ := T_X7_faultless_r1 Ln _ _ _ _ h0
  refine zS1 (fun r he => B_X7_copy_r1_c3_c2_14 Ln _ _ _ _ _  h1 rfl he) ?_
  exact ⟨_, B_X7_copy_r1_c3_c2_19_s1 Ln _ _ _ _ _ _ , _, _, _, rfl, h2⟩
def J_X7_copy_r1_c3_c2_52 (Ln : Nat) (I A : Nat → Nat → Int32) (v2 : Int32) (v4 : Int32) (v5 : Int32) (Q : Int32 → (Nat → Nat → Int32) → (Nat → Nat → Int32) → Prop) : Prop := ((W_X7_faulted_r1 Ln I A 1 (fun (r5 : Int32) (I6 : Nat → Nat → Int32) => (Q r5 I6 A))))
set_option maxRecDepth 100000 in
theorem TJ_X7_copy_r1_c3_c2_52 {Ln : Nat} {I A : Nat → Nat → Int32} {v2 : Int32} {v4 : Int32} {v5 : Int32} {Q : Int32 → (Nat → Nat → Int32) → (Nat → Nat → Int32) → Prop} (h0 : J_X7_copy_r1_c3_c2_52 Ln I A v2 v4 v5   Q) : zSem 70 52 0 0 [some (.ref 1), some (.int 3), some (.int v2), some (.int 2), some (.int v4), some (.int v5), some (.ref 9), some (.ref 7)] [] (zGs Ln I A) (fun r => ∃ x I1 A1, r = (some (.int x), zGs Ln I1 A1) ∧ Q x I1 A1) := by
  unfold J_X7_copy_r1_c3_c2_52 at h0
  obtain ⟨_, h1, r5, I6, rfl, h2⟩ := T_X7_faulted_r1 Ln _ _ _ _ h0
  refine zS1 (fun r he => B_X7_copy_r1_c3_c2_52_l9_7 Ln _ _ _ _ _  h1 rfl he) ?_
  exact ⟨_, B_X7_copy_r1_c3_c2_57_s1_l9_7 Ln _ _ _ _ _ _ , _, _, _, rfl, h2⟩
def J_X7_copy_r1_c3_c2_105 (Ln : Nat) (I A : Nat → Nat → Int32) (v2 : Int32) (v4 : Int32) (v5 : Int32) (Q : Int32 → (Nat → Nat → Int32) → (Nat → Nat → Int32) → Prop) : Prop := ((W_X7_faulted_r1 Ln I A 3 (fun (r7 : Int32) (I8 : Nat → Nat → Int32) => (Q r7 I8 A))))
set_option maxRecDepth 100000 in
theorem TJ_X7_copy_r1_c3_c2_105 {Ln : Nat} {I A : Nat → Nat → Int32} {v2 : Int32} {v4 : Int32} {v5 : Int32} {Q : Int32 → (Nat → Nat → Int32) → (Nat → Nat → Int32) → Prop} (h0 : J_X7_copy_r1_c3_c2_105 Ln I A v2 v4 v5   Q) : zSem 70 105 0 0 [some (.ref 1), some (.int 3), some (.int v2), some (.int 2), some (.int v4), some (.int v5), some (.ref 9), some (.ref 7)] [] (zGs Ln I A) (fun r => ∃ x I1 A1, r = (some (.int x), zGs Ln I1 A1) ∧ Q x I1 A1) := by
  unfold J_X7_copy_r1_c3_c2_105 at h0
  obtain ⟨_, h1, r7, I8, rfl, h2⟩ := T_X7_faulted_r1 Ln _ _ _ _ h0
  refine zS1 (fun r he => B_X7_copy_r1_c3_c2_105_l9_7 Ln _ _ _ _ _  h1 rfl he) ?_
  exact ⟨_, B_X7_copy_r1_c3_c2_110_s1_l9_7 Ln _ _ _ _ _ _ , _, _, _, rfl, h2⟩
def W_X7_copy_r1_c3_c2 (Ln : Nat) (I A : Nat → Nat → Int32) (v2 : Int32) (v4 : Int32) (v5 : Int32) (Q : Int32 → (Nat → Nat → Int32) → (Nat → Nat → Int32) → Prop) : Prop := ((W_X7_isSheet Ln I A 3 (fun (r1 : Int32) => (((r1 : Int32) = 0 → (J_X7_copy_r1_c3_c2_14 Ln I A v2 v4 v5  Q)) ∧ (¬ ((r1 : Int32) = 0) → ((W_X7_isSheet Ln I A 2 (fun (r4 : Int32) => (((r4 : Int32) ≠ 0 → ((((I 9 1) : Int32) = 0 → (J_X7_copy_r1_c3_c2_52 Ln I A v2 v4 v5  Q)) ∧ (¬ (((I 9 1) : Int32) = 0) → ((((I 7 1) : Int32) ≠ 0 → ((((I 9 2) : Int32) = (I 7 2) → (((v5 : Int32) < 0 → (J_X7_copy_r1_c3_c2_105 Ln I A v2 v4 v5  Q)) ∧ (¬ ((v5 : Int32) < 0) → ((W_X4_holds_r9 Ln I A v2 v5 (fun (r9 : Int32) => (((r9 : Int32) = 0 → (J_X7_copy_r1_c3_c2_105 Ln I A v2 v4 v5  Q)) ∧ (¬ ((r9 : Int32) = 0) → ((W_X4_holds_r7 Ln I A v4 v5 (fun (r10 : Int32) => (((r10 : Int32) ≠ 0 → ((¬ v5 < 0) ∧ (¬ v4 < 0) ∧ (¬ v2 < 0) ∧ ((v2).toNatClampNeg + (v5).toNatClampNeg ≤ 60) ∧ ((v4).toNatClampNeg + (v5).toNatClampNeg ≤ 60) ∧ (∀ A11 : Nat → Nat → Int32, A11 = zcp A 10 8 (v2).toNatClampNeg (v4).toNatClampNeg (v5).toNatClampNeg → (W_X7_faultless_r1 Ln I A11 v5 (fun (r12 : Int32) (I13 : Nat → Nat → Int32) => (Q r12 I13 A11)))))) ∧ (¬ ((r10 : Int32) ≠ 0) → (J_X7_copy_r1_c3_c2_105 Ln I A v2 v4 v5  Q)))))))))))))) ∧ (¬ (((I 9 2) : Int32) = (I 7 2)) → ((W_X7_faulted_r1 Ln I A 2 (fun (r14 : Int32) (I15 : Nat → Nat → Int32) => (Q r14 I15 A))))))) ∧ (¬ (((I 7 1) : Int32) ≠ 0) → (J_X7_copy_r1_c3_c2_52 Ln I A v2 v4 v5  Q)))))) ∧ (¬ ((r4 : Int32) ≠ 0) → (J_X7_copy_r1_c3_c2_14 Ln I A v2 v4 v5  Q)))))))))))
set_option maxRecDepth 100000 in
theorem T_X7_copy_r1_c3_c2 (Ln : Nat) (I A : Nat → Nat → Int32) (v2 : Int32) (v4 : Int32) (v5 : Int32) (Q : Int32 → (Nat → Nat → Int32) → (Nat → Nat → Int32) → Prop) (h0 : W_X7_copy_r1_c3_c2 Ln I A v2 v4 v5 Q) : zSem 70 0 0 0 [some (.ref 1), some (.int 3), some (.int v2), some (.int 2), some (.int v4), some (.int v5), none, none] [] (zGs Ln I A) (fun r => ∃ x I1 A1, r = (some (.int x), zGs Ln I1 A1) ∧ Q x I1 A1) := by
  unfold W_X7_copy_r1_c3_c2 at h0
  obtain ⟨_, h1, r1, rfl, h2⟩ := T_X7_isSheet Ln _ _ _ _ h0
  refine zS1 (fun r he => B_X7_copy_r1_c3_c2_0 Ln _ _ _ _ _  h1 rfl he) ?_
  obtain ⟨h4, h5⟩ := h2
  by_cases h3 : (r1 : Int32) = 0
  · refine zS1 (fun r he => B_X7_copy_r1_c3_c2_4_s1 Ln _ _ _ _ _ _  (fun _ => he) (fun n => absurd h3 n)) ?_
    have h4 := h4 h3
    exact TJ_X7_copy_r1_c3_c2_14  h4
  · refine zS1 (fun r he => B_X7_copy_r1_c3_c2_4_s1 Ln _ _ _ _ _ _  (fun n => absurd n h3) (fun _ => he)) ?_
    have h5 := h5 h3
    obtain ⟨_, h6, r4, rfl, h7⟩ := T_X7_isSheet Ln _ _ _ _ h5
    refine zS1 (fun r he => B_X7_copy_r1_c3_c2_7 Ln _ _ _ _ _  h6 rfl he) ?_
    obtain ⟨h9, h10⟩ := h7
    by_cases h8 : (r4 : Int32) ≠ 0
    · refine zS1 (fun r he => B_X7_copy_r1_c3_c2_11_s1 Ln _ _ _ _ _ _  (fun _ => he) (fun n => absurd h8 n)) ?_
      have h9 := h9 h8
      obtain ⟨h12, h13⟩ := h9
      by_cases h11 : ((I 9 1) : Int32) = 0
      · refine zS1 (fun r he => B_X7_copy_r1_c3_c2_20 Ln _ _ _ _ _  (fun _ => he) (fun n => absurd h11 n)) ?_
        have h12 := h12 h11
        exact TJ_X7_copy_r1_c3_c2_52  h12
      · refine zS1 (fun r he => B_X7_copy_r1_c3_c2_20 Ln _ _ _ _ _  (fun n => absurd n h11) (fun _ => he)) ?_
        have h13 := h13 h11
        obtain ⟨h15, h16⟩ := h13
        by_cases h14 : ((I 7 1) : Int32) ≠ 0
        · refine zS1 (fun r he => B_X7_copy_r1_c3_c2_44_l9_7 Ln _ _ _ _ _  (fun _ => he) (fun n => absurd h14 n)) ?_
          have h15 := h15 h14
          obtain ⟨h18, h19⟩ := h15
          by_cases h17 : ((I 9 2) : Int32) = (I 7 2)
          · refine zS1 (fun r he => B_X7_copy_r1_c3_c2_58_l9_7 Ln _ _ _ _ _  (fun _ => he) (fun n => absurd h17 n)) ?_
            have h18 := h18 h17
            obtain ⟨h21, h22⟩ := h18
            by_cases h20 : (v5 : Int32) < 0
            · refine zS1 (fun r he => B_X7_copy_r1_c3_c2_77_l9_7 Ln _ _ _ _ _  (fun _ => he) (fun n => absurd h20 n)) ?_
              have h21 := h21 h20
              exact TJ_X7_copy_r1_c3_c2_105  h21
            · refine zS1 (fun r he => B_X7_copy_r1_c3_c2_77_l9_7 Ln _ _ _ _ _  (fun n => absurd n h20) (fun _ => he)) ?_
              have h22 := h22 h20
              obtain ⟨_, h23, r9, rfl, h24⟩ := T_X4_holds_r9 Ln _ _ _ _ _ h22
              refine zS1 (fun r he => B_X7_copy_r1_c3_c2_82_l9_7 Ln _ _ _ _ _  h23 rfl he) ?_
              obtain ⟨h26, h27⟩ := h24
              by_cases h25 : (r9 : Int32) = 0
              · refine zS1 (fun r he => B_X7_copy_r1_c3_c2_90_s1_l9_7 Ln _ _ _ _ _ _  (fun _ => he) (fun n => absurd h25 n)) ?_
                have h26 := h26 h25
                exact TJ_X7_copy_r1_c3_c2_105  h26
              · refine zS1 (fun r he => B_X7_copy_r1_c3_c2_90_s1_l9_7 Ln _ _ _ _ _ _  (fun n => absurd n h25) (fun _ => he)) ?_
                have h27 := h27 h25
                obtain ⟨_, h28, r10, rfl, h29⟩ := T_X4_holds_r7 Ln _ _ _ _ _ h27
                refine zS1 (fun r he => B_X7_copy_r1_c3_c2_93_l9_7 Ln _ _ _ _ _  h28 rfl he) ?_
                obtain ⟨h31, h32⟩ := h29
                by_cases h30 : (r10 : Int32) ≠ 0
                · refine zS1 (fun r he => B_X7_copy_r1_c3_c2_102_s1_l9_7 Ln _ _ _ _ _ _  (fun _ => he) (fun n => absurd h30 n)) ?_
                  have h31 := h31 h30
                  obtain ⟨h33, h34⟩ := h31
                  obtain ⟨h35, h36⟩ := h34
                  obtain ⟨h37, h38⟩ := h36
                  obtain ⟨h39, h40⟩ := h38
                  obtain ⟨h41, h42⟩ := h40
                  have h43 := h42 _ rfl
                  obtain ⟨_, h44, r12, I13, rfl, h45⟩ := T_X7_faultless_r1 Ln _ _ _ _ h43
                  refine zS1 (fun r he => B_X7_copy_r1_c3_c2_111_l9_7 Ln _ _ _ _ _ h33 h35 h37 h39 h41 h44 rfl he) ?_
                  exact ⟨_, B_X7_copy_r1_c3_c2_135_s1_l9_7 Ln _ _ _ _ _ _ , _, _, _, rfl, h45⟩
                · refine zS1 (fun r he => B_X7_copy_r1_c3_c2_102_s1_l9_7 Ln _ _ _ _ _ _  (fun n => absurd n h30) (fun _ => he)) ?_
                  have h32 := h32 h30
                  exact TJ_X7_copy_r1_c3_c2_105  h32
          · refine zS1 (fun r he => B_X7_copy_r1_c3_c2_58_l9_7 Ln _ _ _ _ _  (fun n => absurd n h17) (fun _ => he)) ?_
            have h19 := h19 h17
            obtain ⟨_, h46, r14, I15, rfl, h47⟩ := T_X7_faulted_r1 Ln _ _ _ _ h19
            refine zS1 (fun r he => B_X7_copy_r1_c3_c2_71_l9_7 Ln _ _ _ _ _  h46 rfl he) ?_
            exact ⟨_, B_X7_copy_r1_c3_c2_76_s1_l9_7 Ln _ _ _ _ _ _ , _, _, _, rfl, h47⟩
        · refine zS1 (fun r he => B_X7_copy_r1_c3_c2_44_l9_7 Ln _ _ _ _ _  (fun n => absurd n h14) (fun _ => he)) ?_
          have h16 := h16 h14
          exact TJ_X7_copy_r1_c3_c2_52  h16
    · refine zS1 (fun r he => B_X7_copy_r1_c3_c2_11_s1 Ln _ _ _ _ _ _  (fun n => absurd n h8) (fun _ => he)) ?_
      have h10 := h10 h8
      exact TJ_X7_copy_r1_c3_c2_14  h10
def J_X7_copy_r1_c3_c3_14 (Ln : Nat) (I A : Nat → Nat → Int32) (v2 : Int32) (v4 : Int32) (v5 : Int32) (Q : Int32 → (Nat → Nat → Int32) → (Nat → Nat → Int32) → Prop) : Prop := ((W_X7_faultless_r1 Ln I A (-1) (fun (r2 : Int32) (I3 : Nat → Nat → Int32) => (Q r2 I3 A))))
set_option maxRecDepth 100000 in
theorem TJ_X7_copy_r1_c3_c3_14 {Ln : Nat} {I A : Nat → Nat → Int32} {v2 : Int32} {v4 : Int32} {v5 : Int32} {Q : Int32 → (Nat → Nat → Int32) → (Nat → Nat → Int32) → Prop} (h0 : J_X7_copy_r1_c3_c3_14 Ln I A v2 v4 v5   Q) : zSem 70 14 0 0 [some (.ref 1), some (.int 3), some (.int v2), some (.int 3), some (.int v4), some (.int v5), none, none] [] (zGs Ln I A) (fun r => ∃ x I1 A1, r = (some (.int x), zGs Ln I1 A1) ∧ Q x I1 A1) := by
  unfold J_X7_copy_r1_c3_c3_14 at h0
  obtain ⟨_, h1, r2, I3, rfl, h2⟩ := T_X7_faultless_r1 Ln _ _ _ _ h0
  refine zS1 (fun r he => B_X7_copy_r1_c3_c3_14 Ln _ _ _ _ _  h1 rfl he) ?_
  exact ⟨_, B_X7_copy_r1_c3_c3_19_s1 Ln _ _ _ _ _ _ , _, _, _, rfl, h2⟩
def J_X7_copy_r1_c3_c3_52 (Ln : Nat) (I A : Nat → Nat → Int32) (v2 : Int32) (v4 : Int32) (v5 : Int32) (Q : Int32 → (Nat → Nat → Int32) → (Nat → Nat → Int32) → Prop) : Prop := ((W_X7_faulted_r1 Ln I A 1 (fun (r5 : Int32) (I6 : Nat → Nat → Int32) => (Q r5 I6 A))))
set_option maxRecDepth 100000 in
theorem TJ_X7_copy_r1_c3_c3_52 {Ln : Nat} {I A : Nat → Nat → Int32} {v2 : Int32} {v4 : Int32} {v5 : Int32} {Q : Int32 → (Nat → Nat → Int32) → (Nat → Nat → Int32) → Prop} (h0 : J_X7_copy_r1_c3_c3_52 Ln I A v2 v4 v5   Q) : zSem 70 52 0 0 [some (.ref 1), some (.int 3), some (.int v2), some (.int 3), some (.int v4), some (.int v5), some (.ref 9), some (.ref 9)] [] (zGs Ln I A) (fun r => ∃ x I1 A1, r = (some (.int x), zGs Ln I1 A1) ∧ Q x I1 A1) := by
  unfold J_X7_copy_r1_c3_c3_52 at h0
  obtain ⟨_, h1, r5, I6, rfl, h2⟩ := T_X7_faulted_r1 Ln _ _ _ _ h0
  refine zS1 (fun r he => B_X7_copy_r1_c3_c3_52_l9_9 Ln _ _ _ _ _  h1 rfl he) ?_
  exact ⟨_, B_X7_copy_r1_c3_c3_57_s1_l9_9 Ln _ _ _ _ _ _ , _, _, _, rfl, h2⟩
def J_X7_copy_r1_c3_c3_105 (Ln : Nat) (I A : Nat → Nat → Int32) (v2 : Int32) (v4 : Int32) (v5 : Int32) (Q : Int32 → (Nat → Nat → Int32) → (Nat → Nat → Int32) → Prop) : Prop := ((W_X7_faulted_r1 Ln I A 3 (fun (r7 : Int32) (I8 : Nat → Nat → Int32) => (Q r7 I8 A))))
set_option maxRecDepth 100000 in
theorem TJ_X7_copy_r1_c3_c3_105 {Ln : Nat} {I A : Nat → Nat → Int32} {v2 : Int32} {v4 : Int32} {v5 : Int32} {Q : Int32 → (Nat → Nat → Int32) → (Nat → Nat → Int32) → Prop} (h0 : J_X7_copy_r1_c3_c3_105 Ln I A v2 v4 v5   Q) : zSem 70 105 0 0 [some (.ref 1), some (.int 3), some (.int v2), some (.int 3), some (.int v4), some (.int v5), some (.ref 9), some (.ref 9)] [] (zGs Ln I A) (fun r => ∃ x I1 A1, r = (some (.int x), zGs Ln I1 A1) ∧ Q x I1 A1) := by
  unfold J_X7_copy_r1_c3_c3_105 at h0
  obtain ⟨_, h1, r7, I8, rfl, h2⟩ := T_X7_faulted_r1 Ln _ _ _ _ h0
  refine zS1 (fun r he => B_X7_copy_r1_c3_c3_105_l9_9 Ln _ _ _ _ _  h1 rfl he) ?_
  exact ⟨_, B_X7_copy_r1_c3_c3_110_s1_l9_9 Ln _ _ _ _ _ _ , _, _, _, rfl, h2⟩
def W_X7_copy_r1_c3_c3 (Ln : Nat) (I A : Nat → Nat → Int32) (v2 : Int32) (v4 : Int32) (v5 : Int32) (Q : Int32 → (Nat → Nat → Int32) → (Nat → Nat → Int32) → Prop) : Prop := ((W_X7_isSheet Ln I A 3 (fun (r1 : Int32) => (((r1 : Int32) = 0 → (J_X7_copy_r1_c3_c3_14 Ln I A v2 v4 v5  Q)) ∧ (¬ ((r1 : Int32) = 0) → ((W_X7_isSheet Ln I A 3 (fun (r4 : Int32) => (((r4 : Int32) ≠ 0 → ((((I 9 1) : Int32) = 0 → (J_X7_copy_r1_c3_c3_52 Ln I A v2 v4 v5  Q)) ∧ (¬ (((I 9 1) : Int32) = 0) → ((((I 9 1) : Int32) ≠ 0 → ((((I 9 2) : Int32) = (I 9 2) → (((v5 : Int32) < 0 → (J_X7_copy_r1_c3_c3_105 Ln I A v2 v4 v5  Q)) ∧ (¬ ((v5 : Int32) < 0) → ((W_X4_holds_r9 Ln I A v2 v5 (fun (r9 : Int32) => (((r9 : Int32) = 0 → (J_X7_copy_r1_c3_c3_105 Ln I A v2 v4 v5  Q)) ∧ (¬ ((r9 : Int32) = 0) → ((W_X4_holds_r9 Ln I A v4 v5 (fun (r10 : Int32) => (((r10 : Int32) ≠ 0 → ((¬ v5 < 0) ∧ (¬ v4 < 0) ∧ (¬ v2 < 0) ∧ ((v2).toNatClampNeg + (v5).toNatClampNeg ≤ 60) ∧ ((v4).toNatClampNeg + (v5).toNatClampNeg ≤ 60) ∧ (∀ A11 : Nat → Nat → Int32, A11 = zcp A 10 10 (v2).toNatClampNeg (v4).toNatClampNeg (v5).toNatClampNeg → (W_X7_faultless_r1 Ln I A11 v5 (fun (r12 : Int32) (I13 : Nat → Nat → Int32) => (Q r12 I13 A11)))))) ∧ (¬ ((r10 : Int32) ≠ 0) → (J_X7_copy_r1_c3_c3_105 Ln I A v2 v4 v5  Q)))))))))))))) ∧ (¬ (((I 9 2) : Int32) = (I 9 2)) → ((W_X7_faulted_r1 Ln I A 2 (fun (r14 : Int32) (I15 : Nat → Nat → Int32) => (Q r14 I15 A))))))) ∧ (¬ (((I 9 1) : Int32) ≠ 0) → (J_X7_copy_r1_c3_c3_52 Ln I A v2 v4 v5  Q)))))) ∧ (¬ ((r4 : Int32) ≠ 0) → (J_X7_copy_r1_c3_c3_14 Ln I A v2 v4 v5  Q)))))))))))
set_option maxRecDepth 100000 in
theorem T_X7_copy_r1_c3_c3 (Ln : Nat) (I A : Nat → Nat → Int32) (v2 : Int32) (v4 : Int32) (v5 : Int32) (Q : Int32 → (Nat → Nat → Int32) → (Nat → Nat → Int32) → Prop) (h0 : W_X7_copy_r1_c3_c3 Ln I A v2 v4 v5 Q) : zSem 70 0 0 0 [some (.ref 1), some (.int 3), some (.int v2), some (.int 3), some (.int v4), some (.int v5), none, none] [] (zGs Ln I A) (fun r => ∃ x I1 A1, r = (some (.int x), zGs Ln I1 A1) ∧ Q x I1 A1) := by
  unfold W_X7_copy_r1_c3_c3 at h0
  obtain ⟨_, h1, r1, rfl, h2⟩ := T_X7_isSheet Ln _ _ _ _ h0
  refine zS1 (fun r he => B_X7_copy_r1_c3_c3_0 Ln _ _ _ _ _  h1 rfl he) ?_
  obtain ⟨h4, h5⟩ := h2
  by_cases h3 : (r1 : Int32) = 0
  · refine zS1 (fun r he => B_X7_copy_r1_c3_c3_4_s1 Ln _ _ _ _ _ _  (fun _ => he) (fun n => absurd h3 n)) ?_
    have h4 := h4 h3
    exact TJ_X7_copy_r1_c3_c3_14  h4
  · refine zS1 (fun r he => B_X7_copy_r1_c3_c3_4_s1 Ln _ _ _ _ _ _  (fun n => absurd n h3) (fun _ => he)) ?_
    have h5 := h5 h3
    obtain ⟨_, h6, r4, rfl, h7⟩ := T_X7_isSheet Ln _ _ _ _ h5
    refine zS1 (fun r he => B_X7_copy_r1_c3_c3_7 Ln _ _ _ _ _  h6 rfl he) ?_
    obtain ⟨h9, h10⟩ := h7
    by_cases h8 : (r4 : Int32) ≠ 0
    · refine zS1 (fun r he => B_X7_copy_r1_c3_c3_11_s1 Ln _ _ _ _ _ _  (fun _ => he) (fun n => absurd h8 n)) ?_
      have h9 := h9 h8
      obtain ⟨h12, h13⟩ := h9
      by_cases h11 : ((I 9 1) : Int32) = 0
      · refine zS1 (fun r he => B_X7_copy_r1_c3_c3_20 Ln _ _ _ _ _  (fun _ => he) (fun n => absurd h11 n)) ?_
        have h12 := h12 h11
        exact TJ_X7_copy_r1_c3_c3_52  h12
      · refine zS1 (fun r he => B_X7_copy_r1_c3_c3_20 Ln _ _ _ _ _  (fun n => absurd n h11) (fun _ => he)) ?_
        have h13 := h13 h11
        obtain ⟨h15, h16⟩ := h13
        by_cases h14 : ((I 9 1) : Int32) ≠ 0
        · refine zS1 (fun r he => B_X7_copy_r1_c3_c3_44_l9_9 Ln _ _ _ _ _  (fun _ => he) (fun n => absurd h14 n)) ?_
          have h15 := h15 h14
          obtain ⟨h18, h19⟩ := h15
          by_cases h17 : ((I 9 2) : Int32) = (I 9 2)
          · refine zS1 (fun r he => B_X7_copy_r1_c3_c3_58_l9_9 Ln _ _ _ _ _  (fun _ => he) (fun n => absurd h17 n)) ?_
            have h18 := h18 h17
            obtain ⟨h21, h22⟩ := h18
            by_cases h20 : (v5 : Int32) < 0
            · refine zS1 (fun r he => B_X7_copy_r1_c3_c3_77_l9_9 Ln _ _ _ _ _  (fun _ => he) (fun n => absurd h20 n)) ?_
              have h21 := h21 h20
              exact TJ_X7_copy_r1_c3_c3_105  h21
            · refine zS1 (fun r he => B_X7_copy_r1_c3_c3_77_l9_9 Ln _ _ _ _ _  (fun n => absurd n h20) (fun _ => he)) ?_
              have h22 := h22 h20
              obtain ⟨_, h23, r9, rfl, h24⟩ := T_X4_holds_r9 Ln _ _ _ _ _ h22
              refine zS1 (fun r he => B_X7_copy_r1_c3_c3_82_l9_9 Ln _ _ _ _ _  h23 rfl he) ?_
              obtain ⟨h26, h27⟩ := h24
              by_cases h25 : (r9 : Int32) = 0
              · refine zS1 (fun r he => B_X7_copy_r1_c3_c3_90_s1_l9_9 Ln _ _ _ _ _ _  (fun _ => he) (fun n => absurd h25 n)) ?_
                have h26 := h26 h25
                exact TJ_X7_copy_r1_c3_c3_105  h26
              · refine zS1 (fun r he => B_X7_copy_r1_c3_c3_90_s1_l9_9 Ln _ _ _ _ _ _  (fun n => absurd n h25) (fun _ => he)) ?_
                have h27 := h27 h25
                obtain ⟨_, h28, r10, rfl, h29⟩ := T_X4_holds_r9 Ln _ _ _ _ _ h27
                refine zS1 (fun r he => B_X7_copy_r1_c3_c3_93_l9_9 Ln _ _ _ _ _  h28 rfl he) ?_
                obtain ⟨h31, h32⟩ := h29
                by_cases h30 : (r10 : Int32) ≠ 0
                · refine zS1 (fun r he => B_X7_copy_r1_c3_c3_102_s1_l9_9 Ln _ _ _ _ _ _  (fun _ => he) (fun n => absurd h30 n)) ?_
                  have h31 := h31 h30
                  obtain ⟨h33, h34⟩ := h31
                  obtain ⟨h35, h36⟩ := h34
                  obtain ⟨h37, h38⟩ := h36
                  obtain ⟨h39, h40⟩ := h38
                  obtain ⟨h41, h42⟩ := h40
                  have h43 := h42 _ rfl
                  obtain ⟨_, h44, r12, I13, rfl, h45⟩ := T_X7_faultless_r1 Ln _ _ _ _ h43
                  refine zS1 (fun r he => B_X7_copy_r1_c3_c3_111_l9_9 Ln _ _ _ _ _ h33 h35 h37 h39 h41 h44 rfl he) ?_
                  exact ⟨_, B_X7_copy_r1_c3_c3_135_s1_l9_9 Ln _ _ _ _ _ _ , _, _, _, rfl, h45⟩
                · refine zS1 (fun r he => B_X7_copy_r1_c3_c3_102_s1_l9_9 Ln _ _ _ _ _ _  (fun n => absurd n h30) (fun _ => he)) ?_
                  have h32 := h32 h30
                  exact TJ_X7_copy_r1_c3_c3_105  h32
          · refine zS1 (fun r he => B_X7_copy_r1_c3_c3_58_l9_9 Ln _ _ _ _ _  (fun n => absurd n h17) (fun _ => he)) ?_
            have h19 := h19 h17
            obtain ⟨_, h46, r14, I15, rfl, h47⟩ := T_X7_faulted_r1 Ln _ _ _ _ h19
            refine zS1 (fun r he => B_X7_copy_r1_c3_c3_71_l9_9 Ln _ _ _ _ _  h46 rfl he) ?_
            exact ⟨_, B_X7_copy_r1_c3_c3_76_s1_l9_9 Ln _ _ _ _ _ _ , _, _, _, rfl, h47⟩
        · refine zS1 (fun r he => B_X7_copy_r1_c3_c3_44_l9_9 Ln _ _ _ _ _  (fun n => absurd n h14) (fun _ => he)) ?_
          have h16 := h16 h14
          exact TJ_X7_copy_r1_c3_c3_52  h16
    · refine zS1 (fun r he => B_X7_copy_r1_c3_c3_11_s1 Ln _ _ _ _ _ _  (fun n => absurd n h8) (fun _ => he)) ?_
      have h10 := h10 h8
      exact TJ_X7_copy_r1_c3_c3_14  h10
def W_X7_ofNight_r1_r32 (Ln : Nat) (I A : Nat → Nat → Int32) (v2 : Int32) (Q : Int32 → Prop) : Prop := ((W_X7_isNight Ln I A v2 (fun (r1 : Int32) => (((r1 : Int32) ≠ 0 → ((W_X7_noBank_r1 Ln I A  (fun (r2 : Int32) => (((r2 : Int32) = 0 → ((zin v2 60 = true) ∧ (Q (A 32 (v2).toNatClampNeg)))) ∧ (¬ ((r2 : Int32) = 0) → ((Q (-3))))))))) ∧ (¬ ((r1 : Int32) ≠ 0) → (Q (-1)))))))
set_option maxRecDepth 100000 in
theorem T_X7_ofNight_r1_r32 (Ln : Nat) (I A : Nat → Nat → Int32) (v2 : Int32) (Q : Int32 → Prop) (h0 : W_X7_ofNight_r1_r32 Ln I A v2 Q) : zSem 84 0 0 0 [some (.ref 1), some (.ref 32), some (.int v2)] [] (zGs Ln I A) (fun r => ∃ x, r = (some (.int x), zGs Ln I A) ∧ Q x) := by
  unfold W_X7_ofNight_r1_r32 at h0
  obtain ⟨_, h1, r1, rfl, h2⟩ := T_X7_isNight Ln _ _ _ _ h0
  refine zS1 (fun r he => B_X7_ofNight_r1_r32_0 Ln _ _ _  h1 rfl he) ?_
  obtain ⟨h4, h5⟩ := h2
  by_cases h3 : (r1 : Int32) ≠ 0
  · refine zS1 (fun r he => B_X7_ofNight_r1_r32_4_s1 Ln _ _ _ _  (fun _ => he) (fun n => absurd h3 n)) ?_
    have h4 := h4 h3
    obtain ⟨_, h6, r2, rfl, h7⟩ := T_X7_noBank_r1 Ln _ _ _ h4
    refine zS1 (fun r he => B_X7_ofNight_r1_r32_9 Ln _ _ _  h6 rfl he) ?_
    obtain ⟨h9, h10⟩ := h7
    by_cases h8 : (r2 : Int32) = 0
    · refine zS1 (fun r he => B_X7_ofNight_r1_r32_13_s1 Ln _ _ _ _  (fun _ => he) (fun n => absurd h8 n)) ?_
      have h9 := h9 h8
      obtain ⟨h11, h12⟩ := h9
      refine zS1 (fun r he => B_X7_ofNight_r1_r32_21 Ln _ _ _ h11 he) ?_
      exact ⟨_, B_X7_ofNight_r1_r32_24_s1 Ln _ _ _ _ , _, rfl, h12⟩
    · refine zS1 (fun r he => B_X7_ofNight_r1_r32_13_s1 Ln _ _ _ _  (fun n => absurd n h8) (fun _ => he)) ?_
      have h10 := h10 h8
      refine zS1 (fun r he => B_X7_ofNight_r1_r32_16 Ln _ _ _  he) ?_
      exact ⟨_, B_X7_ofNight_r1_r32_24_s1 Ln _ _ _ _ , _, rfl, h10⟩
  · refine zS1 (fun r he => B_X7_ofNight_r1_r32_4_s1 Ln _ _ _ _  (fun n => absurd n h3) (fun _ => he)) ?_
    have h5 := h5 h3
    exact ⟨_, B_X7_ofNight_r1_r32_7 Ln _ _ _ , _, rfl, h5⟩
def W_X7_ofNight_r1_r30 (Ln : Nat) (I A : Nat → Nat → Int32) (v2 : Int32) (Q : Int32 → Prop) : Prop := ((W_X7_isNight Ln I A v2 (fun (r1 : Int32) => (((r1 : Int32) ≠ 0 → ((W_X7_noBank_r1 Ln I A  (fun (r2 : Int32) => (((r2 : Int32) = 0 → ((zin v2 60 = true) ∧ (Q (A 30 (v2).toNatClampNeg)))) ∧ (¬ ((r2 : Int32) = 0) → ((Q (-3))))))))) ∧ (¬ ((r1 : Int32) ≠ 0) → (Q (-1)))))))
set_option maxRecDepth 100000 in
theorem T_X7_ofNight_r1_r30 (Ln : Nat) (I A : Nat → Nat → Int32) (v2 : Int32) (Q : Int32 → Prop) (h0 : W_X7_ofNight_r1_r30 Ln I A v2 Q) : zSem 84 0 0 0 [some (.ref 1), some (.ref 30), some (.int v2)] [] (zGs Ln I A) (fun r => ∃ x, r = (some (.int x), zGs Ln I A) ∧ Q x) := by
  unfold W_X7_ofNight_r1_r30 at h0
  obtain ⟨_, h1, r1, rfl, h2⟩ := T_X7_isNight Ln _ _ _ _ h0
  refine zS1 (fun r he => B_X7_ofNight_r1_r30_0 Ln _ _ _  h1 rfl he) ?_
  obtain ⟨h4, h5⟩ := h2
  by_cases h3 : (r1 : Int32) ≠ 0
  · refine zS1 (fun r he => B_X7_ofNight_r1_r30_4_s1 Ln _ _ _ _  (fun _ => he) (fun n => absurd h3 n)) ?_
    have h4 := h4 h3
    obtain ⟨_, h6, r2, rfl, h7⟩ := T_X7_noBank_r1 Ln _ _ _ h4
    refine zS1 (fun r he => B_X7_ofNight_r1_r30_9 Ln _ _ _  h6 rfl he) ?_
    obtain ⟨h9, h10⟩ := h7
    by_cases h8 : (r2 : Int32) = 0
    · refine zS1 (fun r he => B_X7_ofNight_r1_r30_13_s1 Ln _ _ _ _  (fun _ => he) (fun n => absurd h8 n)) ?_
      have h9 := h9 h8
      obtain ⟨h11, h12⟩ := h9
      refine zS1 (fun r he => B_X7_ofNight_r1_r30_21 Ln _ _ _ h11 he) ?_
      exact ⟨_, B_X7_ofNight_r1_r30_24_s1 Ln _ _ _ _ , _, rfl, h12⟩
    · refine zS1 (fun r he => B_X7_ofNight_r1_r30_13_s1 Ln _ _ _ _  (fun n => absurd n h8) (fun _ => he)) ?_
      have h10 := h10 h8
      refine zS1 (fun r he => B_X7_ofNight_r1_r30_16 Ln _ _ _  he) ?_
      exact ⟨_, B_X7_ofNight_r1_r30_24_s1 Ln _ _ _ _ , _, rfl, h10⟩
  · refine zS1 (fun r he => B_X7_ofNight_r1_r30_4_s1 Ln _ _ _ _  (fun n => absurd n h3) (fun _ => he)) ?_
    have h5 := h5 h3
    exact ⟨_, B_X7_ofNight_r1_r30_7 Ln _ _ _ , _, rfl, h5⟩
