/-! what a method asks, by program (wip/whole/gen_wp.py) -/
def J_X7_copy_r1_14 (Ln : Nat) (I A : Nat → Nat → Int32) (v1 : Int32) (v2 : Int32) (v3 : Int32) (v4 : Int32) (v5 : Int32) (Q : Int32 → (Nat → Nat → Int32) → (Nat → Nat → Int32) → Prop) : Prop := ((W_X7_faultless_r1 Ln I A (-1) (fun (r2 : Int32) (I3 : Nat → Nat → Int32) => (Q r2 I3 A))))
set_option maxRecDepth 100000 in
theorem TJ_X7_copy_r1_14 {Ln : Nat} {I A : Nat → Nat → Int32} {v1 : Int32} {v2 : Int32} {v3 : Int32} {v4 : Int32} {v5 : Int32} {Q : Int32 → (Nat → Nat → Int32) → (Nat → Nat → Int32) → Prop} (h0 : J_X7_copy_r1_14 Ln I A v1 v2 v3 v4 v5   Q) : zSem 70 14 0 0 [some (.ref 1), some (.int v1), some (.int v2), some (.int v3), some (.int v4), some (.int v5), none, none] [] (zGs Ln I A) (fun r => ∃ x I1 A1, r = (some (.int x), zGs Ln I1 A1) ∧ Q x I1 A1) := by
  unfold J_X7_copy_r1_14 at h0
  obtain ⟨_, h1, r2, I3, rfl, h2⟩ := T_X7_faultless_r1 Ln _ _ _ _ h0
  refine zS1 (fun r he => B_X7_copy_r1_14 Ln _ _ _ _ _ _ _  h1 rfl he) ?_
  exact ⟨_, B_X7_copy_r1_19_s1 Ln _ _ _ _ _ _ _ _ , _, _, _, rfl, h2⟩
def W_X7_copy_r1 (Ln : Nat) (I A : Nat → Nat → Int32) (v1 : Int32) (v2 : Int32) (v3 : Int32) (v4 : Int32) (v5 : Int32) (Q : Int32 → (Nat → Nat → Int32) → (Nat → Nat → Int32) → Prop) : Prop := (v1 = 0 ∧ v3 = 0 → W_X7_copy_r1_c0_c0 Ln I A v2 v4 v5 Q) ∧ (v1 = 0 ∧ v3 = 1 → W_X7_copy_r1_c0_c1 Ln I A v2 v4 v5 Q) ∧ (v1 = 0 ∧ v3 = 2 → W_X7_copy_r1_c0_c2 Ln I A v2 v4 v5 Q) ∧ (v1 = 0 ∧ v3 = 3 → W_X7_copy_r1_c0_c3 Ln I A v2 v4 v5 Q) ∧ (v1 = 1 ∧ v3 = 0 → W_X7_copy_r1_c1_c0 Ln I A v2 v4 v5 Q) ∧ (v1 = 1 ∧ v3 = 1 → W_X7_copy_r1_c1_c1 Ln I A v2 v4 v5 Q) ∧ (v1 = 1 ∧ v3 = 2 → W_X7_copy_r1_c1_c2 Ln I A v2 v4 v5 Q) ∧ (v1 = 1 ∧ v3 = 3 → W_X7_copy_r1_c1_c3 Ln I A v2 v4 v5 Q) ∧ (v1 = 2 ∧ v3 = 0 → W_X7_copy_r1_c2_c0 Ln I A v2 v4 v5 Q) ∧ (v1 = 2 ∧ v3 = 1 → W_X7_copy_r1_c2_c1 Ln I A v2 v4 v5 Q) ∧ (v1 = 2 ∧ v3 = 2 → W_X7_copy_r1_c2_c2 Ln I A v2 v4 v5 Q) ∧ (v1 = 2 ∧ v3 = 3 → W_X7_copy_r1_c2_c3 Ln I A v2 v4 v5 Q) ∧ (v1 = 3 ∧ v3 = 0 → W_X7_copy_r1_c3_c0 Ln I A v2 v4 v5 Q) ∧ (v1 = 3 ∧ v3 = 1 → W_X7_copy_r1_c3_c1 Ln I A v2 v4 v5 Q) ∧ (v1 = 3 ∧ v3 = 2 → W_X7_copy_r1_c3_c2 Ln I A v2 v4 v5 Q) ∧ (v1 = 3 ∧ v3 = 3 → W_X7_copy_r1_c3_c3 Ln I A v2 v4 v5 Q) ∧ (¬ (v1 = 0 ∧ v3 = 0) → ¬ (v1 = 0 ∧ v3 = 1) → ¬ (v1 = 0 ∧ v3 = 2) → ¬ (v1 = 0 ∧ v3 = 3) → ¬ (v1 = 1 ∧ v3 = 0) → ¬ (v1 = 1 ∧ v3 = 1) → ¬ (v1 = 1 ∧ v3 = 2) → ¬ (v1 = 1 ∧ v3 = 3) → ¬ (v1 = 2 ∧ v3 = 0) → ¬ (v1 = 2 ∧ v3 = 1) → ¬ (v1 = 2 ∧ v3 = 2) → ¬ (v1 = 2 ∧ v3 = 3) → ¬ (v1 = 3 ∧ v3 = 0) → ¬ (v1 = 3 ∧ v3 = 1) → ¬ (v1 = 3 ∧ v3 = 2) → ¬ (v1 = 3 ∧ v3 = 3) → ((W_X7_isSheet Ln I A v1 (fun (r1 : Int32) => (((r1 : Int32) = 0 → (J_X7_copy_r1_14 Ln I A v1 v2 v3 v4 v5  Q)) ∧ (¬ ((r1 : Int32) = 0) → ((W_X7_isSheet Ln I A v3 (fun (r4 : Int32) => (((r4 : Int32) ≠ 0 → False) ∧ (¬ ((r4 : Int32) ≠ 0) → (J_X7_copy_r1_14 Ln I A v1 v2 v3 v4 v5  Q))))))))))))
set_option maxRecDepth 100000 in
theorem T_X7_copy_r1 (Ln : Nat) (I A : Nat → Nat → Int32) (v1 : Int32) (v2 : Int32) (v3 : Int32) (v4 : Int32) (v5 : Int32) (Q : Int32 → (Nat → Nat → Int32) → (Nat → Nat → Int32) → Prop) (h0 : W_X7_copy_r1 Ln I A v1 v2 v3 v4 v5 Q) : zSem 70 0 0 0 [some (.ref 1), some (.int v1), some (.int v2), some (.int v3), some (.int v4), some (.int v5), none, none] [] (zGs Ln I A) (fun r => ∃ x I1 A1, r = (some (.int x), zGs Ln I1 A1) ∧ Q x I1 A1) := by
  unfold W_X7_copy_r1 at h0
  obtain ⟨c0, c1, c2, c3, c4, c5, c6, c7, c8, c9, c10, c11, c12, c13, c14, c15, hg⟩ := h0
  by_cases n0 : v1 = 0 ∧ v3 = 0
  · have q := c0 n0
    obtain ⟨n0a, n0b⟩ := n0; subst n0a; subst n0b
    exact T_X7_copy_r1_c0_c0 Ln I A v2 v4 v5 Q q
  by_cases n1 : v1 = 0 ∧ v3 = 1
  · have q := c1 n1
    obtain ⟨n1a, n1b⟩ := n1; subst n1a; subst n1b
    exact T_X7_copy_r1_c0_c1 Ln I A v2 v4 v5 Q q
  by_cases n2 : v1 = 0 ∧ v3 = 2
  · have q := c2 n2
    obtain ⟨n2a, n2b⟩ := n2; subst n2a; subst n2b
    exact T_X7_copy_r1_c0_c2 Ln I A v2 v4 v5 Q q
  by_cases n3 : v1 = 0 ∧ v3 = 3
  · have q := c3 n3
    obtain ⟨n3a, n3b⟩ := n3; subst n3a; subst n3b
    exact T_X7_copy_r1_c0_c3 Ln I A v2 v4 v5 Q q
  by_cases n4 : v1 = 1 ∧ v3 = 0
  · have q := c4 n4
    obtain ⟨n4a, n4b⟩ := n4; subst n4a; subst n4b
    exact T_X7_copy_r1_c1_c0 Ln I A v2 v4 v5 Q q
  by_cases n5 : v1 = 1 ∧ v3 = 1
  · have q := c5 n5
    obtain ⟨n5a, n5b⟩ := n5; subst n5a; subst n5b
    exact T_X7_copy_r1_c1_c1 Ln I A v2 v4 v5 Q q
  by_cases n6 : v1 = 1 ∧ v3 = 2
  · have q := c6 n6
    obtain ⟨n6a, n6b⟩ := n6; subst n6a; subst n6b
    exact T_X7_copy_r1_c1_c2 Ln I A v2 v4 v5 Q q
  by_cases n7 : v1 = 1 ∧ v3 = 3
  · have q := c7 n7
    obtain ⟨n7a, n7b⟩ := n7; subst n7a; subst n7b
    exact T_X7_copy_r1_c1_c3 Ln I A v2 v4 v5 Q q
  by_cases n8 : v1 = 2 ∧ v3 = 0
  · have q := c8 n8
    obtain ⟨n8a, n8b⟩ := n8; subst n8a; subst n8b
    exact T_X7_copy_r1_c2_c0 Ln I A v2 v4 v5 Q q
  by_cases n9 : v1 = 2 ∧ v3 = 1
  · have q := c9 n9
    obtain ⟨n9a, n9b⟩ := n9; subst n9a; subst n9b
    exact T_X7_copy_r1_c2_c1 Ln I A v2 v4 v5 Q q
  by_cases n10 : v1 = 2 ∧ v3 = 2
  · have q := c10 n10
    obtain ⟨n10a, n10b⟩ := n10; subst n10a; subst n10b
    exact T_X7_copy_r1_c2_c2 Ln I A v2 v4 v5 Q q
  by_cases n11 : v1 = 2 ∧ v3 = 3
  · have q := c11 n11
    obtain ⟨n11a, n11b⟩ := n11; subst n11a; subst n11b
    exact T_X7_copy_r1_c2_c3 Ln I A v2 v4 v5 Q q
  by_cases n12 : v1 = 3 ∧ v3 = 0
  · have q := c12 n12
    obtain ⟨n12a, n12b⟩ := n12; subst n12a; subst n12b
    exact T_X7_copy_r1_c3_c0 Ln I A v2 v4 v5 Q q
  by_cases n13 : v1 = 3 ∧ v3 = 1
  · have q := c13 n13
    obtain ⟨n13a, n13b⟩ := n13; subst n13a; subst n13b
    exact T_X7_copy_r1_c3_c1 Ln I A v2 v4 v5 Q q
  by_cases n14 : v1 = 3 ∧ v3 = 2
  · have q := c14 n14
    obtain ⟨n14a, n14b⟩ := n14; subst n14a; subst n14b
    exact T_X7_copy_r1_c3_c2 Ln I A v2 v4 v5 Q q
  by_cases n15 : v1 = 3 ∧ v3 = 3
  · have q := c15 n15
    obtain ⟨n15a, n15b⟩ := n15; subst n15a; subst n15b
    exact T_X7_copy_r1_c3_c3 Ln I A v2 v4 v5 Q q
  have h0 := hg n0 n1 n2 n3 n4 n5 n6 n7 n8 n9 n10 n11 n12 n13 n14 n15
  obtain ⟨_, h1, r1, rfl, h2⟩ := T_X7_isSheet Ln _ _ _ _ h0
  refine zS1 (fun r he => B_X7_copy_r1_0 Ln _ _ _ _ _ _ _  h1 rfl he) ?_
  obtain ⟨h4, h5⟩ := h2
  by_cases h3 : (r1 : Int32) = 0
  · refine zS1 (fun r he => B_X7_copy_r1_4_s1 Ln _ _ _ _ _ _ _ _  (fun _ => he) (fun n => absurd h3 n)) ?_
    have h4 := h4 h3
    exact TJ_X7_copy_r1_14  h4
  · refine zS1 (fun r he => B_X7_copy_r1_4_s1 Ln _ _ _ _ _ _ _ _  (fun n => absurd n h3) (fun _ => he)) ?_
    have h5 := h5 h3
    obtain ⟨_, h6, r4, rfl, h7⟩ := T_X7_isSheet Ln _ _ _ _ h5
    refine zS1 (fun r he => B_X7_copy_r1_7 Ln _ _ _ _ _ _ _  h6 rfl he) ?_
    obtain ⟨h9, h10⟩ := h7
    by_cases h8 : (r4 : Int32) ≠ 0
    · refine zS1 (fun r he => B_X7_copy_r1_11_s1 Ln _ _ _ _ _ _ _ _  (fun _ => he) (fun n => absurd h8 n)) ?_
      have h9 := h9 h8
      exact h9.elim
    · refine zS1 (fun r he => B_X7_copy_r1_11_s1 Ln _ _ _ _ _ _ _ _  (fun n => absurd n h8) (fun _ => he)) ?_
      have h10 := h10 h8
      exact TJ_X7_copy_r1_14  h10
