/-! what a method asks, by program (wip/whole/gen_wp.py) -/
def W_X7_back_r1 (Ln : Nat) (I A : Nat → Nat → Int32) (v1 : Int32) (Q : Int32 → (Nat → Nat → Int32) → Prop) : Prop := (((v1 : Int32) < 0 → (Q (-2) I)) ∧ (¬ ((v1 : Int32) < 0) → (((v1 : Int32) ≤ (I 22 3) → (Q ((I 22 3) - v1) (zp I 22 3 ((I 22 3) - v1)))) ∧ (¬ ((v1 : Int32) ≤ (I 22 3)) → (Q (-2) I)))))
set_option maxRecDepth 100000 in
theorem T_X7_back_r1 (Ln : Nat) (I A : Nat → Nat → Int32) (v1 : Int32) (Q : Int32 → (Nat → Nat → Int32) → Prop) (h0 : W_X7_back_r1 Ln I A v1 Q) : zSem 63 0 0 0 [some (.ref 1), some (.int v1)] [] (zGs Ln I A) (fun r => ∃ x I1, r = (some (.int x), zGs Ln I1 A) ∧ Q x I1) := by
  unfold W_X7_back_r1 at h0
  obtain ⟨h2, h3⟩ := h0
  by_cases h1 : (v1 : Int32) < 0
  · refine zS1 (fun r he => B_X7_back_r1_0 Ln _ _ _  (fun _ => he) (fun n => absurd h1 n)) ?_
    have h2 := h2 h1
    exact ⟨_, B_X7_back_r1_15 Ln _ _ _ , _, _, rfl, h2⟩
  · refine zS1 (fun r he => B_X7_back_r1_0 Ln _ _ _  (fun n => absurd n h1) (fun _ => he)) ?_
    have h3 := h3 h1
    obtain ⟨h5, h6⟩ := h3
    by_cases h4 : (v1 : Int32) ≤ (I 22 3)
    · refine zS1 (fun r he => B_X7_back_r1_4 Ln _ _ _  (fun _ => he) (fun n => absurd h4 n)) ?_
      have h5 := h5 h4
      exact ⟨_, B_X7_back_r1_18 Ln _ _ _ , _, _, rfl, h5⟩
    · refine zS1 (fun r he => B_X7_back_r1_4 Ln _ _ _  (fun n => absurd n h4) (fun _ => he)) ?_
      have h6 := h6 h4
      exact ⟨_, B_X7_back_r1_15 Ln _ _ _ , _, _, rfl, h6⟩
def W_X7_trace_r1 (Ln : Nat) (I A : Nat → Nat → Int32) (Q : Int32 → Prop) : Prop := (Q (I 1 10))
set_option maxRecDepth 100000 in
theorem T_X7_trace_r1 (Ln : Nat) (I A : Nat → Nat → Int32) (Q : Int32 → Prop) (h0 : W_X7_trace_r1 Ln I A Q) : zSem 74 0 0 0 [some (.ref 1)] [] (zGs Ln I A) (fun r => ∃ x, r = (some (.int x), zGs Ln I A) ∧ Q x) := by
  unfold W_X7_trace_r1 at h0
  exact ⟨_, B_X7_trace_r1_0 Ln _ _  , _, rfl, h0⟩
def W_X7_fault_r1 (Ln : Nat) (I A : Nat → Nat → Int32) (Q : Int32 → Prop) : Prop := (Q (I 1 11))
set_option maxRecDepth 100000 in
theorem T_X7_fault_r1 (Ln : Nat) (I A : Nat → Nat → Int32) (Q : Int32 → Prop) (h0 : W_X7_fault_r1 Ln I A Q) : zSem 75 0 0 0 [some (.ref 1)] [] (zGs Ln I A) (fun r => ∃ x, r = (some (.int x), zGs Ln I A) ∧ Q x) := by
  unfold W_X7_fault_r1 at h0
  exact ⟨_, B_X7_fault_r1_0 Ln _ _  , _, rfl, h0⟩
def W_X7_many_r1 (Ln : Nat) (I A : Nat → Nat → Int32) (v1 : Int32) (Q : Int32 → Prop) : Prop := (((v1 : Int32).toInt = 0 → (Q (I 11 0))) ∧ ((v1 : Int32).toInt = 1 → (Q (I 11 1))) ∧ ((v1 : Int32).toInt = 2 → (Q (I 11 2))) ∧ ((v1 : Int32).toInt = 3 → (Q (I 11 3))) ∧ ((v1 : Int32).toInt = 4 → (Q (I 18 3))) ∧ ((v1 : Int32).toInt = 5 → (Q (I 22 3))) ∧ ((v1 : Int32).toInt = 6 → (Q (I 1 9))) ∧ (¬ ((v1 : Int32).toInt = 0) → ¬ ((v1 : Int32).toInt = 1) → ¬ ((v1 : Int32).toInt = 2) → ¬ ((v1 : Int32).toInt = 3) → ¬ ((v1 : Int32).toInt = 4) → ¬ ((v1 : Int32).toInt = 5) → ¬ ((v1 : Int32).toInt = 6) → (Q (-2))))
set_option maxRecDepth 100000 in
theorem T_X7_many_r1 (Ln : Nat) (I A : Nat → Nat → Int32) (v1 : Int32) (Q : Int32 → Prop) (h0 : W_X7_many_r1 Ln I A v1 Q) : zSem 76 0 0 0 [some (.ref 1), some (.int v1)] [] (zGs Ln I A) (fun r => ∃ x, r = (some (.int x), zGs Ln I A) ∧ Q x) := by
  unfold W_X7_many_r1 at h0
  obtain ⟨h1, h2, h3, h4, h5, h6, h7, h8⟩ := h0
  by_cases h9 : (v1 : Int32).toInt = 0
  · refine zS1 (fun r he => B_X7_many_r1_0 Ln _ _ _  (fun _ => he) (fun q => absurd (q.symm.trans h9) (by decide)) (fun q => absurd (q.symm.trans h9) (by decide)) (fun q => absurd (q.symm.trans h9) (by decide)) (fun q => absurd (q.symm.trans h9) (by decide)) (fun q => absurd (q.symm.trans h9) (by decide)) (fun q => absurd (q.symm.trans h9) (by decide)) (fun n0 n1 n2 n3 n4 n5 n6 => absurd h9 n0)) ?_
    have h1 := h1 h9
    exact ⟨_, B_X7_many_r1_44 Ln _ _ _ , _, rfl, h1⟩
  by_cases h10 : (v1 : Int32).toInt = 1
  · refine zS1 (fun r he => B_X7_many_r1_0 Ln _ _ _  (fun q => absurd (q.symm.trans h10) (by decide)) (fun _ => he) (fun q => absurd (q.symm.trans h10) (by decide)) (fun q => absurd (q.symm.trans h10) (by decide)) (fun q => absurd (q.symm.trans h10) (by decide)) (fun q => absurd (q.symm.trans h10) (by decide)) (fun q => absurd (q.symm.trans h10) (by decide)) (fun n0 n1 n2 n3 n4 n5 n6 => absurd h10 n1)) ?_
    have h2 := h2 h10
    exact ⟨_, B_X7_many_r1_52 Ln _ _ _ , _, rfl, h2⟩
  by_cases h11 : (v1 : Int32).toInt = 2
  · refine zS1 (fun r he => B_X7_many_r1_0 Ln _ _ _  (fun q => absurd (q.symm.trans h11) (by decide)) (fun q => absurd (q.symm.trans h11) (by decide)) (fun _ => he) (fun q => absurd (q.symm.trans h11) (by decide)) (fun q => absurd (q.symm.trans h11) (by decide)) (fun q => absurd (q.symm.trans h11) (by decide)) (fun q => absurd (q.symm.trans h11) (by decide)) (fun n0 n1 n2 n3 n4 n5 n6 => absurd h11 n2)) ?_
    have h3 := h3 h11
    exact ⟨_, B_X7_many_r1_60 Ln _ _ _ , _, rfl, h3⟩
  by_cases h12 : (v1 : Int32).toInt = 3
  · refine zS1 (fun r he => B_X7_many_r1_0 Ln _ _ _  (fun q => absurd (q.symm.trans h12) (by decide)) (fun q => absurd (q.symm.trans h12) (by decide)) (fun q => absurd (q.symm.trans h12) (by decide)) (fun _ => he) (fun q => absurd (q.symm.trans h12) (by decide)) (fun q => absurd (q.symm.trans h12) (by decide)) (fun q => absurd (q.symm.trans h12) (by decide)) (fun n0 n1 n2 n3 n4 n5 n6 => absurd h12 n3)) ?_
    have h4 := h4 h12
    exact ⟨_, B_X7_many_r1_68 Ln _ _ _ , _, rfl, h4⟩
  by_cases h13 : (v1 : Int32).toInt = 4
  · refine zS1 (fun r he => B_X7_many_r1_0 Ln _ _ _  (fun q => absurd (q.symm.trans h13) (by decide)) (fun q => absurd (q.symm.trans h13) (by decide)) (fun q => absurd (q.symm.trans h13) (by decide)) (fun q => absurd (q.symm.trans h13) (by decide)) (fun _ => he) (fun q => absurd (q.symm.trans h13) (by decide)) (fun q => absurd (q.symm.trans h13) (by decide)) (fun n0 n1 n2 n3 n4 n5 n6 => absurd h13 n4)) ?_
    have h5 := h5 h13
    exact ⟨_, B_X7_many_r1_76 Ln _ _ _ , _, rfl, h5⟩
  by_cases h14 : (v1 : Int32).toInt = 5
  · refine zS1 (fun r he => B_X7_many_r1_0 Ln _ _ _  (fun q => absurd (q.symm.trans h14) (by decide)) (fun q => absurd (q.symm.trans h14) (by decide)) (fun q => absurd (q.symm.trans h14) (by decide)) (fun q => absurd (q.symm.trans h14) (by decide)) (fun q => absurd (q.symm.trans h14) (by decide)) (fun _ => he) (fun q => absurd (q.symm.trans h14) (by decide)) (fun n0 n1 n2 n3 n4 n5 n6 => absurd h14 n5)) ?_
    have h6 := h6 h14
    exact ⟨_, B_X7_many_r1_84 Ln _ _ _ , _, rfl, h6⟩
  by_cases h15 : (v1 : Int32).toInt = 6
  · refine zS1 (fun r he => B_X7_many_r1_0 Ln _ _ _  (fun q => absurd (q.symm.trans h15) (by decide)) (fun q => absurd (q.symm.trans h15) (by decide)) (fun q => absurd (q.symm.trans h15) (by decide)) (fun q => absurd (q.symm.trans h15) (by decide)) (fun q => absurd (q.symm.trans h15) (by decide)) (fun q => absurd (q.symm.trans h15) (by decide)) (fun _ => he) (fun n0 n1 n2 n3 n4 n5 n6 => absurd h15 n6)) ?_
    have h7 := h7 h15
    exact ⟨_, B_X7_many_r1_92 Ln _ _ _ , _, rfl, h7⟩
  refine zS1 (fun r he => B_X7_many_r1_0 Ln _ _ _  (fun q => absurd q h9) (fun q => absurd q h10) (fun q => absurd q h11) (fun q => absurd q h12) (fun q => absurd q h13) (fun q => absurd q h14) (fun q => absurd q h15) (fun _ _ _ _ _ _ _ => he)) ?_
  have h8 := h8 h9 h10 h11 h12 h13 h14 h15
  exact ⟨_, B_X7_many_r1_97 Ln _ _ _ , _, rfl, h8⟩
def W_X7_noBank_r1 (Ln : Nat) (I A : Nat → Nat → Int32) (Q : Int32 → Prop) : Prop := ((((I 11 0) : Int32) ≠ 0 → ((Q 0))) ∧ (¬ (((I 11 0) : Int32) ≠ 0) → ((Q 1))))
set_option maxRecDepth 100000 in
theorem T_X7_noBank_r1 (Ln : Nat) (I A : Nat → Nat → Int32) (Q : Int32 → Prop) (h0 : W_X7_noBank_r1 Ln I A Q) : zSem 77 0 0 0 [some (.ref 1)] [] (zGs Ln I A) (fun r => ∃ x, r = (some (.int x), zGs Ln I A) ∧ Q x) := by
  unfold W_X7_noBank_r1 at h0
  obtain ⟨h2, h3⟩ := h0
  by_cases h1 : ((I 11 0) : Int32) ≠ 0
  · refine zS1 (fun r he => B_X7_noBank_r1_0 Ln _ _   (fun _ => he) (fun n => absurd h1 n)) ?_
    have h2 := h2 h1
    refine zS1 (fun r he => B_X7_noBank_r1_14 Ln _ _   he) ?_
    exact ⟨_, B_X7_noBank_r1_15_s1 Ln _ _ _  (by decide), _, rfl, h2⟩
  · refine zS1 (fun r he => B_X7_noBank_r1_0 Ln _ _   (fun n => absurd n h1) (fun _ => he)) ?_
    have h3 := h3 h1
    refine zS1 (fun r he => B_X7_noBank_r1_10 Ln _ _   he) ?_
    exact ⟨_, B_X7_noBank_r1_15_s1 Ln _ _ _  (by decide), _, rfl, h3⟩
def W_X7_isShade_r1 (Ln : Nat) (I A : Nat → Nat → Int32) (v1 : Int32) (Q : Int32 → Prop) : Prop := (((v1 : Int32) < 0 → ((Q 0))) ∧ (¬ ((v1 : Int32) < 0) → ((((I 11 0) : Int32) ≤ v1 → ((Q 0))) ∧ (¬ (((I 11 0) : Int32) ≤ v1) → ((Q 1))))))
set_option maxRecDepth 100000 in
theorem T_X7_isShade_r1 (Ln : Nat) (I A : Nat → Nat → Int32) (v1 : Int32) (Q : Int32 → Prop) (h0 : W_X7_isShade_r1 Ln I A v1 Q) : zSem 78 0 0 0 [some (.ref 1), some (.int v1)] [] (zGs Ln I A) (fun r => ∃ x, r = (some (.int x), zGs Ln I A) ∧ Q x) := by
  unfold W_X7_isShade_r1 at h0
  obtain ⟨h2, h3⟩ := h0
  by_cases h1 : (v1 : Int32) < 0
  · refine zS1 (fun r he => B_X7_isShade_r1_0 Ln _ _ _  (fun _ => he) (fun n => absurd h1 n)) ?_
    have h2 := h2 h1
    refine zS1 (fun r he => B_X7_isShade_r1_19 Ln _ _ _  he) ?_
    exact ⟨_, B_X7_isShade_r1_20_s1 Ln _ _ _ _  (by decide), _, rfl, h2⟩
  · refine zS1 (fun r he => B_X7_isShade_r1_0 Ln _ _ _  (fun n => absurd n h1) (fun _ => he)) ?_
    have h3 := h3 h1
    obtain ⟨h5, h6⟩ := h3
    by_cases h4 : ((I 11 0) : Int32) ≤ v1
    · refine zS1 (fun r he => B_X7_isShade_r1_4 Ln _ _ _  (fun _ => he) (fun n => absurd h4 n)) ?_
      have h5 := h5 h4
      refine zS1 (fun r he => B_X7_isShade_r1_19 Ln _ _ _  he) ?_
      exact ⟨_, B_X7_isShade_r1_20_s1 Ln _ _ _ _  (by decide), _, rfl, h5⟩
    · refine zS1 (fun r he => B_X7_isShade_r1_4 Ln _ _ _  (fun n => absurd n h4) (fun _ => he)) ?_
      have h6 := h6 h4
      refine zS1 (fun r he => B_X7_isShade_r1_15 Ln _ _ _  he) ?_
      exact ⟨_, B_X7_isShade_r1_20_s1 Ln _ _ _ _  (by decide), _, rfl, h6⟩
def W_X7_faultless_r1 (Ln : Nat) (I A : Nat → Nat → Int32) (v1 : Int32) (Q : Int32 → (Nat → Nat → Int32) → Prop) : Prop := (Q v1 (zp I 1 11 0))
set_option maxRecDepth 100000 in
theorem T_X7_faultless_r1 (Ln : Nat) (I A : Nat → Nat → Int32) (v1 : Int32) (Q : Int32 → (Nat → Nat → Int32) → Prop) (h0 : W_X7_faultless_r1 Ln I A v1 Q) : zSem 82 0 0 0 [some (.ref 1), some (.int v1)] [] (zGs Ln I A) (fun r => ∃ x I1, r = (some (.int x), zGs Ln I1 A) ∧ Q x I1) := by
  unfold W_X7_faultless_r1 at h0
  exact ⟨_, B_X7_faultless_r1_0 Ln _ _ _ , _, _, rfl, h0⟩
def W_X7_faulted_r1 (Ln : Nat) (I A : Nat → Nat → Int32) (v1 : Int32) (Q : Int32 → (Nat → Nat → Int32) → Prop) : Prop := (Q (((-10)) - v1) (zp I 1 11 v1))
set_option maxRecDepth 100000 in
theorem T_X7_faulted_r1 (Ln : Nat) (I A : Nat → Nat → Int32) (v1 : Int32) (Q : Int32 → (Nat → Nat → Int32) → Prop) (h0 : W_X7_faulted_r1 Ln I A v1 Q) : zSem 83 0 0 0 [some (.ref 1), some (.int v1)] [] (zGs Ln I A) (fun r => ∃ x I1, r = (some (.int x), zGs Ln I1 A) ∧ Q x I1) := by
  unfold W_X7_faulted_r1 at h0
  exact ⟨_, B_X7_faulted_r1_0 Ln _ _ _ , _, _, rfl, h0⟩
def W_X7_leave_r1 (Ln : Nat) (I A : Nat → Nat → Int32) (v1 : Int32) (Q : (Nat → Nat → Int32) → Prop) : Prop := (Q (zp I 1 10 ((31 * (I 1 10)) + v1)))
set_option maxRecDepth 100000 in
theorem T_X7_leave_r1 (Ln : Nat) (I A : Nat → Nat → Int32) (v1 : Int32) (Q : (Nat → Nat → Int32) → Prop) (h0 : W_X7_leave_r1 Ln I A v1 Q) : zSem 87 0 0 0 [some (.ref 1), some (.int v1)] [] (zGs Ln I A) (fun r => ∃ I1, r = (none, zGs Ln I1 A) ∧ Q I1) := by
  unfold W_X7_leave_r1 at h0
  exact ⟨_, B_X7_leave_r1_0 Ln _ _ _ , _, rfl, h0⟩
def W_X7_shadeTells_r1 (Ln : Nat) (I A : Nat → Nat → Int32) (v1 : Int32) (Q : Int32 → (Nat → Nat → Int32) → Prop) : Prop := ((W_X7_leave_r1 Ln I A 1 (fun (I1 : Nat → Nat → Int32) => ((zin v1 6 = true) ∧ Q (A 14 (v1).toNatClampNeg) I1))))
set_option maxRecDepth 100000 in
theorem T_X7_shadeTells_r1 (Ln : Nat) (I A : Nat → Nat → Int32) (v1 : Int32) (Q : Int32 → (Nat → Nat → Int32) → Prop) (h0 : W_X7_shadeTells_r1 Ln I A v1 Q) : zSem 88 0 0 0 [some (.ref 1), some (.int v1)] [] (zGs Ln I A) (fun r => ∃ x I1, r = (some (.int x), zGs Ln I1 A) ∧ Q x I1) := by
  unfold W_X7_shadeTells_r1 at h0
  obtain ⟨_, h1, I1, rfl, h2⟩ := T_X7_leave_r1 Ln _ _ _ _ h0
  refine zS1 (fun r he => B_X7_shadeTells_r1_0 Ln _ _ _  h1 rfl he) ?_
  obtain ⟨h3, h4⟩ := h2
  exact ⟨_, B_X7_shadeTells_r1_5 Ln _ _ _ h3, _, _, rfl, h4⟩
def W_X7_drownedTells_r1 (Ln : Nat) (I A : Nat → Nat → Int32) (v1 : Int32) (Q : Int32 → (Nat → Nat → Int32) → Prop) : Prop := ((W_X7_leave_r1 Ln I A 2 (fun (I1 : Nat → Nat → Int32) => ((W_X7_shadeTells_r1 Ln I1 A v1 (fun (r2 : Int32) (I3 : Nat → Nat → Int32) => (Q (r2 + 100) I3)))))))
set_option maxRecDepth 100000 in
theorem T_X7_drownedTells_r1 (Ln : Nat) (I A : Nat → Nat → Int32) (v1 : Int32) (Q : Int32 → (Nat → Nat → Int32) → Prop) (h0 : W_X7_drownedTells_r1 Ln I A v1 Q) : zSem 89 0 0 0 [some (.ref 1), some (.int v1)] [] (zGs Ln I A) (fun r => ∃ x I1, r = (some (.int x), zGs Ln I1 A) ∧ Q x I1) := by
  unfold W_X7_drownedTells_r1 at h0
  obtain ⟨_, h1, I1, rfl, h2⟩ := T_X7_leave_r1 Ln _ _ _ _ h0
  refine zS1 (fun r he => B_X7_drownedTells_r1_0 Ln _ _ _  h1 rfl he) ?_
  obtain ⟨_, h3, r2, I3, rfl, h4⟩ := T_X7_shadeTells_r1 Ln _ _ _ _ h2
  refine zS1 (fun r he => B_X7_drownedTells_r1_5 Ln _ _ _  h3 rfl he) ?_
  exact ⟨_, B_X7_drownedTells_r1_10_s1 Ln _ _ _ _ , _, _, rfl, h4⟩
def W_X7_livingTells_r1 (Ln : Nat) (I A : Nat → Nat → Int32) (v1 : Int32) (Q : Int32 → (Nat → Nat → Int32) → Prop) : Prop := ((W_X7_leave_r1 Ln I A 3 (fun (I1 : Nat → Nat → Int32) => ((W_X7_drownedTells_r1 Ln I1 A v1 (fun (r2 : Int32) (I3 : Nat → Nat → Int32) => ((W_X7_shadeTells_r1 Ln I3 A v1 (fun (r4 : Int32) (I5 : Nat → Nat → Int32) => (Q (r2 + r4) I5))))))))))
set_option maxRecDepth 100000 in
theorem T_X7_livingTells_r1 (Ln : Nat) (I A : Nat → Nat → Int32) (v1 : Int32) (Q : Int32 → (Nat → Nat → Int32) → Prop) (h0 : W_X7_livingTells_r1 Ln I A v1 Q) : zSem 90 0 0 0 [some (.ref 1), some (.int v1), none] [] (zGs Ln I A) (fun r => ∃ x I1, r = (some (.int x), zGs Ln I1 A) ∧ Q x I1) := by
  unfold W_X7_livingTells_r1 at h0
  obtain ⟨_, h1, I1, rfl, h2⟩ := T_X7_leave_r1 Ln _ _ _ _ h0
  refine zS1 (fun r he => B_X7_livingTells_r1_0 Ln _ _ _  h1 rfl he) ?_
  obtain ⟨_, h3, r2, I3, rfl, h4⟩ := T_X7_drownedTells_r1 Ln _ _ _ _ h2
  refine zS1 (fun r he => B_X7_livingTells_r1_5 Ln _ _ _  h3 rfl he) ?_
  obtain ⟨_, h5, r4, I5, rfl, h6⟩ := T_X7_shadeTells_r1 Ln _ _ _ _ h4
  refine zS1 (fun r he => B_X7_livingTells_r1_10_s1 Ln _ _ _ _  h5 rfl he) ?_
  exact ⟨_, B_X7_livingTells_r1_17_s2 Ln _ _ _ _ _ _ , _, _, rfl, h6⟩
def W_X7_hailByNumber_r1 (Ln : Nat) (I A : Nat → Nat → Int32) (v1 : Int32) (Q : Int32 → (Nat → Nat → Int32) → Prop) : Prop := ((W_X7_leave_r1 Ln I A 4 (fun (I1 : Nat → Nat → Int32) => (Q v1 I1))))
set_option maxRecDepth 100000 in
theorem T_X7_hailByNumber_r1 (Ln : Nat) (I A : Nat → Nat → Int32) (v1 : Int32) (Q : Int32 → (Nat → Nat → Int32) → Prop) (h0 : W_X7_hailByNumber_r1 Ln I A v1 Q) : zSem 91 0 0 0 [some (.ref 1), some (.int v1)] [] (zGs Ln I A) (fun r => ∃ x I1, r = (some (.int x), zGs Ln I1 A) ∧ Q x I1) := by
  unfold W_X7_hailByNumber_r1 at h0
  obtain ⟨_, h1, I1, rfl, h2⟩ := T_X7_leave_r1 Ln _ _ _ _ h0
  refine zS1 (fun r he => B_X7_hailByNumber_r1_0 Ln _ _ _  h1 rfl he) ?_
  exact ⟨_, B_X7_hailByNumber_r1_5 Ln _ _ _ , _, _, rfl, h2⟩
def W_X7_hailLiving_r1 (Ln : Nat) (I A : Nat → Nat → Int32) (Q : Int32 → (Nat → Nat → Int32) → Prop) : Prop := ((W_X7_leave_r1 Ln I A 5 (fun (I1 : Nat → Nat → Int32) => (Q 60 I1))))
set_option maxRecDepth 100000 in
theorem T_X7_hailLiving_r1 (Ln : Nat) (I A : Nat → Nat → Int32) (Q : Int32 → (Nat → Nat → Int32) → Prop) (h0 : W_X7_hailLiving_r1 Ln I A Q) : zSem 92 0 0 0 [some (.ref 1)] [] (zGs Ln I A) (fun r => ∃ x I1, r = (some (.int x), zGs Ln I1 A) ∧ Q x I1) := by
  unfold W_X7_hailLiving_r1 at h0
  obtain ⟨_, h1, I1, rfl, h2⟩ := T_X7_leave_r1 Ln _ _ _ _ h0
  refine zS1 (fun r he => B_X7_hailLiving_r1_0 Ln _ _   h1 rfl he) ?_
  exact ⟨_, B_X7_hailLiving_r1_5 Ln _ _  , _, _, rfl, h2⟩
def W_X8_refused_r44 (Ln : Nat) (I A : Nat → Nat → Int32) (v1 : Int32) (Q : Int32 → (Nat → Nat → Int32) → Prop) : Prop := (Q v1 (zp I 44 0 0))
set_option maxRecDepth 100000 in
theorem T_X8_refused_r44 (Ln : Nat) (I A : Nat → Nat → Int32) (v1 : Int32) (Q : Int32 → (Nat → Nat → Int32) → Prop) (h0 : W_X8_refused_r44 Ln I A v1 Q) : zSem 98 0 0 0 [some (.ref 44), some (.int v1)] [] (zGs Ln I A) (fun r => ∃ x I1, r = (some (.int x), zGs Ln I1 A) ∧ Q x I1) := by
  unfold W_X8_refused_r44 at h0
  exact ⟨_, B_X8_refused_r44_0 Ln _ _ _ , _, _, rfl, h0⟩
def W_X8_failed_r44 (Ln : Nat) (I A : Nat → Nat → Int32) (v1 : Int32) (Q : Int32 → (Nat → Nat → Int32) → Prop) : Prop := (Q (((-10)) - v1) (zp I 44 0 v1))
set_option maxRecDepth 100000 in
theorem T_X8_failed_r44 (Ln : Nat) (I A : Nat → Nat → Int32) (v1 : Int32) (Q : Int32 → (Nat → Nat → Int32) → Prop) (h0 : W_X8_failed_r44 Ln I A v1 Q) : zSem 99 0 0 0 [some (.ref 44), some (.int v1)] [] (zGs Ln I A) (fun r => ∃ x I1, r = (some (.int x), zGs Ln I1 A) ∧ Q x I1) := by
  unfold W_X8_failed_r44 at h0
  exact ⟨_, B_X8_failed_r44_0 Ln _ _ _ , _, _, rfl, h0⟩
def W_X8_all_r44 (Ln : Nat) (I A : Nat → Nat → Int32) (Q : Int32 → Prop) : Prop := (Q ((1 <<< ((I 44 4) &&& 31)) - 1))
set_option maxRecDepth 100000 in
theorem T_X8_all_r44 (Ln : Nat) (I A : Nat → Nat → Int32) (Q : Int32 → Prop) (h0 : W_X8_all_r44 Ln I A Q) : zSem 103 0 0 0 [some (.ref 44)] [] (zGs Ln I A) (fun r => ∃ x, r = (some (.int x), zGs Ln I A) ∧ Q x) := by
  unfold W_X8_all_r44 at h0
  exact ⟨_, B_X8_all_r44_0 Ln _ _  , _, rfl, h0⟩
def W_X8_codeAt_r44 (Ln : Nat) (I A : Nat → Nat → Int32) (v1 : Int32) (v2 : Int32) (Q : Int32 → Prop) : Prop := (((v2 : Int32) ≤ (I 44 11) → ((Q (-9)))) ∧ (¬ ((v2 : Int32) ≤ (I 44 11)) → ((zin (v1 + (I 44 11)) 240 = true) ∧ (Q (A 67 (v1 + (I 44 11)).toNatClampNeg)))))
set_option maxRecDepth 100000 in
theorem T_X8_codeAt_r44 (Ln : Nat) (I A : Nat → Nat → Int32) (v1 : Int32) (v2 : Int32) (Q : Int32 → Prop) (h0 : W_X8_codeAt_r44 Ln I A v1 v2 Q) : zSem 104 0 0 0 [some (.ref 44), some (.int v1), some (.int v2)] [] (zGs Ln I A) (fun r => ∃ x, r = (some (.int x), zGs Ln I A) ∧ Q x) := by
  unfold W_X8_codeAt_r44 at h0
  obtain ⟨h2, h3⟩ := h0
  by_cases h1 : (v2 : Int32) ≤ (I 44 11)
  · refine zS1 (fun r he => B_X8_codeAt_r44_0 Ln _ _ _ _  (fun _ => he) (fun n => absurd h1 n)) ?_
    have h2 := h2 h1
    refine zS1 (fun r he => B_X8_codeAt_r44_22 Ln _ _ _ _  he) ?_
    exact ⟨_, B_X8_codeAt_r44_24_s1 Ln _ _ _ _ _ , _, rfl, h2⟩
  · refine zS1 (fun r he => B_X8_codeAt_r44_0 Ln _ _ _ _  (fun n => absurd n h1) (fun _ => he)) ?_
    have h3 := h3 h1
    obtain ⟨h4, h5⟩ := h3
    refine zS1 (fun r he => B_X8_codeAt_r44_8 Ln _ _ _ _ h4 he) ?_
    exact ⟨_, B_X8_codeAt_r44_24_s1 Ln _ _ _ _ _ , _, rfl, h5⟩
def W_X8_paysOf_r44 (Ln : Nat) (I A : Nat → Nat → Int32) (v1 : Int32) (Q : Int32 → Prop) : Prop := ((zin v1 6 = true) ∧ Q ((A 45 (v1).toNatClampNeg) + 1))
set_option maxRecDepth 100000 in
theorem T_X8_paysOf_r44 (Ln : Nat) (I A : Nat → Nat → Int32) (v1 : Int32) (Q : Int32 → Prop) (h0 : W_X8_paysOf_r44 Ln I A v1 Q) : zSem 110 0 0 0 [some (.ref 44), some (.int v1)] [] (zGs Ln I A) (fun r => ∃ x, r = (some (.int x), zGs Ln I A) ∧ Q x) := by
  unfold W_X8_paysOf_r44 at h0
  obtain ⟨h1, h2⟩ := h0
  exact ⟨_, B_X8_paysOf_r44_0 Ln _ _ _ h1, _, rfl, h2⟩
def J_X8_heavyOf_r44_20_s2 (Ln : Nat) (I A : Nat → Nat → Int32) (v1 : Int32) (s0 : Int32) (s1 : Int32) (Q : Int32 → Prop) : Prop := ((zin v1 6 = true) ∧ (((A 45 (v1).toNatClampNeg) : Int32) ≠ 2 → ((Q (s0 + s1)))) ∧ (¬ (((A 45 (v1).toNatClampNeg) : Int32) ≠ 2) → ((Q (2 * (s0 + s1))))))
set_option maxRecDepth 100000 in
theorem TJ_X8_heavyOf_r44_20_s2 {Ln : Nat} {I A : Nat → Nat → Int32} {v1 : Int32} {s0 : Int32} {s1 : Int32} {Q : Int32 → Prop} (h0 : J_X8_heavyOf_r44_20_s2 Ln I A v1 s0 s1  Q) : zSem 111 20 0 0 [some (.ref 44), some (.int v1), none] [.int s1, .int s0] (zGs Ln I A) (fun r => ∃ x, r = (some (.int x), zGs Ln I A) ∧ Q x) := by
  unfold J_X8_heavyOf_r44_20_s2 at h0
  obtain ⟨h1, h2⟩ := h0
  obtain ⟨h4, h5⟩ := h2
  by_cases h3 : ((A 45 (v1).toNatClampNeg) : Int32) ≠ 2
  · refine zS1 (fun r he => B_X8_heavyOf_r44_20_s2 Ln _ _ _ _ _ h1 (fun _ => he) (fun n => absurd h3 n)) ?_
    have h4 := h4 h3
    refine zS1 (fun r he => B_X8_heavyOf_r44_38 Ln _ _ _ _  he) ?_
    exact ⟨_, B_X8_heavyOf_r44_39_s1 Ln _ _ _ _ _ , _, rfl, h4⟩
  · refine zS1 (fun r he => B_X8_heavyOf_r44_20_s2 Ln _ _ _ _ _ h1 (fun n => absurd n h3) (fun _ => he)) ?_
    have h5 := h5 h3
    refine zS1 (fun r he => B_X8_heavyOf_r44_32 Ln _ _ _ _  he) ?_
    exact ⟨_, B_X8_heavyOf_r44_39_s1 Ln _ _ _ _ _ , _, rfl, h5⟩
def W_X8_heavyOf_r44 (Ln : Nat) (I A : Nat → Nat → Int32) (v1 : Int32) (Q : Int32 → Prop) : Prop := ((zin v1 6 = true) ∧ (zin v1 6 = true) ∧ (((A 45 (v1).toNatClampNeg) : Int32) ≤ 0 → (∀ x1 : Int32, x1 = A 47 (v1).toNatClampNeg → ((J_X8_heavyOf_r44_20_s2 Ln I A v1 x1 0  Q)))) ∧ (¬ (((A 45 (v1).toNatClampNeg) : Int32) ≤ 0) → (∀ x2 : Int32, x2 = A 47 (v1).toNatClampNeg → ((J_X8_heavyOf_r44_20_s2 Ln I A v1 x2 2  Q)))))
set_option maxRecDepth 100000 in
theorem T_X8_heavyOf_r44 (Ln : Nat) (I A : Nat → Nat → Int32) (v1 : Int32) (Q : Int32 → Prop) (h0 : W_X8_heavyOf_r44 Ln I A v1 Q) : zSem 111 0 0 0 [some (.ref 44), some (.int v1), none] [] (zGs Ln I A) (fun r => ∃ x, r = (some (.int x), zGs Ln I A) ∧ Q x) := by
  unfold W_X8_heavyOf_r44 at h0
  obtain ⟨h1, h2⟩ := h0
  obtain ⟨h3, h4⟩ := h2
  obtain ⟨h6, h7⟩ := h4
  by_cases h5 : ((A 45 (v1).toNatClampNeg) : Int32) ≤ 0
  · refine zS1 (fun r he => B_X8_heavyOf_r44_0 Ln _ _ _ h1 h3 (fun _ => he) (fun n => absurd h5 n)) ?_
    have h6 := h6 h5
    have h8 := h6 _ rfl
    refine zS1 (fun r he => B_X8_heavyOf_r44_19_s1 Ln _ _ _ _  he) ?_
    exact TJ_X8_heavyOf_r44_20_s2  h8
  · refine zS1 (fun r he => B_X8_heavyOf_r44_0 Ln _ _ _ h1 h3 (fun n => absurd n h5) (fun _ => he)) ?_
    have h7 := h7 h5
    have h9 := h7 _ rfl
    refine zS1 (fun r he => B_X8_heavyOf_r44_15_s1 Ln _ _ _ _  he) ?_
    exact TJ_X8_heavyOf_r44_20_s2  h9
def W_X8_lend_r44 (Ln : Nat) (I A : Nat → Nat → Int32) (v1 : Int32) (v2 : Int32) (v3 : Int32) (Q : (Nat → Nat → Int32) → Prop) : Prop := ((zin v1 6 = true) ∧ (zin v1 6 = true) ∧ (zin v2 6 = true) ∧ (zin v2 6 = true) ∧ Q (zw (zw A 49 ((v1).toNatClampNeg) ((A 49 (v1).toNatClampNeg) - v3)) 49 ((v2).toNatClampNeg) ((((zw A 49 ((v1).toNatClampNeg) ((A 49 (v1).toNatClampNeg) - v3)) 49) (v2).toNatClampNeg) + v3)))
set_option maxRecDepth 100000 in
theorem T_X8_lend_r44 (Ln : Nat) (I A : Nat → Nat → Int32) (v1 : Int32) (v2 : Int32) (v3 : Int32) (Q : (Nat → Nat → Int32) → Prop) (h0 : W_X8_lend_r44 Ln I A v1 v2 v3 Q) : zSem 114 0 0 0 [some (.ref 44), some (.int v1), some (.int v2), some (.int v3)] [] (zGs Ln I A) (fun r => ∃ A1, r = (none, zGs Ln I A1) ∧ Q A1) := by
  unfold W_X8_lend_r44 at h0
  obtain ⟨h1, h2⟩ := h0
  obtain ⟨h3, h4⟩ := h2
  obtain ⟨h5, h6⟩ := h4
  obtain ⟨h7, h8⟩ := h6
  exact ⟨_, B_X8_lend_r44_0 Ln _ _ _ _ _ h1 h3 h5 h7, _, rfl, h8⟩
def SL_X8_begin_r44_2 (Ln : Nat) (I : Nat → Nat → Int32) (Q : (Nat → Nat → Int32) → Prop) : Int32 × (Nat → Nat → Int32) → Prop
  | (v1, A) => zSem 117 2 0 0 [some (.ref 44), some (.int v1)] [] (zGs Ln I A) (fun r => ∃ A1, r = (none, zGs Ln I A1) ∧ Q A1)
def L_X8_begin_r44_2 (Ln : Nat) (I : Nat → Nat → Int32) (Q : (Nat → Nat → Int32) → Prop) : Int32 × (Nat → Nat → Int32) → (Int32 × (Nat → Nat → Int32) → Prop) → Prop
  | (v1, A), K2 => (((6 : Int32) ≤ v1 → (Q A)) ∧ (¬ ((6 : Int32) ≤ v1) → ((zin v1 6 = true) ∧ (zin v1 6 = true) ∧ (K2 ((v1 + 1), (zw (zw A 57 ((v1).toNatClampNeg) 99) 58 ((v1).toNatClampNeg) 0))))))
set_option maxRecDepth 100000 in
theorem TL_X8_begin_r44_2 {Ln : Nat} {I : Nat → Nat → Int32} {Q : (Nat → Nat → Int32) → Prop} : ∀ p, zLoop (L_X8_begin_r44_2 Ln I   Q) p → SL_X8_begin_r44_2 Ln I  Q p := by
  refine zLoop.sound (Sem := SL_X8_begin_r44_2 Ln I  Q) ?_
  rintro ⟨v1, A⟩ K2 hK2 h0
  show zSem 117 2 0 0 [some (.ref 44), some (.int v1)] [] (zGs Ln I A) (fun r => ∃ A1, r = (none, zGs Ln I A1) ∧ Q A1)
  change (((6 : Int32) ≤ v1 → (Q A)) ∧ (¬ ((6 : Int32) ≤ v1) → ((zin v1 6 = true) ∧ (zin v1 6 = true) ∧ (K2 ((v1 + 1), (zw (zw A 57 ((v1).toNatClampNeg) 99) 58 ((v1).toNatClampNeg) 0)))))) at h0
  obtain ⟨h2, h3⟩ := h0
  by_cases h1 : (6 : Int32) ≤ v1
  · refine zS1 (fun r he => B_X8_begin_r44_2 Ln _ _ _  (fun _ => he) (fun n => absurd h1 n)) ?_
    have h2 := h2 h1
    exact ⟨_, B_X8_begin_r44_29 Ln _ _ _ , _, rfl, h2⟩
  · refine zS1 (fun r he => B_X8_begin_r44_2 Ln _ _ _  (fun n => absurd n h1) (fun _ => he)) ?_
    have h3 := h3 h1
    obtain ⟨h4, h5⟩ := h3
    obtain ⟨h6, h7⟩ := h5
    refine zS1 (fun r he => B_X8_begin_r44_8 Ln _ _ _ h4 h6 he) ?_
    have q := hK2 _ h7
    exact q
def W_X8_begin_r44 (Ln : Nat) (I A : Nat → Nat → Int32) (Q : (Nat → Nat → Int32) → Prop) : Prop := ((zLoop (L_X8_begin_r44_2 Ln I  Q) (0, A)))
set_option maxRecDepth 100000 in
theorem T_X8_begin_r44 (Ln : Nat) (I A : Nat → Nat → Int32) (Q : (Nat → Nat → Int32) → Prop) (h0 : W_X8_begin_r44 Ln I A Q) : zSem 117 0 0 0 [some (.ref 44), none] [] (zGs Ln I A) (fun r => ∃ A1, r = (none, zGs Ln I A1) ∧ Q A1) := by
  unfold W_X8_begin_r44 at h0
  refine zS1 (fun r he => B_X8_begin_r44_0 Ln _ _   he) ?_
  exact TL_X8_begin_r44_2  _ h0
def J_X8_isAhead_r44_58_s1 (Ln : Nat) (I A : Nat → Nat → Int32) (v1 : Int32) (v2 : Int32) (s0 : Int32) (Q : Int32 → Prop) : Prop := (((0 : Int32) < s0 → ((Q 1))) ∧ (¬ ((0 : Int32) < s0) → (((s0 : Int32) ≠ 0 → ((Q 0))) ∧ (¬ ((s0 : Int32) ≠ 0) → (((v2 : Int32) ≤ v1 → ((Q 0))) ∧ (¬ ((v2 : Int32) ≤ v1) → ((Q 1))))))))
set_option maxRecDepth 100000 in
theorem TJ_X8_isAhead_r44_58_s1 {Ln : Nat} {I A : Nat → Nat → Int32} {v1 : Int32} {v2 : Int32} {s0 : Int32} {Q : Int32 → Prop} (h0 : J_X8_isAhead_r44_58_s1 Ln I A v1 v2 s0  Q) : zSem 118 58 0 0 [some (.ref 44), some (.int v1), some (.int v2), none] [.int s0] (zGs Ln I A) (fun r => ∃ x, r = (some (.int x), zGs Ln I A) ∧ Q x) := by
  unfold J_X8_isAhead_r44_58_s1 at h0
  obtain ⟨h2, h3⟩ := h0
  by_cases h1 : (0 : Int32) < s0
  · refine zS1 (fun r he => B_X8_isAhead_r44_58_s1 Ln _ _ _ _ _  (fun _ => he) (fun n => absurd h1 n)) ?_
    have h2 := h2 h1
    refine zS1 (fun r he => B_X8_isAhead_r44_72 Ln _ _ _ _ _  he) ?_
    exact ⟨_, B_X8_isAhead_r44_77_s1 Ln _ _ _ _ _ _  (by decide), _, rfl, h2⟩
  · refine zS1 (fun r he => B_X8_isAhead_r44_58_s1 Ln _ _ _ _ _  (fun n => absurd n h1) (fun _ => he)) ?_
    have h3 := h3 h1
    obtain ⟨h5, h6⟩ := h3
    by_cases h4 : (s0 : Int32) ≠ 0
    · refine zS1 (fun r he => B_X8_isAhead_r44_63 Ln _ _ _ _ _  (fun _ => he) (fun n => absurd h4 n)) ?_
      have h5 := h5 h4
      refine zS1 (fun r he => B_X8_isAhead_r44_76 Ln _ _ _ _ _  he) ?_
      exact ⟨_, B_X8_isAhead_r44_77_s1 Ln _ _ _ _ _ _  (by decide), _, rfl, h5⟩
    · refine zS1 (fun r he => B_X8_isAhead_r44_63 Ln _ _ _ _ _  (fun n => absurd n h4) (fun _ => he)) ?_
      have h6 := h6 h4
      obtain ⟨h8, h9⟩ := h6
      by_cases h7 : (v2 : Int32) ≤ v1
      · refine zS1 (fun r he => B_X8_isAhead_r44_67 Ln _ _ _ _ _  (fun _ => he) (fun n => absurd h7 n)) ?_
        have h8 := h8 h7
        refine zS1 (fun r he => B_X8_isAhead_r44_76 Ln _ _ _ _ _  he) ?_
        exact ⟨_, B_X8_isAhead_r44_77_s1 Ln _ _ _ _ _ _  (by decide), _, rfl, h8⟩
      · refine zS1 (fun r he => B_X8_isAhead_r44_67 Ln _ _ _ _ _  (fun n => absurd n h7) (fun _ => he)) ?_
        have h9 := h9 h7
        refine zS1 (fun r he => B_X8_isAhead_r44_72 Ln _ _ _ _ _  he) ?_
        exact ⟨_, B_X8_isAhead_r44_77_s1 Ln _ _ _ _ _ _  (by decide), _, rfl, h9⟩
def W_X8_isAhead_r44 (Ln : Nat) (I A : Nat → Nat → Int32) (v1 : Int32) (v2 : Int32) (Q : Int32 → Prop) : Prop := ((((I 44 10) : Int32) ≠ 0 → ((((I 44 10) : Int32) ≠ 1 → ((zin v1 6 = true) ∧ (zin v2 6 = true) ∧ (J_X8_isAhead_r44_58_s1 Ln I A v1 v2 ((A 49 (v1).toNatClampNeg) - (A 49 (v2).toNatClampNeg))  Q))) ∧ (¬ (((I 44 10) : Int32) ≠ 1) → ((W_X8_heavyOf_r44 Ln I A v2 (fun (r1 : Int32) => ((W_X8_heavyOf_r44 Ln I A v1 (fun (r2 : Int32) => ((J_X8_isAhead_r44_58_s1 Ln I A v1 v2 (r1 - r2)  Q))))))))))) ∧ (¬ (((I 44 10) : Int32) ≠ 0) → ((zin v2 6 = true) ∧ (zin v1 6 = true) ∧ (J_X8_isAhead_r44_58_s1 Ln I A v1 v2 ((A 48 (v2).toNatClampNeg) - (A 48 (v1).toNatClampNeg))  Q))))
set_option maxRecDepth 100000 in
theorem T_X8_isAhead_r44 (Ln : Nat) (I A : Nat → Nat → Int32) (v1 : Int32) (v2 : Int32) (Q : Int32 → Prop) (h0 : W_X8_isAhead_r44 Ln I A v1 v2 Q) : zSem 118 0 0 0 [some (.ref 44), some (.int v1), some (.int v2), none] [] (zGs Ln I A) (fun r => ∃ x, r = (some (.int x), zGs Ln I A) ∧ Q x) := by
  unfold W_X8_isAhead_r44 at h0
  obtain ⟨h2, h3⟩ := h0
  by_cases h1 : ((I 44 10) : Int32) ≠ 0
  · refine zS1 (fun r he => B_X8_isAhead_r44_0 Ln _ _ _ _  (fun _ => he) (fun n => absurd h1 n)) ?_
    have h2 := h2 h1
    obtain ⟨h5, h6⟩ := h2
    by_cases h4 : ((I 44 10) : Int32) ≠ 1
    · refine zS1 (fun r he => B_X8_isAhead_r44_23 Ln _ _ _ _  (fun _ => he) (fun n => absurd h4 n)) ?_
      have h5 := h5 h4
      obtain ⟨h7, h8⟩ := h5
      obtain ⟨h9, h10⟩ := h8
      refine zS1 (fun r he => B_X8_isAhead_r44_45 Ln _ _ _ _ h7 h9 he) ?_
      exact TJ_X8_isAhead_r44_58_s1  h10
    · refine zS1 (fun r he => B_X8_isAhead_r44_23 Ln _ _ _ _  (fun n => absurd n h4) (fun _ => he)) ?_
      have h6 := h6 h4
      obtain ⟨_, h11, r1, rfl, h12⟩ := T_X8_heavyOf_r44 Ln _ _ _ _ h6
      refine zS1 (fun r he => B_X8_isAhead_r44_31 Ln _ _ _ _  h11 rfl he) ?_
      obtain ⟨_, h13, r2, rfl, h14⟩ := T_X8_heavyOf_r44 Ln _ _ _ _ h12
      refine zS1 (fun r he => B_X8_isAhead_r44_36_s1 Ln _ _ _ _ _  h13 rfl he) ?_
      refine zS1 (fun r he => B_X8_isAhead_r44_41_s2 Ln _ _ _ _ _ _  he) ?_
      exact TJ_X8_isAhead_r44_58_s1  h14
  · refine zS1 (fun r he => B_X8_isAhead_r44_0 Ln _ _ _ _  (fun n => absurd n h1) (fun _ => he)) ?_
    have h3 := h3 h1
    obtain ⟨h15, h16⟩ := h3
    obtain ⟨h17, h18⟩ := h16
    refine zS1 (fun r he => B_X8_isAhead_r44_7 Ln _ _ _ _ h15 h17 he) ?_
    exact TJ_X8_isAhead_r44_58_s1  h18
def W_X8_canPay_r44 (Ln : Nat) (I A : Nat → Nat → Int32) (v1 : Int32) (Q : Int32 → Prop) : Prop := ((zin v1 6 = true) ∧ (W_X8_paysOf_r44 Ln I A v1 (fun (r1 : Int32) => (∀ x2 : Int32, x2 = A 49 (v1).toNatClampNeg → (((x2 : Int32) < r1 → ((Q 0))) ∧ (¬ ((x2 : Int32) < r1) → ((Q 1))))))))
set_option maxRecDepth 100000 in
theorem T_X8_canPay_r44 (Ln : Nat) (I A : Nat → Nat → Int32) (v1 : Int32) (Q : Int32 → Prop) (h0 : W_X8_canPay_r44 Ln I A v1 Q) : zSem 119 0 0 0 [some (.ref 44), some (.int v1)] [] (zGs Ln I A) (fun r => ∃ x, r = (some (.int x), zGs Ln I A) ∧ Q x) := by
  unfold W_X8_canPay_r44 at h0
  obtain ⟨h1, h2⟩ := h0
  obtain ⟨_, h3, r1, rfl, h4⟩ := T_X8_paysOf_r44 Ln _ _ _ _ h2
  refine zS1 (fun r he => B_X8_canPay_r44_0 Ln _ _ _ h1 h3 rfl he) ?_
  have h5 := h4 _ rfl
  obtain ⟨h7, h8⟩ := h5
  by_cases h6 : ((A 49 (v1).toNatClampNeg) : Int32) < r1
  · refine zS1 (fun r he => B_X8_canPay_r44_11_s2 Ln _ _ _ _ _  (fun _ => he) (fun n => absurd h6 n)) ?_
    have h7 := h7 h6
    refine zS1 (fun r he => B_X8_canPay_r44_18 Ln _ _ _  he) ?_
    exact ⟨_, B_X8_canPay_r44_19_s1 Ln _ _ _ _  (by decide), _, rfl, h7⟩
  · refine zS1 (fun r he => B_X8_canPay_r44_11_s2 Ln _ _ _ _ _  (fun n => absurd n h6) (fun _ => he)) ?_
    have h8 := h8 h6
    refine zS1 (fun r he => B_X8_canPay_r44_14 Ln _ _ _  he) ?_
    exact ⟨_, B_X8_canPay_r44_19_s1 Ln _ _ _ _  (by decide), _, rfl, h8⟩
def SL_X8_cameBy_r44_4 (Ln : Nat) (I A : Nat → Nat → Int32) (v1 : Int32) (Q : Int32 → Prop) : Int32 × Int32 → Prop
  | (v2, v3) => zSem 121 4 0 0 [some (.ref 44), some (.int v1), some (.int v2), some (.int v3)] [] (zGs Ln I A) (fun r => ∃ x, r = (some (.int x), zGs Ln I A) ∧ Q x)
def L_X8_cameBy_r44_4 (Ln : Nat) (I A : Nat → Nat → Int32) (v1 : Int32) (Q : Int32 → Prop) : Int32 × Int32 → (Int32 × Int32 → Prop) → Prop
  | (v2, v3), K4 => ((((I 44 4) : Int32) ≤ v3 → (Q v2)) ∧ (¬ (((I 44 4) : Int32) ≤ v3) → ((zin v3 6 = true) ∧ ((v1 : Int32) < (A 48 (v3).toNatClampNeg) → (((K4 ((v2 ||| 0), (v3 + 1)))))) ∧ (¬ ((v1 : Int32) < (A 48 (v3).toNatClampNeg)) → (((K4 ((v2 ||| (1 <<< (v3 &&& 31))), (v3 + 1)))))))))
set_option maxRecDepth 100000 in
theorem TL_X8_cameBy_r44_4 {Ln : Nat} {I A : Nat → Nat → Int32} {v1 : Int32} {Q : Int32 → Prop} : ∀ p, zLoop (L_X8_cameBy_r44_4 Ln I A v1  Q) p → SL_X8_cameBy_r44_4 Ln I A v1 Q p := by
  refine zLoop.sound (Sem := SL_X8_cameBy_r44_4 Ln I A v1 Q) ?_
  rintro ⟨v2, v3⟩ K4 hK4 h0
  show zSem 121 4 0 0 [some (.ref 44), some (.int v1), some (.int v2), some (.int v3)] [] (zGs Ln I A) (fun r => ∃ x, r = (some (.int x), zGs Ln I A) ∧ Q x)
  change ((((I 44 4) : Int32) ≤ v3 → (Q v2)) ∧ (¬ (((I 44 4) : Int32) ≤ v3) → ((zin v3 6 = true) ∧ ((v1 : Int32) < (A 48 (v3).toNatClampNeg) → (((K4 ((v2 ||| 0), (v3 + 1)))))) ∧ (¬ ((v1 : Int32) < (A 48 (v3).toNatClampNeg)) → (((K4 ((v2 ||| (1 <<< (v3 &&& 31))), (v3 + 1))))))))) at h0
  obtain ⟨h2, h3⟩ := h0
  by_cases h1 : ((I 44 4) : Int32) ≤ v3
  · refine zS1 (fun r he => B_X8_cameBy_r44_4 Ln _ _ _ _ _  (fun _ => he) (fun n => absurd h1 n)) ?_
    have h2 := h2 h1
    exact ⟨_, B_X8_cameBy_r44_38 Ln _ _ _ _ _ , _, rfl, h2⟩
  · refine zS1 (fun r he => B_X8_cameBy_r44_4 Ln _ _ _ _ _  (fun n => absurd n h1) (fun _ => he)) ?_
    have h3 := h3 h1
    obtain ⟨h4, h5⟩ := h3
    obtain ⟨h7, h8⟩ := h5
    by_cases h6 : (v1 : Int32) < (A 48 (v3).toNatClampNeg)
    · refine zS1 (fun r he => B_X8_cameBy_r44_12 Ln _ _ _ _ _ h4 (fun _ => he) (fun n => absurd h6 n)) ?_
      have h7 := h7 h6
      refine zS1 (fun r he => B_X8_cameBy_r44_29_s1 Ln _ _ _ _ _ _  he) ?_
      refine zS1 (fun r he => B_X8_cameBy_r44_30_s2 Ln _ _ _ _ _ _ _  he) ?_
      have q := hK4 _ h7
      exact q
    · refine zS1 (fun r he => B_X8_cameBy_r44_12 Ln _ _ _ _ _ h4 (fun n => absurd n h6) (fun _ => he)) ?_
      have h8 := h8 h6
      refine zS1 (fun r he => B_X8_cameBy_r44_23_s1 Ln _ _ _ _ _ _  he) ?_
      refine zS1 (fun r he => B_X8_cameBy_r44_30_s2 Ln _ _ _ _ _ _ _  he) ?_
      have q := hK4 _ h8
      exact q
def W_X8_cameBy_r44 (Ln : Nat) (I A : Nat → Nat → Int32) (v1 : Int32) (Q : Int32 → Prop) : Prop := ((zLoop (L_X8_cameBy_r44_4 Ln I A v1  Q) (0, 0)))
set_option maxRecDepth 100000 in
theorem T_X8_cameBy_r44 (Ln : Nat) (I A : Nat → Nat → Int32) (v1 : Int32) (Q : Int32 → Prop) (h0 : W_X8_cameBy_r44 Ln I A v1 Q) : zSem 121 0 0 0 [some (.ref 44), some (.int v1), none, none] [] (zGs Ln I A) (fun r => ∃ x, r = (some (.int x), zGs Ln I A) ∧ Q x) := by
  unfold W_X8_cameBy_r44 at h0
  refine zS1 (fun r he => B_X8_cameBy_r44_0 Ln _ _ _  he) ?_
  exact TL_X8_cameBy_r44_4  _ h0
def SL_X8_overNow_r44_4 (Ln : Nat) (I A : Nat → Nat → Int32) (Q : Int32 → Prop) : Int32 × Int32 → Prop
  | (v1, v2) => zSem 122 4 0 0 [some (.ref 44), some (.int v1), some (.int v2)] [] (zGs Ln I A) (fun r => ∃ x, r = (some (.int x), zGs Ln I A) ∧ Q x)
def L_X8_overNow_r44_4 (Ln : Nat) (I A : Nat → Nat → Int32) (Q : Int32 → Prop) : Int32 × Int32 → (Int32 × Int32 → Prop) → Prop
  | (v1, v2), K4 => ((((I 44 4) : Int32) ≤ v2 → (Q v1)) ∧ (¬ (((I 44 4) : Int32) ≤ v2) → ((zin v2 6 = true) ∧ ((99 : Int32) ≤ (A 57 (v2).toNatClampNeg) → (((K4 ((v1 ||| 0), (v2 + 1)))))) ∧ (¬ ((99 : Int32) ≤ (A 57 (v2).toNatClampNeg)) → (((K4 ((v1 ||| (1 <<< (v2 &&& 31))), (v2 + 1)))))))))
set_option maxRecDepth 100000 in
theorem TL_X8_overNow_r44_4 {Ln : Nat} {I A : Nat → Nat → Int32} {Q : Int32 → Prop} : ∀ p, zLoop (L_X8_overNow_r44_4 Ln I A   Q) p → SL_X8_overNow_r44_4 Ln I A  Q p := by
  refine zLoop.sound (Sem := SL_X8_overNow_r44_4 Ln I A  Q) ?_
  rintro ⟨v1, v2⟩ K4 hK4 h0
  show zSem 122 4 0 0 [some (.ref 44), some (.int v1), some (.int v2)] [] (zGs Ln I A) (fun r => ∃ x, r = (some (.int x), zGs Ln I A) ∧ Q x)
  change ((((I 44 4) : Int32) ≤ v2 → (Q v1)) ∧ (¬ (((I 44 4) : Int32) ≤ v2) → ((zin v2 6 = true) ∧ ((99 : Int32) ≤ (A 57 (v2).toNatClampNeg) → (((K4 ((v1 ||| 0), (v2 + 1)))))) ∧ (¬ ((99 : Int32) ≤ (A 57 (v2).toNatClampNeg)) → (((K4 ((v1 ||| (1 <<< (v2 &&& 31))), (v2 + 1))))))))) at h0
  obtain ⟨h2, h3⟩ := h0
  by_cases h1 : ((I 44 4) : Int32) ≤ v2
  · refine zS1 (fun r he => B_X8_overNow_r44_4 Ln _ _ _ _  (fun _ => he) (fun n => absurd h1 n)) ?_
    have h2 := h2 h1
    exact ⟨_, B_X8_overNow_r44_39 Ln _ _ _ _ , _, rfl, h2⟩
  · refine zS1 (fun r he => B_X8_overNow_r44_4 Ln _ _ _ _  (fun n => absurd n h1) (fun _ => he)) ?_
    have h3 := h3 h1
    obtain ⟨h4, h5⟩ := h3
    obtain ⟨h7, h8⟩ := h5
    by_cases h6 : (99 : Int32) ≤ (A 57 (v2).toNatClampNeg)
    · refine zS1 (fun r he => B_X8_overNow_r44_12 Ln _ _ _ _ h4 (fun _ => he) (fun n => absurd h6 n)) ?_
      have h7 := h7 h6
      refine zS1 (fun r he => B_X8_overNow_r44_30_s1 Ln _ _ _ _ _  he) ?_
      refine zS1 (fun r he => B_X8_overNow_r44_31_s2 Ln _ _ _ _ _ _  he) ?_
      have q := hK4 _ h7
      exact q
    · refine zS1 (fun r he => B_X8_overNow_r44_12 Ln _ _ _ _ h4 (fun n => absurd n h6) (fun _ => he)) ?_
      have h8 := h8 h6
      refine zS1 (fun r he => B_X8_overNow_r44_24_s1 Ln _ _ _ _ _  he) ?_
      refine zS1 (fun r he => B_X8_overNow_r44_31_s2 Ln _ _ _ _ _ _  he) ?_
      have q := hK4 _ h8
      exact q
def W_X8_overNow_r44 (Ln : Nat) (I A : Nat → Nat → Int32) (Q : Int32 → Prop) : Prop := ((zLoop (L_X8_overNow_r44_4 Ln I A  Q) (0, 0)))
set_option maxRecDepth 100000 in
theorem T_X8_overNow_r44 (Ln : Nat) (I A : Nat → Nat → Int32) (Q : Int32 → Prop) (h0 : W_X8_overNow_r44 Ln I A Q) : zSem 122 0 0 0 [some (.ref 44), none, none] [] (zGs Ln I A) (fun r => ∃ x, r = (some (.int x), zGs Ln I A) ∧ Q x) := by
  unfold W_X8_overNow_r44 at h0
  refine zS1 (fun r he => B_X8_overNow_r44_0 Ln _ _   he) ?_
  exact TL_X8_overNow_r44_4  _ h0
def SL_X8_whoCanPay_r44_4 (Ln : Nat) (I A : Nat → Nat → Int32) (Q : Int32 → Prop) : Int32 × Int32 → Prop
  | (v1, v2) => zSem 123 4 0 0 [some (.ref 44), some (.int v1), some (.int v2)] [] (zGs Ln I A) (fun r => ∃ x, r = (some (.int x), zGs Ln I A) ∧ Q x)
def L_X8_whoCanPay_r44_4 (Ln : Nat) (I A : Nat → Nat → Int32) (Q : Int32 → Prop) : Int32 × Int32 → (Int32 × Int32 → Prop) → Prop
  | (v1, v2), K4 => ((((I 44 4) : Int32) ≤ v2 → (Q v1)) ∧ (¬ (((I 44 4) : Int32) ≤ v2) → ((W_X8_canPay_r44 Ln I A v2 (fun (r1 : Int32) => (((r1 : Int32) = 0 → (((K4 ((v1 ||| 0), (v2 + 1)))))) ∧ (¬ ((r1 : Int32) = 0) → (((K4 ((v1 ||| (1 <<< (v2 &&& 31))), (v2 + 1))))))))))))
set_option maxRecDepth 100000 in
theorem TL_X8_whoCanPay_r44_4 {Ln : Nat} {I A : Nat → Nat → Int32} {Q : Int32 → Prop} : ∀ p, zLoop (L_X8_whoCanPay_r44_4 Ln I A   Q) p → SL_X8_whoCanPay_r44_4 Ln I A  Q p := by
  refine zLoop.sound (Sem := SL_X8_whoCanPay_r44_4 Ln I A  Q) ?_
  rintro ⟨v1, v2⟩ K4 hK4 h0
  show zSem 123 4 0 0 [some (.ref 44), some (.int v1), some (.int v2)] [] (zGs Ln I A) (fun r => ∃ x, r = (some (.int x), zGs Ln I A) ∧ Q x)
  change ((((I 44 4) : Int32) ≤ v2 → (Q v1)) ∧ (¬ (((I 44 4) : Int32) ≤ v2) → ((W_X8_canPay_r44 Ln I A v2 (fun (r1 : Int32) => (((r1 : Int32) = 0 → (((K4 ((v1 ||| 0), (v2 + 1)))))) ∧ (¬ ((r1 : Int32) = 0) → (((K4 ((v1 ||| (1 <<< (v2 &&& 31))), (v2 + 1)))))))))))) at h0
  obtain ⟨h2, h3⟩ := h0
  by_cases h1 : ((I 44 4) : Int32) ≤ v2
  · refine zS1 (fun r he => B_X8_whoCanPay_r44_4 Ln _ _ _ _  (fun _ => he) (fun n => absurd h1 n)) ?_
    have h2 := h2 h1
    exact ⟨_, B_X8_whoCanPay_r44_36 Ln _ _ _ _ , _, rfl, h2⟩
  · refine zS1 (fun r he => B_X8_whoCanPay_r44_4 Ln _ _ _ _  (fun n => absurd n h1) (fun _ => he)) ?_
    have h3 := h3 h1
    obtain ⟨_, h4, r1, rfl, h5⟩ := T_X8_canPay_r44 Ln _ _ _ _ h3
    refine zS1 (fun r he => B_X8_whoCanPay_r44_12 Ln _ _ _ _  h4 rfl he) ?_
    obtain ⟨h7, h8⟩ := h5
    by_cases h6 : (r1 : Int32) = 0
    · refine zS1 (fun r he => B_X8_whoCanPay_r44_18_s2 Ln _ _ _ _ _ _  (fun _ => he) (fun n => absurd h6 n)) ?_
      have h7 := h7 h6
      refine zS1 (fun r he => B_X8_whoCanPay_r44_27_s1 Ln _ _ _ _ _  he) ?_
      refine zS1 (fun r he => B_X8_whoCanPay_r44_28_s2 Ln _ _ _ _ _ _  he) ?_
      have q := hK4 _ h7
      exact q
    · refine zS1 (fun r he => B_X8_whoCanPay_r44_18_s2 Ln _ _ _ _ _ _  (fun n => absurd n h6) (fun _ => he)) ?_
      have h8 := h8 h6
      refine zS1 (fun r he => B_X8_whoCanPay_r44_21_s1 Ln _ _ _ _ _  he) ?_
      refine zS1 (fun r he => B_X8_whoCanPay_r44_28_s2 Ln _ _ _ _ _ _  he) ?_
      have q := hK4 _ h8
      exact q
def W_X8_whoCanPay_r44 (Ln : Nat) (I A : Nat → Nat → Int32) (Q : Int32 → Prop) : Prop := ((zLoop (L_X8_whoCanPay_r44_4 Ln I A  Q) (0, 0)))
set_option maxRecDepth 100000 in
theorem T_X8_whoCanPay_r44 (Ln : Nat) (I A : Nat → Nat → Int32) (Q : Int32 → Prop) (h0 : W_X8_whoCanPay_r44 Ln I A Q) : zSem 123 0 0 0 [some (.ref 44), none, none] [] (zGs Ln I A) (fun r => ∃ x, r = (some (.int x), zGs Ln I A) ∧ Q x) := by
  unfold W_X8_whoCanPay_r44 at h0
  refine zS1 (fun r he => B_X8_whoCanPay_r44_0 Ln _ _   he) ?_
  exact TL_X8_whoCanPay_r44_4  _ h0
def W_X8_waitOf_r44 (Ln : Nat) (I A : Nat → Nat → Int32) (v1 : Int32) (Q : Int32 → Prop) : Prop := ((zin v1 6 = true) ∧ (((A 57 (v1).toNatClampNeg) : Int32) ≠ 99 → ((zin v1 6 = true) ∧ ((zin v1 6 = true) ∧ Q ((A 57 (v1).toNatClampNeg) - (A 48 (v1).toNatClampNeg))))) ∧ (¬ (((A 57 (v1).toNatClampNeg) : Int32) ≠ 99) → (((zin v1 6 = true) ∧ Q (60 - (A 48 (v1).toNatClampNeg))))))
set_option maxRecDepth 100000 in
theorem T_X8_waitOf_r44 (Ln : Nat) (I A : Nat → Nat → Int32) (v1 : Int32) (Q : Int32 → Prop) (h0 : W_X8_waitOf_r44 Ln I A v1 Q) : zSem 132 0 0 0 [some (.ref 44), some (.int v1)] [] (zGs Ln I A) (fun r => ∃ x, r = (some (.int x), zGs Ln I A) ∧ Q x) := by
  unfold W_X8_waitOf_r44 at h0
  obtain ⟨h1, h2⟩ := h0
  obtain ⟨h4, h5⟩ := h2
  by_cases h3 : ((A 57 (v1).toNatClampNeg) : Int32) ≠ 99
  · refine zS1 (fun r he => B_X8_waitOf_r44_0 Ln _ _ _ h1 (fun _ => he) (fun n => absurd h3 n)) ?_
    have h4 := h4 h3
    obtain ⟨h6, h7⟩ := h4
    refine zS1 (fun r he => B_X8_waitOf_r44_16 Ln _ _ _ h6 he) ?_
    obtain ⟨h8, h9⟩ := h7
    exact ⟨_, B_X8_waitOf_r44_22_s1 Ln _ _ _ _ h8, _, rfl, h9⟩
  · refine zS1 (fun r he => B_X8_waitOf_r44_0 Ln _ _ _ h1 (fun n => absurd n h3) (fun _ => he)) ?_
    have h5 := h5 h3
    refine zS1 (fun r he => B_X8_waitOf_r44_11 Ln _ _ _  he) ?_
    obtain ⟨h10, h11⟩ := h5
    exact ⟨_, B_X8_waitOf_r44_22_s1 Ln _ _ _ _ h10, _, rfl, h11⟩
def W_X8_traced_r44 (Ln : Nat) (I A : Nat → Nat → Int32) (v1 : Int32) (Q : (Nat → Nat → Int32) → Prop) : Prop := (Q (zp I 44 39 ((31 * (I 44 39)) + v1)))
set_option maxRecDepth 100000 in
theorem T_X8_traced_r44 (Ln : Nat) (I A : Nat → Nat → Int32) (v1 : Int32) (Q : (Nat → Nat → Int32) → Prop) (h0 : W_X8_traced_r44 Ln I A v1 Q) : zSem 155 0 0 0 [some (.ref 44), some (.int v1)] [] (zGs Ln I A) (fun r => ∃ I1, r = (none, zGs Ln I1 A) ∧ Q I1) := by
  unfold W_X8_traced_r44 at h0
  exact ⟨_, B_X8_traced_r44_0 Ln _ _ _ , _, rfl, h0⟩
def W_X8_trace_r44 (Ln : Nat) (I A : Nat → Nat → Int32) (Q : Int32 → Prop) : Prop := (Q (I 44 39))
set_option maxRecDepth 100000 in
theorem T_X8_trace_r44 (Ln : Nat) (I A : Nat → Nat → Int32) (Q : Int32 → Prop) (h0 : W_X8_trace_r44 Ln I A Q) : zSem 159 0 0 0 [some (.ref 44)] [] (zGs Ln I A) (fun r => ∃ x, r = (some (.int x), zGs Ln I A) ∧ Q x) := by
  unfold W_X8_trace_r44 at h0
  exact ⟨_, B_X8_trace_r44_0 Ln _ _  , _, rfl, h0⟩
def W_X8_fault_r44 (Ln : Nat) (I A : Nat → Nat → Int32) (Q : Int32 → Prop) : Prop := (Q (I 44 0))
set_option maxRecDepth 100000 in
theorem T_X8_fault_r44 (Ln : Nat) (I A : Nat → Nat → Int32) (Q : Int32 → Prop) (h0 : W_X8_fault_r44 Ln I A Q) : zSem 160 0 0 0 [some (.ref 44)] [] (zGs Ln I A) (fun r => ∃ x, r = (some (.int x), zGs Ln I A) ∧ Q x) := by
  unfold W_X8_fault_r44 at h0
  exact ⟨_, B_X8_fault_r44_0 Ln _ _  , _, rfl, h0⟩
