/-! what a method asks, by program (wip/whole/gen_wp.py) -/
def SL_X8_favours_r44_35 (Ln : Nat) (I A : Nat → Nat → Int32) (v1 : Int32) (v2 : Int32) (Q : Int32 → (Nat → Nat → Int32) → (Nat → Nat → Int32) → Prop) : Int32 × Int32 → Prop
  | (v3, v4) => zSem 141 35 0 0 [some (.ref 44), some (.int v1), some (.int v2), some (.int v3), some (.int v4), none] [] (zGs Ln I A) (fun r => ∃ x I1 A1, r = (some (.int x), zGs Ln I1 A1) ∧ Q x I1 A1)
def SL_X8_favours_r44_83 (Ln : Nat) (v1 : Int32) (v2 : Int32) (v3 : Int32) (Q : Int32 → (Nat → Nat → Int32) → (Nat → Nat → Int32) → Prop) : Int32 × Int32 × (Nat → Nat → Int32) × (Nat → Nat → Int32) → Prop
  | (v4, v5, I, A) => zSem 141 83 0 0 [some (.ref 44), some (.int v1), some (.int v2), some (.int v3), some (.int v4), some (.int v5)] [] (zGs Ln I A) (fun r => ∃ x I1 A1, r = (some (.int x), zGs Ln I1 A1) ∧ Q x I1 A1)
def L_X8_favours_r44_83 (Ln : Nat) (v1 : Int32) (v2 : Int32) (v3 : Int32) (Q : Int32 → (Nat → Nat → Int32) → (Nat → Nat → Int32) → Prop) : Int32 × Int32 × (Nat → Nat → Int32) × (Nat → Nat → Int32) → (Int32 × Int32 × (Nat → Nat → Int32) × (Nat → Nat → Int32) → Prop) → Prop
  | (v4, v5, I, A), K83 => (((v5 : Int32) < 0 → ((zin v1 6 = true) ∧ Q v4 I (zw A 49 ((v1).toNatClampNeg) v2))) ∧ (¬ ((v5 : Int32) < 0) → ((zin v1 6 = true) ∧ (W_X8_goAll_r44 Ln I (zw A 49 ((v1).toNatClampNeg) (v3 + v5))  (fun (I2 : Nat → Nat → Int32) (A3 : Nat → Nat → Int32) => ((zin v1 6 = true) ∧ ((99 : Int32) ≤ (A3 57 (v1).toNatClampNeg) → (((K83 (v4, (v5 + (Int32.ofInt (-1))), I2, A3))))) ∧ (¬ ((99 : Int32) ≤ (A3 57 (v1).toNatClampNeg)) → (((K83 (v5, (v5 + (Int32.ofInt (-1))), I2, A3)))))))))))
set_option maxRecDepth 100000 in
theorem TL_X8_favours_r44_83 {Ln : Nat} {v1 : Int32} {v2 : Int32} {v3 : Int32} {Q : Int32 → (Nat → Nat → Int32) → (Nat → Nat → Int32) → Prop} : ∀ p, zLoop (L_X8_favours_r44_83 Ln  v1 v2 v3  Q) p → SL_X8_favours_r44_83 Ln  v1 v2 v3 Q p := by
  refine zLoop.sound (Sem := SL_X8_favours_r44_83 Ln  v1 v2 v3 Q) ?_
  rintro ⟨v4, v5, I, A⟩ K83 hK83 h0
  show zSem 141 83 0 0 [some (.ref 44), some (.int v1), some (.int v2), some (.int v3), some (.int v4), some (.int v5)] [] (zGs Ln I A) (fun r => ∃ x I1 A1, r = (some (.int x), zGs Ln I1 A1) ∧ Q x I1 A1)
  change (((v5 : Int32) < 0 → ((zin v1 6 = true) ∧ Q v4 I (zw A 49 ((v1).toNatClampNeg) v2))) ∧ (¬ ((v5 : Int32) < 0) → ((zin v1 6 = true) ∧ (W_X8_goAll_r44 Ln I (zw A 49 ((v1).toNatClampNeg) (v3 + v5))  (fun (I2 : Nat → Nat → Int32) (A3 : Nat → Nat → Int32) => ((zin v1 6 = true) ∧ ((99 : Int32) ≤ (A3 57 (v1).toNatClampNeg) → (((K83 (v4, (v5 + (Int32.ofInt (-1))), I2, A3))))) ∧ (¬ ((99 : Int32) ≤ (A3 57 (v1).toNatClampNeg)) → (((K83 (v5, (v5 + (Int32.ofInt (-1))), I2, A3))))))))))) at h0
  obtain ⟨h2, h3⟩ := h0
  by_cases h1 : (v5 : Int32) < 0
  · refine zS1 (fun r he => B_X8_favours_r44_83 Ln _ _ _ _ _ _ _  (fun _ => he) (fun n => absurd h1 n)) ?_
    have h2 := h2 h1
    obtain ⟨h4, h5⟩ := h2
    exact ⟨_, B_X8_favours_r44_128 Ln _ _ _ _ _ _ _ h4, _, _, _, rfl, h5⟩
  · refine zS1 (fun r he => B_X8_favours_r44_83 Ln _ _ _ _ _ _ _  (fun n => absurd n h1) (fun _ => he)) ?_
    have h3 := h3 h1
    obtain ⟨h6, h7⟩ := h3
    obtain ⟨_, h8, I2, A3, rfl, h9⟩ := T_X8_goAll_r44 Ln _ _ _ h7
    refine zS1 (fun r he => B_X8_favours_r44_88 Ln _ _ _ _ _ _ _ h6 h8 rfl he) ?_
    obtain ⟨h10, h11⟩ := h9
    obtain ⟨h13, h14⟩ := h11
    by_cases h12 : (99 : Int32) ≤ (A3 57 (v1).toNatClampNeg)
    · refine zS1 (fun r he => B_X8_favours_r44_102 Ln _ _ _ _ _ _ _ h10 (fun _ => he) (fun n => absurd h12 n)) ?_
      have h13 := h13 h12
      refine zS1 (fun r he => B_X8_favours_r44_118 Ln _ _ _ _ _ _ _  he) ?_
      refine zS1 (fun r he => B_X8_favours_r44_120_s1 Ln _ _ _ _ _ _ _ _  he) ?_
      have q := hK83 _ h13
      exact q
    · refine zS1 (fun r he => B_X8_favours_r44_102 Ln _ _ _ _ _ _ _ h10 (fun n => absurd n h12) (fun _ => he)) ?_
      have h14 := h14 h12
      refine zS1 (fun r he => B_X8_favours_r44_113 Ln _ _ _ _ _ _ _  he) ?_
      refine zS1 (fun r he => B_X8_favours_r44_120_s1 Ln _ _ _ _ _ _ _ _  he) ?_
      have q := hK83 _ h14
      exact q
def L_X8_favours_r44_35 (Ln : Nat) (I A : Nat → Nat → Int32) (v1 : Int32) (v2 : Int32) (Q : Int32 → (Nat → Nat → Int32) → (Nat → Nat → Int32) → Prop) : Int32 × Int32 → (Int32 × Int32 → Prop) → Prop
  | (v3, v4), K35 => ((((I 44 20) : Int32) ≤ v4 → ((zLoop (L_X8_favours_r44_83 Ln v1 v2 v3  Q) ((-9), 9, I, A)))) ∧ (¬ (((I 44 20) : Int32) ≤ v4) → ((zin v4 6 = true) ∧ (((A 55 (v4).toNatClampNeg) : Int32) ≠ v1 → (((K35 ((v3 - 0), (v4 + 1)))))) ∧ (¬ (((A 55 (v4).toNatClampNeg) : Int32) ≠ v1) → ((zin v4 6 = true) ∧ ((K35 ((v3 - (A 56 (v4).toNatClampNeg)), (v4 + 1)))))))))
set_option maxRecDepth 100000 in
theorem TL_X8_favours_r44_35 {Ln : Nat} {I A : Nat → Nat → Int32} {v1 : Int32} {v2 : Int32} {Q : Int32 → (Nat → Nat → Int32) → (Nat → Nat → Int32) → Prop} : ∀ p, zLoop (L_X8_favours_r44_35 Ln I A v1 v2  Q) p → SL_X8_favours_r44_35 Ln I A v1 v2 Q p := by
  refine zLoop.sound (Sem := SL_X8_favours_r44_35 Ln I A v1 v2 Q) ?_
  rintro ⟨v3, v4⟩ K35 hK35 h0
  show zSem 141 35 0 0 [some (.ref 44), some (.int v1), some (.int v2), some (.int v3), some (.int v4), none] [] (zGs Ln I A) (fun r => ∃ x I1 A1, r = (some (.int x), zGs Ln I1 A1) ∧ Q x I1 A1)
  change ((((I 44 20) : Int32) ≤ v4 → ((zLoop (L_X8_favours_r44_83 Ln v1 v2 v3  Q) ((-9), 9, I, A)))) ∧ (¬ (((I 44 20) : Int32) ≤ v4) → ((zin v4 6 = true) ∧ (((A 55 (v4).toNatClampNeg) : Int32) ≠ v1 → (((K35 ((v3 - 0), (v4 + 1)))))) ∧ (¬ (((A 55 (v4).toNatClampNeg) : Int32) ≠ v1) → ((zin v4 6 = true) ∧ ((K35 ((v3 - (A 56 (v4).toNatClampNeg)), (v4 + 1))))))))) at h0
  obtain ⟨h2, h3⟩ := h0
  by_cases h1 : ((I 44 20) : Int32) ≤ v4
  · refine zS1 (fun r he => B_X8_favours_r44_35 Ln _ _ _ _ _ _  (fun _ => he) (fun n => absurd h1 n)) ?_
    have h2 := h2 h1
    refine zS1 (fun r he => B_X8_favours_r44_75 Ln _ _ _ _ _ _  he) ?_
    exact TL_X8_favours_r44_83  _ h2
  · refine zS1 (fun r he => B_X8_favours_r44_35 Ln _ _ _ _ _ _  (fun n => absurd n h1) (fun _ => he)) ?_
    have h3 := h3 h1
    obtain ⟨h4, h5⟩ := h3
    obtain ⟨h7, h8⟩ := h5
    by_cases h6 : ((A 55 (v4).toNatClampNeg) : Int32) ≠ v1
    · refine zS1 (fun r he => B_X8_favours_r44_44 Ln _ _ _ _ _ _ h4 (fun _ => he) (fun n => absurd h6 n)) ?_
      have h7 := h7 h6
      refine zS1 (fun r he => B_X8_favours_r44_66_s1 Ln _ _ _ _ _ _ _  he) ?_
      refine zS1 (fun r he => B_X8_favours_r44_67_s2 Ln _ _ _ _ _ _ _ _  he) ?_
      have q := hK35 _ h7
      exact q
    · refine zS1 (fun r he => B_X8_favours_r44_44 Ln _ _ _ _ _ _ h4 (fun n => absurd n h6) (fun _ => he)) ?_
      have h8 := h8 h6
      obtain ⟨h9, h10⟩ := h8
      refine zS1 (fun r he => B_X8_favours_r44_56_s1 Ln _ _ _ _ _ _ _ h9 he) ?_
      refine zS1 (fun r he => B_X8_favours_r44_67_s2 Ln _ _ _ _ _ _ _ _  he) ?_
      have q := hK35 _ h10
      exact q
def W_X8_favours_r44 (Ln : Nat) (I A : Nat → Nat → Int32) (v1 : Int32) (Q : Int32 → (Nat → Nat → Int32) → (Nat → Nat → Int32) → Prop) : Prop := ((W_X8_noShade_r44 Ln I A v1 (fun (r1 : Int32) => (((r1 : Int32) = 0 → ((zin v1 6 = true) ∧ (((A 45 (v1).toNatClampNeg) : Int32) = 2 → ((zin v1 6 = true) ∧ (zLoop (L_X8_favours_r44_35 Ln I A v1 (A 49 (v1).toNatClampNeg)  Q) ((A 49 (v1).toNatClampNeg), 0)))) ∧ (¬ (((A 45 (v1).toNatClampNeg) : Int32) = 2) → (Q (-3) I A)))) ∧ (¬ ((r1 : Int32) = 0) → (Q (-1) I A))))))
set_option maxRecDepth 100000 in
theorem T_X8_favours_r44 (Ln : Nat) (I A : Nat → Nat → Int32) (v1 : Int32) (Q : Int32 → (Nat → Nat → Int32) → (Nat → Nat → Int32) → Prop) (h0 : W_X8_favours_r44 Ln I A v1 Q) : zSem 141 0 0 0 [some (.ref 44), some (.int v1), none, none, none, none] [] (zGs Ln I A) (fun r => ∃ x I1 A1, r = (some (.int x), zGs Ln I1 A1) ∧ Q x I1 A1) := by
  unfold W_X8_favours_r44 at h0
  obtain ⟨_, h1, r1, rfl, h2⟩ := T_X8_noShade_r44 Ln _ _ _ _ h0
  refine zS1 (fun r he => B_X8_favours_r44_0 Ln _ _ _  h1 rfl he) ?_
  obtain ⟨h4, h5⟩ := h2
  by_cases h3 : (r1 : Int32) = 0
  · refine zS1 (fun r he => B_X8_favours_r44_5_s1 Ln _ _ _ _  (fun _ => he) (fun n => absurd h3 n)) ?_
    have h4 := h4 h3
    obtain ⟨h6, h7⟩ := h4
    obtain ⟨h9, h10⟩ := h7
    by_cases h8 : ((A 45 (v1).toNatClampNeg) : Int32) = 2
    · refine zS1 (fun r he => B_X8_favours_r44_10 Ln _ _ _ h6 (fun _ => he) (fun n => absurd h8 n)) ?_
      have h9 := h9 h8
      obtain ⟨h11, h12⟩ := h9
      refine zS1 (fun r he => B_X8_favours_r44_23 Ln _ _ _ h11 he) ?_
      exact TL_X8_favours_r44_35  _ h12
    · refine zS1 (fun r he => B_X8_favours_r44_10 Ln _ _ _ h6 (fun n => absurd n h8) (fun _ => he)) ?_
      have h10 := h10 h8
      exact ⟨_, B_X8_favours_r44_20 Ln _ _ _ , _, _, _, rfl, h10⟩
  · refine zS1 (fun r he => B_X8_favours_r44_5_s1 Ln _ _ _ _  (fun n => absurd n h3) (fun _ => he)) ?_
    have h5 := h5 h3
    exact ⟨_, B_X8_favours_r44_8 Ln _ _ _ , _, _, _, rfl, h5⟩
def W_X8_reading_r44 (Ln : Nat) (I A : Nat → Nat → Int32) (v1 : Int32) (v2 : Int32) (v3 : Int32) (Q : Int32 → (Nat → Nat → Int32) → (Nat → Nat → Int32) → Prop) : Prop := ((W_X8_noShade_r44 Ln I A v1 (fun (r1 : Int32) => (((r1 : Int32) ≠ 0 → (Q (-1) I A)) ∧ (¬ ((r1 : Int32) ≠ 0) → ((W_X8_noNight Ln I A v2 (fun (r2 : Int32) => (((r2 : Int32) = 0 → ((((I 44 31) : Int32) ≠ 6 → ((zin (I 44 31) 6 = true) ∧ (zin (I 44 31) 6 = true) ∧ (zin (I 44 31) 6 = true) ∧ Q (((I 44 31) + 1) - 1) (zp I 44 31 ((I 44 31) + 1)) (zw (zw (zw A 62 ((I 44 31).toNatClampNeg) v1) 63 ((I 44 31).toNatClampNeg) v2) 64 ((I 44 31).toNatClampNeg) (vp_nar .boolean v3)))) ∧ (¬ (((I 44 31) : Int32) ≠ 6) → (Q (-4) I A)))) ∧ (¬ ((r2 : Int32) = 0) → (Q (-1) I A)))))))))))
set_option maxRecDepth 100000 in
theorem T_X8_reading_r44 (Ln : Nat) (I A : Nat → Nat → Int32) (v1 : Int32) (v2 : Int32) (v3 : Int32) (Q : Int32 → (Nat → Nat → Int32) → (Nat → Nat → Int32) → Prop) (h0 : W_X8_reading_r44 Ln I A v1 v2 v3 Q) : zSem 142 0 0 0 [some (.ref 44), some (.int v1), some (.int v2), some (.int v3)] [] (zGs Ln I A) (fun r => ∃ x I1 A1, r = (some (.int x), zGs Ln I1 A1) ∧ Q x I1 A1) := by
  unfold W_X8_reading_r44 at h0
  obtain ⟨_, h1, r1, rfl, h2⟩ := T_X8_noShade_r44 Ln _ _ _ _ h0
  refine zS1 (fun r he => B_X8_reading_r44_0 Ln _ _ _ _ _  h1 rfl he) ?_
  obtain ⟨h4, h5⟩ := h2
  by_cases h3 : (r1 : Int32) ≠ 0
  · refine zS1 (fun r he => B_X8_reading_r44_5_s1 Ln _ _ _ _ _ _  (fun _ => he) (fun n => absurd h3 n)) ?_
    have h4 := h4 h3
    exact ⟨_, B_X8_reading_r44_15 Ln _ _ _ _ _ , _, _, _, rfl, h4⟩
  · refine zS1 (fun r he => B_X8_reading_r44_5_s1 Ln _ _ _ _ _ _  (fun n => absurd n h3) (fun _ => he)) ?_
    have h5 := h5 h3
    obtain ⟨_, h6, r2, rfl, h7⟩ := T_X8_noNight Ln _ _ _ _ h5
    refine zS1 (fun r he => B_X8_reading_r44_8 Ln _ _ _ _ _  h6 rfl he) ?_
    obtain ⟨h9, h10⟩ := h7
    by_cases h8 : (r2 : Int32) = 0
    · refine zS1 (fun r he => B_X8_reading_r44_12_s1 Ln _ _ _ _ _ _  (fun _ => he) (fun n => absurd h8 n)) ?_
      have h9 := h9 h8
      obtain ⟨h12, h13⟩ := h9
      by_cases h11 : ((I 44 31) : Int32) ≠ 6
      · refine zS1 (fun r he => B_X8_reading_r44_17 Ln _ _ _ _ _  (fun _ => he) (fun n => absurd h11 n)) ?_
        have h12 := h12 h11
        obtain ⟨h14, h15⟩ := h12
        obtain ⟨h16, h17⟩ := h15
        obtain ⟨h18, h19⟩ := h17
        exact ⟨_, B_X8_reading_r44_29 Ln _ _ _ _ _ h14 h16 h18, _, _, _, rfl, h19⟩
      · refine zS1 (fun r he => B_X8_reading_r44_17 Ln _ _ _ _ _  (fun n => absurd n h11) (fun _ => he)) ?_
        have h13 := h13 h11
        exact ⟨_, B_X8_reading_r44_26 Ln _ _ _ _ _ , _, _, _, rfl, h13⟩
    · refine zS1 (fun r he => B_X8_reading_r44_12_s1 Ln _ _ _ _ _ _  (fun n => absurd n h8) (fun _ => he)) ?_
      have h10 := h10 h8
      exact ⟨_, B_X8_reading_r44_15 Ln _ _ _ _ _ , _, _, _, rfl, h10⟩
def W_X8_back_r44 (Ln : Nat) (I A : Nat → Nat → Int32) (v1 : Int32) (Q : Int32 → (Nat → Nat → Int32) → Prop) : Prop := ((W_X8_in Ln I A (Int32.toInt64 v1) 0 (Int32.toInt64 (I 44 31)) (fun (r1 : Int32) => (((r1 : Int32) ≠ 0 → (Q ((I 44 31) - v1) (zp I 44 31 ((I 44 31) - v1)))) ∧ (¬ ((r1 : Int32) ≠ 0) → (Q (-2) I))))))
set_option maxRecDepth 100000 in
theorem T_X8_back_r44 (Ln : Nat) (I A : Nat → Nat → Int32) (v1 : Int32) (Q : Int32 → (Nat → Nat → Int32) → Prop) (h0 : W_X8_back_r44 Ln I A v1 Q) : zSem 143 0 0 0 [some (.ref 44), some (.int v1)] [] (zGs Ln I A) (fun r => ∃ x I1, r = (some (.int x), zGs Ln I1 A) ∧ Q x I1) := by
  unfold W_X8_back_r44 at h0
  obtain ⟨_, h1, r1, rfl, h2⟩ := T_X8_in Ln _ _ _ _ _ _ h0
  refine zS1 (fun r he => B_X8_back_r44_0 Ln _ _ _  h1 rfl he) ?_
  obtain ⟨h4, h5⟩ := h2
  by_cases h3 : (r1 : Int32) ≠ 0
  · refine zS1 (fun r he => B_X8_back_r44_11_s1 Ln _ _ _ _  (fun _ => he) (fun n => absurd h3 n)) ?_
    have h4 := h4 h3
    exact ⟨_, B_X8_back_r44_17 Ln _ _ _ , _, _, rfl, h4⟩
  · refine zS1 (fun r he => B_X8_back_r44_11_s1 Ln _ _ _ _  (fun n => absurd n h3) (fun _ => he)) ?_
    have h5 := h5 h3
    exact ⟨_, B_X8_back_r44_14 Ln _ _ _ , _, _, rfl, h5⟩
def SL_X8_areSo_r44_8 (Ln : Nat) (I A : Nat → Nat → Int32) (Q : Int32 → (Nat → Nat → Int32) → (Nat → Nat → Int32) → Prop) : Int32 × Int32 → Prop
  | (v1, v2) => zSem 144 8 0 0 [some (.ref 44), some (.int v1), some (.int v2)] [] (zGs Ln I A) (fun r => ∃ x I1 A1, r = (some (.int x), zGs Ln I1 A1) ∧ Q x I1 A1)
def J_X8_areSo_r44_45_s1 (Ln : Nat) (I A : Nat → Nat → Int32) (v1 : Int32) (v2 : Int32) (s0 : Int32) (K8 : Int32 × Int32 → Prop) (Q : Int32 → (Nat → Nat → Int32) → (Nat → Nat → Int32) → Prop) : Prop := ((zin v2 6 = true) ∧ ((s0 : Int32) ≠ (A 64 (v2).toNatClampNeg) → (((K8 (0, (v2 + 1)))))) ∧ (¬ ((s0 : Int32) ≠ (A 64 (v2).toNatClampNeg)) → (((K8 (1, (v2 + 1)))))))
set_option maxRecDepth 100000 in
theorem TJ_X8_areSo_r44_45_s1 {Ln : Nat} {I A : Nat → Nat → Int32} {v1 : Int32} {v2 : Int32} {s0 : Int32} {K8 : Int32 × Int32 → Prop} {Q : Int32 → (Nat → Nat → Int32) → (Nat → Nat → Int32) → Prop} (hK8 : ∀ p, K8 p → SL_X8_areSo_r44_8 Ln I A  Q p) (h0 : J_X8_areSo_r44_45_s1 Ln I A v1 v2 s0 K8 Q) : zSem 144 45 0 0 [some (.ref 44), some (.int v1), some (.int v2)] [.int s0] (zGs Ln I A) (fun r => ∃ x I1 A1, r = (some (.int x), zGs Ln I1 A1) ∧ Q x I1 A1) := by
  unfold J_X8_areSo_r44_45_s1 at h0
  obtain ⟨h1, h2⟩ := h0
  obtain ⟨h4, h5⟩ := h2
  by_cases h3 : (s0 : Int32) ≠ (A 64 (v2).toNatClampNeg)
  · refine zS1 (fun r he => B_X8_areSo_r44_45_s1 Ln _ _ _ _ _ h1 (fun _ => he) (fun n => absurd h3 n)) ?_
    have h4 := h4 h3
    refine zS1 (fun r he => B_X8_areSo_r44_58 Ln _ _ _ _  he) ?_
    refine zS1 (fun r he => B_X8_areSo_r44_59_s1 Ln _ _ _ _ _  he) ?_
    have q := hK8 _ h4
    exact q
  · refine zS1 (fun r he => B_X8_areSo_r44_45_s1 Ln _ _ _ _ _ h1 (fun n => absurd n h3) (fun _ => he)) ?_
    have h5 := h5 h3
    refine zS1 (fun r he => B_X8_areSo_r44_54 Ln _ _ _ _  he) ?_
    refine zS1 (fun r he => B_X8_areSo_r44_59_s1 Ln _ _ _ _ _  he) ?_
    have q := hK8 _ h5
    exact q
def L_X8_areSo_r44_8 (Ln : Nat) (I A : Nat → Nat → Int32) (Q : Int32 → (Nat → Nat → Int32) → (Nat → Nat → Int32) → Prop) : Int32 × Int32 → (Int32 × Int32 → Prop) → Prop
  | (v1, v2), K8 => ((((I 44 31) : Int32) ≤ v2 → ((v1 = 0 ∨ v1 = 1) ∧ Q v1 I A)) ∧ (¬ (((I 44 31) : Int32) ≤ v2) → (((v1 : Int32) = 0 → (((K8 (0, (v2 + 1)))))) ∧ (¬ ((v1 : Int32) = 0) → ((zin v2 6 = true) ∧ (zin (A 62 (v2).toNatClampNeg) 6 = true) ∧ (zin v2 6 = true) ∧ (((A 63 (v2).toNatClampNeg) : Int32) < (A 57 (A 62 (v2).toNatClampNeg).toNatClampNeg) → ((J_X8_areSo_r44_45_s1 Ln I A v1 v2 0 K8 Q))) ∧ (¬ (((A 63 (v2).toNatClampNeg) : Int32) < (A 57 (A 62 (v2).toNatClampNeg).toNatClampNeg)) → ((J_X8_areSo_r44_45_s1 Ln I A v1 v2 1 K8 Q))))))))
set_option maxRecDepth 100000 in
theorem TL_X8_areSo_r44_8 {Ln : Nat} {I A : Nat → Nat → Int32} {Q : Int32 → (Nat → Nat → Int32) → (Nat → Nat → Int32) → Prop} : ∀ p, zLoop (L_X8_areSo_r44_8 Ln I A   Q) p → SL_X8_areSo_r44_8 Ln I A  Q p := by
  refine zLoop.sound (Sem := SL_X8_areSo_r44_8 Ln I A  Q) ?_
  rintro ⟨v1, v2⟩ K8 hK8 h0
  show zSem 144 8 0 0 [some (.ref 44), some (.int v1), some (.int v2)] [] (zGs Ln I A) (fun r => ∃ x I1 A1, r = (some (.int x), zGs Ln I1 A1) ∧ Q x I1 A1)
  change ((((I 44 31) : Int32) ≤ v2 → ((v1 = 0 ∨ v1 = 1) ∧ Q v1 I A)) ∧ (¬ (((I 44 31) : Int32) ≤ v2) → (((v1 : Int32) = 0 → (((K8 (0, (v2 + 1)))))) ∧ (¬ ((v1 : Int32) = 0) → ((zin v2 6 = true) ∧ (zin (A 62 (v2).toNatClampNeg) 6 = true) ∧ (zin v2 6 = true) ∧ (((A 63 (v2).toNatClampNeg) : Int32) < (A 57 (A 62 (v2).toNatClampNeg).toNatClampNeg) → ((J_X8_areSo_r44_45_s1 Ln I A v1 v2 0 K8 Q))) ∧ (¬ (((A 63 (v2).toNatClampNeg) : Int32) < (A 57 (A 62 (v2).toNatClampNeg).toNatClampNeg)) → ((J_X8_areSo_r44_45_s1 Ln I A v1 v2 1 K8 Q)))))))) at h0
  obtain ⟨h2, h3⟩ := h0
  by_cases h1 : ((I 44 31) : Int32) ≤ v2
  · refine zS1 (fun r he => B_X8_areSo_r44_8 Ln _ _ _ _  (fun _ => he) (fun n => absurd h1 n)) ?_
    have h2 := h2 h1
    obtain ⟨h4, h5⟩ := h2
    exact ⟨_, B_X8_areSo_r44_66 Ln _ _ _ _  h4, _, _, _, rfl, h5⟩
  · refine zS1 (fun r he => B_X8_areSo_r44_8 Ln _ _ _ _  (fun n => absurd n h1) (fun _ => he)) ?_
    have h3 := h3 h1
    obtain ⟨h7, h8⟩ := h3
    by_cases h6 : (v1 : Int32) = 0
    · refine zS1 (fun r he => B_X8_areSo_r44_16 Ln _ _ _ _  (fun _ => he) (fun n => absurd h6 n)) ?_
      have h7 := h7 h6
      refine zS1 (fun r he => B_X8_areSo_r44_58 Ln _ _ _ _  he) ?_
      refine zS1 (fun r he => B_X8_areSo_r44_59_s1 Ln _ _ _ _ _  he) ?_
      have q := hK8 _ h7
      exact q
    · refine zS1 (fun r he => B_X8_areSo_r44_16 Ln _ _ _ _  (fun n => absurd n h6) (fun _ => he)) ?_
      have h8 := h8 h6
      obtain ⟨h9, h10⟩ := h8
      obtain ⟨h11, h12⟩ := h10
      obtain ⟨h13, h14⟩ := h12
      obtain ⟨h16, h17⟩ := h14
      by_cases h15 : ((A 63 (v2).toNatClampNeg) : Int32) < (A 57 (A 62 (v2).toNatClampNeg).toNatClampNeg)
      · refine zS1 (fun r he => B_X8_areSo_r44_20 Ln _ _ _ _ h9 h11 h13 (fun _ => he) (fun n => absurd h15 n)) ?_
        have h16 := h16 h15
        refine zS1 (fun r he => B_X8_areSo_r44_44 Ln _ _ _ _  he) ?_
        exact TJ_X8_areSo_r44_45_s1 hK8 h16
      · refine zS1 (fun r he => B_X8_areSo_r44_20 Ln _ _ _ _ h9 h11 h13 (fun n => absurd n h15) (fun _ => he)) ?_
        have h17 := h17 h15
        refine zS1 (fun r he => B_X8_areSo_r44_40 Ln _ _ _ _  he) ?_
        exact TJ_X8_areSo_r44_45_s1 hK8 h17
def W_X8_areSo_r44 (Ln : Nat) (I A : Nat → Nat → Int32) (Q : Int32 → (Nat → Nat → Int32) → (Nat → Nat → Int32) → Prop) : Prop := ((W_X8_goAll_r44 Ln I A  (fun (I1 : Nat → Nat → Int32) (A2 : Nat → Nat → Int32) => ((zLoop (L_X8_areSo_r44_8 Ln I1 A2  Q) (1, 0))))))
set_option maxRecDepth 100000 in
theorem T_X8_areSo_r44 (Ln : Nat) (I A : Nat → Nat → Int32) (Q : Int32 → (Nat → Nat → Int32) → (Nat → Nat → Int32) → Prop) (h0 : W_X8_areSo_r44 Ln I A Q) : zSem 144 0 0 0 [some (.ref 44), none, none] [] (zGs Ln I A) (fun r => ∃ x I1 A1, r = (some (.int x), zGs Ln I1 A1) ∧ Q x I1 A1) := by
  unfold W_X8_areSo_r44 at h0
  obtain ⟨_, h1, I1, A2, rfl, h2⟩ := T_X8_goAll_r44 Ln _ _ _ h0
  refine zS1 (fun r he => B_X8_areSo_r44_0 Ln _ _   h1 rfl he) ?_
  refine zS1 (fun r he => B_X8_areSo_r44_4 Ln _ _   he) ?_
  exact TL_X8_areSo_r44_8  _ h2
def SL_X8_payers_r44_14 (Ln : Nat) (v1 : Int32) (Q : Int32 → (Nat → Nat → Int32) → (Nat → Nat → Int32) → Prop) : Int32 × Int32 × (Nat → Nat → Int32) × (Nat → Nat → Int32) → Prop
  | (v2, v3, I, A) => zSem 145 14 0 0 [some (.ref 44), some (.int v1), some (.int v2), some (.int v3)] [] (zGs Ln I A) (fun r => ∃ x I1 A1, r = (some (.int x), zGs Ln I1 A1) ∧ Q x I1 A1)
def J_X8_payers_r44_58_s2 (Ln : Nat) (I A : Nat → Nat → Int32) (v1 : Int32) (v2 : Int32) (v3 : Int32) (s0 : Int32) (s1 : Int32) (K14 : Int32 × Int32 × (Nat → Nat → Int32) × (Nat → Nat → Int32) → Prop) (Q : Int32 → (Nat → Nat → Int32) → (Nat → Nat → Int32) → Prop) : Prop := ((W_X8_lend_r44 Ln I A v1 v3 1 (fun (A6 : Nat → Nat → Int32) => ((K14 ((s0 ||| s1), (v3 + 1), I, A6))))))
set_option maxRecDepth 100000 in
theorem TJ_X8_payers_r44_58_s2 {Ln : Nat} {I A : Nat → Nat → Int32} {v1 : Int32} {v2 : Int32} {v3 : Int32} {s0 : Int32} {s1 : Int32} {K14 : Int32 × Int32 × (Nat → Nat → Int32) × (Nat → Nat → Int32) → Prop} {Q : Int32 → (Nat → Nat → Int32) → (Nat → Nat → Int32) → Prop} (hK14 : ∀ p, K14 p → SL_X8_payers_r44_14 Ln  v1 Q p) (h0 : J_X8_payers_r44_58_s2 Ln I A v1 v2 v3 s0 s1 K14 Q) : zSem 145 58 0 0 [some (.ref 44), some (.int v1), some (.int v2), some (.int v3)] [.int s1, .int s0] (zGs Ln I A) (fun r => ∃ x I1 A1, r = (some (.int x), zGs Ln I1 A1) ∧ Q x I1 A1) := by
  unfold J_X8_payers_r44_58_s2 at h0
  obtain ⟨_, h1, A6, rfl, h2⟩ := T_X8_lend_r44 Ln _ _ _ _ _ _ h0
  refine zS1 (fun r he => B_X8_payers_r44_58_s2 Ln _ _ _ _ _ _ _  h1 rfl he) ?_
  refine zS1 (fun r he => B_X8_payers_r44_67 Ln _ _ _ _ _  he) ?_
  have q := hK14 _ h2
  exact q
def L_X8_payers_r44_14 (Ln : Nat) (v1 : Int32) (Q : Int32 → (Nat → Nat → Int32) → (Nat → Nat → Int32) → Prop) : Int32 × Int32 × (Nat → Nat → Int32) × (Nat → Nat → Int32) → (Int32 × Int32 × (Nat → Nat → Int32) × (Nat → Nat → Int32) → Prop) → Prop
  | (v2, v3, I, A), K14 => ((((I 44 4) : Int32) ≤ v3 → (Q v2 I A)) ∧ (¬ (((I 44 4) : Int32) ≤ v3) → (((v3 : Int32) = v1 → ((K14 (v2, (v3 + 1), I, A)))) ∧ (¬ ((v3 : Int32) = v1) → ((zin v3 6 = true) ∧ (((A 49 (v3).toNatClampNeg) : Int32) ≤ 0 → ((K14 (v2, (v3 + 1), I, A)))) ∧ (¬ (((A 49 (v3).toNatClampNeg) : Int32) ≤ 0) → ((W_X8_lend_r44 Ln I A v3 v1 1 (fun (A2 : Nat → Nat → Int32) => ((W_X8_areSo_r44 Ln I A2  (fun (r3 : Int32) (I4 : Nat → Nat → Int32) (A5 : Nat → Nat → Int32) => (((r3 : Int32) = 0 → ((J_X8_payers_r44_58_s2 Ln I4 A5 v1 v2 v3 v2 0 K14 Q))) ∧ (¬ ((r3 : Int32) = 0) → ((J_X8_payers_r44_58_s2 Ln I4 A5 v1 v2 v3 v2 (1 <<< (v3 &&& 31)) K14 Q))))))))))))))))
set_option maxRecDepth 100000 in
theorem TL_X8_payers_r44_14 {Ln : Nat} {v1 : Int32} {Q : Int32 → (Nat → Nat → Int32) → (Nat → Nat → Int32) → Prop} : ∀ p, zLoop (L_X8_payers_r44_14 Ln  v1  Q) p → SL_X8_payers_r44_14 Ln  v1 Q p := by
  refine zLoop.sound (Sem := SL_X8_payers_r44_14 Ln  v1 Q) ?_
  rintro ⟨v2, v3, I, A⟩ K14 hK14 h0
  show zSem 145 14 0 0 [some (.ref 44), some (.int v1), some (.int v2), some (.int v3)] [] (zGs Ln I A) (fun r => ∃ x I1 A1, r = (some (.int x), zGs Ln I1 A1) ∧ Q x I1 A1)
  change ((((I 44 4) : Int32) ≤ v3 → (Q v2 I A)) ∧ (¬ (((I 44 4) : Int32) ≤ v3) → (((v3 : Int32) = v1 → ((K14 (v2, (v3 + 1), I, A)))) ∧ (¬ ((v3 : Int32) = v1) → ((zin v3 6 = true) ∧ (((A 49 (v3).toNatClampNeg) : Int32) ≤ 0 → ((K14 (v2, (v3 + 1), I, A)))) ∧ (¬ (((A 49 (v3).toNatClampNeg) : Int32) ≤ 0) → ((W_X8_lend_r44 Ln I A v3 v1 1 (fun (A2 : Nat → Nat → Int32) => ((W_X8_areSo_r44 Ln I A2  (fun (r3 : Int32) (I4 : Nat → Nat → Int32) (A5 : Nat → Nat → Int32) => (((r3 : Int32) = 0 → ((J_X8_payers_r44_58_s2 Ln I4 A5 v1 v2 v3 v2 0 K14 Q))) ∧ (¬ ((r3 : Int32) = 0) → ((J_X8_payers_r44_58_s2 Ln I4 A5 v1 v2 v3 v2 (1 <<< (v3 &&& 31)) K14 Q)))))))))))))))) at h0
  obtain ⟨h2, h3⟩ := h0
  by_cases h1 : ((I 44 4) : Int32) ≤ v3
  · refine zS1 (fun r he => B_X8_payers_r44_14 Ln _ _ _ _ _  (fun _ => he) (fun n => absurd h1 n)) ?_
    have h2 := h2 h1
    exact ⟨_, B_X8_payers_r44_73 Ln _ _ _ _ _ , _, _, _, rfl, h2⟩
  · refine zS1 (fun r he => B_X8_payers_r44_14 Ln _ _ _ _ _  (fun n => absurd n h1) (fun _ => he)) ?_
    have h3 := h3 h1
    obtain ⟨h5, h6⟩ := h3
    by_cases h4 : (v3 : Int32) = v1
    · refine zS1 (fun r he => B_X8_payers_r44_22 Ln _ _ _ _ _  (fun _ => he) (fun n => absurd h4 n)) ?_
      have h5 := h5 h4
      refine zS1 (fun r he => B_X8_payers_r44_67 Ln _ _ _ _ _  he) ?_
      have q := hK14 _ h5
      exact q
    · refine zS1 (fun r he => B_X8_payers_r44_22 Ln _ _ _ _ _  (fun n => absurd n h4) (fun _ => he)) ?_
      have h6 := h6 h4
      obtain ⟨h7, h8⟩ := h6
      obtain ⟨h10, h11⟩ := h8
      by_cases h9 : ((A 49 (v3).toNatClampNeg) : Int32) ≤ 0
      · refine zS1 (fun r he => B_X8_payers_r44_27 Ln _ _ _ _ _ h7 (fun _ => he) (fun n => absurd h9 n)) ?_
        have h10 := h10 h9
        refine zS1 (fun r he => B_X8_payers_r44_67 Ln _ _ _ _ _  he) ?_
        have q := hK14 _ h10
        exact q
      · refine zS1 (fun r he => B_X8_payers_r44_27 Ln _ _ _ _ _ h7 (fun n => absurd n h9) (fun _ => he)) ?_
        have h11 := h11 h9
        obtain ⟨_, h12, A2, rfl, h13⟩ := T_X8_lend_r44 Ln _ _ _ _ _ _ h11
        refine zS1 (fun r he => B_X8_payers_r44_36 Ln _ _ _ _ _  h12 rfl he) ?_
        obtain ⟨_, h14, r3, I4, A5, rfl, h15⟩ := T_X8_areSo_r44 Ln _ _ _ h13
        refine zS1 (fun r he => B_X8_payers_r44_43 Ln _ _ _ _ _  h14 rfl he) ?_
        obtain ⟨h17, h18⟩ := h15
        by_cases h16 : (r3 : Int32) = 0
        · refine zS1 (fun r he => B_X8_payers_r44_48_s2 Ln _ _ _ _ _ _ _  (fun _ => he) (fun n => absurd h16 n)) ?_
          have h17 := h17 h16
          refine zS1 (fun r he => B_X8_payers_r44_57_s1 Ln _ _ _ _ _ _  he) ?_
          exact TJ_X8_payers_r44_58_s2 hK14 h17
        · refine zS1 (fun r he => B_X8_payers_r44_48_s2 Ln _ _ _ _ _ _ _  (fun n => absurd n h16) (fun _ => he)) ?_
          have h18 := h18 h16
          refine zS1 (fun r he => B_X8_payers_r44_51_s1 Ln _ _ _ _ _ _  he) ?_
          exact TJ_X8_payers_r44_58_s2 hK14 h18
def W_X8_payers_r44 (Ln : Nat) (I A : Nat → Nat → Int32) (v1 : Int32) (Q : Int32 → (Nat → Nat → Int32) → (Nat → Nat → Int32) → Prop) : Prop := ((W_X8_noShade_r44 Ln I A v1 (fun (r1 : Int32) => (((r1 : Int32) = 0 → ((zLoop (L_X8_payers_r44_14 Ln v1  Q) (0, 0, I, A)))) ∧ (¬ ((r1 : Int32) = 0) → (Q (-1) I A))))))
set_option maxRecDepth 100000 in
theorem T_X8_payers_r44 (Ln : Nat) (I A : Nat → Nat → Int32) (v1 : Int32) (Q : Int32 → (Nat → Nat → Int32) → (Nat → Nat → Int32) → Prop) (h0 : W_X8_payers_r44 Ln I A v1 Q) : zSem 145 0 0 0 [some (.ref 44), some (.int v1), none, none] [] (zGs Ln I A) (fun r => ∃ x I1 A1, r = (some (.int x), zGs Ln I1 A1) ∧ Q x I1 A1) := by
  unfold W_X8_payers_r44 at h0
  obtain ⟨_, h1, r1, rfl, h2⟩ := T_X8_noShade_r44 Ln _ _ _ _ h0
  refine zS1 (fun r he => B_X8_payers_r44_0 Ln _ _ _  h1 rfl he) ?_
  obtain ⟨h4, h5⟩ := h2
  by_cases h3 : (r1 : Int32) = 0
  · refine zS1 (fun r he => B_X8_payers_r44_5_s1 Ln _ _ _ _  (fun _ => he) (fun n => absurd h3 n)) ?_
    have h4 := h4 h3
    refine zS1 (fun r he => B_X8_payers_r44_10 Ln _ _ _  he) ?_
    exact TL_X8_payers_r44_14  _ h4
  · refine zS1 (fun r he => B_X8_payers_r44_5_s1 Ln _ _ _ _  (fun n => absurd n h3) (fun _ => he)) ?_
    have h5 := h5 h3
    exact ⟨_, B_X8_payers_r44_8 Ln _ _ _ , _, _, _, rfl, h5⟩
def SL_X8_rules_r44_19 (Ln : Nat) (v1 : Int32) (Q : Int32 → (Nat → Nat → Int32) → (Nat → Nat → Int32) → Prop) : Int32 × Int32 × (Nat → Nat → Int32) × (Nat → Nat → Int32) → Prop
  | (v2, v3, I, A) => zSem 146 19 0 0 [some (.ref 44), some (.int v1), some (.int v2), some (.int v3)] [] (zGs Ln I A) (fun r => ∃ x I1 A1, r = (some (.int x), zGs Ln I1 A1) ∧ Q x I1 A1)
def L_X8_rules_r44_19 (Ln : Nat) (v1 : Int32) (Q : Int32 → (Nat → Nat → Int32) → (Nat → Nat → Int32) → Prop) : Int32 × Int32 × (Nat → Nat → Int32) × (Nat → Nat → Int32) → (Int32 × Int32 × (Nat → Nat → Int32) × (Nat → Nat → Int32) → Prop) → Prop
  | (v2, v3, I, A), K19 => (((3 : Int32) ≤ v3 → (Q v2 (zp I 44 10 v1) A)) ∧ (¬ ((3 : Int32) ≤ v3) → ((W_X8_areSo_r44 Ln (zp I 44 10 v3) A  (fun (r1 : Int32) (I2 : Nat → Nat → Int32) (A3 : Nat → Nat → Int32) => (((r1 : Int32) = 0 → (((K19 ((v2 ||| 0), (v3 + 1), I2, A3))))) ∧ (¬ ((r1 : Int32) = 0) → (((K19 ((v2 ||| (1 <<< (v3 &&& 31))), (v3 + 1), I2, A3)))))))))))
set_option maxRecDepth 100000 in
theorem TL_X8_rules_r44_19 {Ln : Nat} {v1 : Int32} {Q : Int32 → (Nat → Nat → Int32) → (Nat → Nat → Int32) → Prop} : ∀ p, zLoop (L_X8_rules_r44_19 Ln  v1  Q) p → SL_X8_rules_r44_19 Ln  v1 Q p := by
  refine zLoop.sound (Sem := SL_X8_rules_r44_19 Ln  v1 Q) ?_
  rintro ⟨v2, v3, I, A⟩ K19 hK19 h0
  show zSem 146 19 0 0 [some (.ref 44), some (.int v1), some (.int v2), some (.int v3)] [] (zGs Ln I A) (fun r => ∃ x I1 A1, r = (some (.int x), zGs Ln I1 A1) ∧ Q x I1 A1)
  change (((3 : Int32) ≤ v3 → (Q v2 (zp I 44 10 v1) A)) ∧ (¬ ((3 : Int32) ≤ v3) → ((W_X8_areSo_r44 Ln (zp I 44 10 v3) A  (fun (r1 : Int32) (I2 : Nat → Nat → Int32) (A3 : Nat → Nat → Int32) => (((r1 : Int32) = 0 → (((K19 ((v2 ||| 0), (v3 + 1), I2, A3))))) ∧ (¬ ((r1 : Int32) = 0) → (((K19 ((v2 ||| (1 <<< (v3 &&& 31))), (v3 + 1), I2, A3))))))))))) at h0
  obtain ⟨h2, h3⟩ := h0
  by_cases h1 : (3 : Int32) ≤ v3
  · refine zS1 (fun r he => B_X8_rules_r44_19 Ln _ _ _ _ _  (fun _ => he) (fun n => absurd h1 n)) ?_
    have h2 := h2 h1
    exact ⟨_, B_X8_rules_r44_52 Ln _ _ _ _ _ , _, _, _, rfl, h2⟩
  · refine zS1 (fun r he => B_X8_rules_r44_19 Ln _ _ _ _ _  (fun n => absurd n h1) (fun _ => he)) ?_
    have h3 := h3 h1
    obtain ⟨_, h4, r1, I2, A3, rfl, h5⟩ := T_X8_areSo_r44 Ln _ _ _ h3
    refine zS1 (fun r he => B_X8_rules_r44_24 Ln _ _ _ _ _  h4 rfl he) ?_
    obtain ⟨h7, h8⟩ := h5
    by_cases h6 : (r1 : Int32) = 0
    · refine zS1 (fun r he => B_X8_rules_r44_34_s2 Ln _ _ _ _ _ _ _  (fun _ => he) (fun n => absurd h6 n)) ?_
      have h7 := h7 h6
      refine zS1 (fun r he => B_X8_rules_r44_43_s1 Ln _ _ _ _ _ _  he) ?_
      refine zS1 (fun r he => B_X8_rules_r44_44_s2 Ln _ _ _ _ _ _ _  he) ?_
      have q := hK19 _ h7
      exact q
    · refine zS1 (fun r he => B_X8_rules_r44_34_s2 Ln _ _ _ _ _ _ _  (fun n => absurd n h6) (fun _ => he)) ?_
      have h8 := h8 h6
      refine zS1 (fun r he => B_X8_rules_r44_37_s1 Ln _ _ _ _ _ _  he) ?_
      refine zS1 (fun r he => B_X8_rules_r44_44_s2 Ln _ _ _ _ _ _ _  he) ?_
      have q := hK19 _ h8
      exact q
def W_X8_rules_r44 (Ln : Nat) (I A : Nat → Nat → Int32) (Q : Int32 → (Nat → Nat → Int32) → (Nat → Nat → Int32) → Prop) : Prop := ((((I 44 4) : Int32) ≠ 0 → ((zLoop (L_X8_rules_r44_19 Ln (I 44 10)  Q) (0, 0, I, A)))) ∧ (¬ (((I 44 4) : Int32) ≠ 0) → (Q (-3) I A)))
set_option maxRecDepth 100000 in
theorem T_X8_rules_r44 (Ln : Nat) (I A : Nat → Nat → Int32) (Q : Int32 → (Nat → Nat → Int32) → (Nat → Nat → Int32) → Prop) (h0 : W_X8_rules_r44 Ln I A Q) : zSem 146 0 0 0 [some (.ref 44), none, none, none] [] (zGs Ln I A) (fun r => ∃ x I1 A1, r = (some (.int x), zGs Ln I1 A1) ∧ Q x I1 A1) := by
  unfold W_X8_rules_r44 at h0
  obtain ⟨h2, h3⟩ := h0
  by_cases h1 : ((I 44 4) : Int32) ≠ 0
  · refine zS1 (fun r he => B_X8_rules_r44_0 Ln _ _   (fun _ => he) (fun n => absurd h1 n)) ?_
    have h2 := h2 h1
    refine zS1 (fun r he => B_X8_rules_r44_10 Ln _ _   he) ?_
    exact TL_X8_rules_r44_19  _ h2
  · refine zS1 (fun r he => B_X8_rules_r44_0 Ln _ _   (fun n => absurd n h1) (fun _ => he)) ?_
    have h3 := h3 h1
    exact ⟨_, B_X8_rules_r44_7 Ln _ _  , _, _, _, rfl, h3⟩
def J_X8_sheet_r44_31 (Ln : Nat) (I A : Nat → Nat → Int32) (v1 : Int32) (v2 : Int32) (v3 : Int32) (Q : Int32 → (Nat → Nat → Int32) → (Nat → Nat → Int32) → Prop) : Prop := ((W_X8_refused_r44 Ln I A (-2) (fun (r3 : Int32) (I4 : Nat → Nat → Int32) => (Q r3 I4 A))))
set_option maxRecDepth 100000 in
theorem TJ_X8_sheet_r44_31 {Ln : Nat} {I A : Nat → Nat → Int32} {v1 : Int32} {v2 : Int32} {v3 : Int32} {Q : Int32 → (Nat → Nat → Int32) → (Nat → Nat → Int32) → Prop} (h0 : J_X8_sheet_r44_31 Ln I A v1 v2 v3   Q) : zSem 148 31 0 0 [some (.ref 44), some (.int v1), some (.int v2), some (.int v3), none] [] (zGs Ln I A) (fun r => ∃ x I1 A1, r = (some (.int x), zGs Ln I1 A1) ∧ Q x I1 A1) := by
  unfold J_X8_sheet_r44_31 at h0
  obtain ⟨_, h1, r3, I4, rfl, h2⟩ := T_X8_refused_r44 Ln _ _ _ _ h0
  refine zS1 (fun r he => B_X8_sheet_r44_31 Ln _ _ _ _ _  h1 rfl he) ?_
  exact ⟨_, B_X8_sheet_r44_37_s1 Ln _ _ _ _ _ _ , _, _, _, rfl, h2⟩
def SL_X8_sheet_r44_65 (Ln : Nat) (I : Nat → Nat → Int32) (v1 : Int32) (v2 : Int32) (v3 : Int32) (Q : Int32 → (Nat → Nat → Int32) → (Nat → Nat → Int32) → Prop) : Int32 × (Nat → Nat → Int32) → Prop
  | (v4, A) => zSem 148 65 0 0 [some (.ref 44), some (.int v1), some (.int v2), some (.int v3), some (.int v4)] [] (zGs Ln I A) (fun r => ∃ x I1 A1, r = (some (.int x), zGs Ln I1 A1) ∧ Q x I1 A1)
def L_X8_sheet_r44_65 (Ln : Nat) (I : Nat → Nat → Int32) (v1 : Int32) (v2 : Int32) (v3 : Int32) (Q : Int32 → (Nat → Nat → Int32) → (Nat → Nat → Int32) → Prop) : Int32 × (Nat → Nat → Int32) → (Int32 × (Nat → Nat → Int32) → Prop) → Prop
  | (v4, A), K65 => (((v3 : Int32) ≤ v4 → ((W_X8_refused_r44 Ln I A 1 (fun (r5 : Int32) (I6 : Nat → Nat → Int32) => (Q r5 I6 A))))) ∧ (¬ ((v3 : Int32) ≤ v4) → ((zin ((60 * v1) + v4) 240 = true) ∧ (K65 ((v4 + 1), (zw A 67 (((60 * v1) + v4).toNatClampNeg) 0))))))
set_option maxRecDepth 100000 in
theorem TL_X8_sheet_r44_65 {Ln : Nat} {I : Nat → Nat → Int32} {v1 : Int32} {v2 : Int32} {v3 : Int32} {Q : Int32 → (Nat → Nat → Int32) → (Nat → Nat → Int32) → Prop} : ∀ p, zLoop (L_X8_sheet_r44_65 Ln I v1 v2 v3  Q) p → SL_X8_sheet_r44_65 Ln I v1 v2 v3 Q p := by
  refine zLoop.sound (Sem := SL_X8_sheet_r44_65 Ln I v1 v2 v3 Q) ?_
  rintro ⟨v4, A⟩ K65 hK65 h0
  show zSem 148 65 0 0 [some (.ref 44), some (.int v1), some (.int v2), some (.int v3), some (.int v4)] [] (zGs Ln I A) (fun r => ∃ x I1 A1, r = (some (.int x), zGs Ln I1 A1) ∧ Q x I1 A1)
  change (((v3 : Int32) ≤ v4 → ((W_X8_refused_r44 Ln I A 1 (fun (r5 : Int32) (I6 : Nat → Nat → Int32) => (Q r5 I6 A))))) ∧ (¬ ((v3 : Int32) ≤ v4) → ((zin ((60 * v1) + v4) 240 = true) ∧ (K65 ((v4 + 1), (zw A 67 (((60 * v1) + v4).toNatClampNeg) 0)))))) at h0
  obtain ⟨h2, h3⟩ := h0
  by_cases h1 : (v3 : Int32) ≤ v4
  · refine zS1 (fun r he => B_X8_sheet_r44_65 Ln _ _ _ _ _ _  (fun _ => he) (fun n => absurd h1 n)) ?_
    have h2 := h2 h1
    obtain ⟨_, h4, r5, I6, rfl, h5⟩ := T_X8_refused_r44 Ln _ _ _ _ h2
    refine zS1 (fun r he => B_X8_sheet_r44_90 Ln _ _ _ _ _ _  h4 rfl he) ?_
    exact ⟨_, B_X8_sheet_r44_95_s1 Ln _ _ _ _ _ _ _ , _, _, _, rfl, h5⟩
  · refine zS1 (fun r he => B_X8_sheet_r44_65 Ln _ _ _ _ _ _  (fun n => absurd n h1) (fun _ => he)) ?_
    have h3 := h3 h1
    obtain ⟨h6, h7⟩ := h3
    refine zS1 (fun r he => B_X8_sheet_r44_71 Ln _ _ _ _ _ _ h6 he) ?_
    have q := hK65 _ h7
    exact q
def W_X8_sheet_r44 (Ln : Nat) (I A : Nat → Nat → Int32) (v1 : Int32) (v2 : Int32) (v3 : Int32) (Q : Int32 → (Nat → Nat → Int32) → (Nat → Nat → Int32) → Prop) : Prop := ((W_X8_noSheet Ln I A v1 (fun (r1 : Int32) => (((r1 : Int32) = 0 → ((W_X8_in Ln I A (Int32.toInt64 v2) 0 2 (fun (r2 : Int32) => (((r2 : Int32) = 0 → (J_X8_sheet_r44_31 Ln I A v1 v2 v3  Q)) ∧ (¬ ((r2 : Int32) = 0) → (((v3 : Int32) ≤ 60 → (((0 : Int32) ≤ v3 → ((zin v1 4 = true) ∧ (zin v1 4 = true) ∧ (zLoop (L_X8_sheet_r44_65 Ln I v1 v2 v3  Q) (0, (zw (zw A 65 ((v1).toNatClampNeg) v3) 66 ((v1).toNatClampNeg) v2))))) ∧ (¬ ((0 : Int32) ≤ v3) → ((W_X8_failed_r44 Ln I A 4 (fun (r7 : Int32) (I8 : Nat → Nat → Int32) => (Q r7 I8 A))))))) ∧ (¬ ((v3 : Int32) ≤ 60) → (J_X8_sheet_r44_31 Ln I A v1 v2 v3  Q))))))))) ∧ (¬ ((r1 : Int32) = 0) → ((W_X8_refused_r44 Ln I A (-1) (fun (r9 : Int32) (I10 : Nat → Nat → Int32) => (Q r9 I10 A)))))))))
set_option maxRecDepth 100000 in
theorem T_X8_sheet_r44 (Ln : Nat) (I A : Nat → Nat → Int32) (v1 : Int32) (v2 : Int32) (v3 : Int32) (Q : Int32 → (Nat → Nat → Int32) → (Nat → Nat → Int32) → Prop) (h0 : W_X8_sheet_r44 Ln I A v1 v2 v3 Q) : zSem 148 0 0 0 [some (.ref 44), some (.int v1), some (.int v2), some (.int v3), none] [] (zGs Ln I A) (fun r => ∃ x I1 A1, r = (some (.int x), zGs Ln I1 A1) ∧ Q x I1 A1) := by
  unfold W_X8_sheet_r44 at h0
  obtain ⟨_, h1, r1, rfl, h2⟩ := T_X8_noSheet Ln _ _ _ _ h0
  refine zS1 (fun r he => B_X8_sheet_r44_0 Ln _ _ _ _ _  h1 rfl he) ?_
  obtain ⟨h4, h5⟩ := h2
  by_cases h3 : (r1 : Int32) = 0
  · refine zS1 (fun r he => B_X8_sheet_r44_4_s1 Ln _ _ _ _ _ _  (fun _ => he) (fun n => absurd h3 n)) ?_
    have h4 := h4 h3
    obtain ⟨_, h6, r2, rfl, h7⟩ := T_X8_in Ln _ _ _ _ _ _ h4
    refine zS1 (fun r he => B_X8_sheet_r44_13 Ln _ _ _ _ _  h6 rfl he) ?_
    obtain ⟨h9, h10⟩ := h7
    by_cases h8 : (r2 : Int32) = 0
    · refine zS1 (fun r he => B_X8_sheet_r44_22_s1 Ln _ _ _ _ _ _  (fun _ => he) (fun n => absurd h8 n)) ?_
      have h9 := h9 h8
      exact TJ_X8_sheet_r44_31  h9
    · refine zS1 (fun r he => B_X8_sheet_r44_22_s1 Ln _ _ _ _ _ _  (fun n => absurd n h8) (fun _ => he)) ?_
      have h10 := h10 h8
      obtain ⟨h12, h13⟩ := h10
      by_cases h11 : (v3 : Int32) ≤ 60
      · refine zS1 (fun r he => B_X8_sheet_r44_25 Ln _ _ _ _ _  (fun _ => he) (fun n => absurd h11 n)) ?_
        have h12 := h12 h11
        obtain ⟨h15, h16⟩ := h12
        by_cases h14 : (0 : Int32) ≤ v3
        · refine zS1 (fun r he => B_X8_sheet_r44_38 Ln _ _ _ _ _  (fun _ => he) (fun n => absurd h14 n)) ?_
          have h15 := h15 h14
          obtain ⟨h17, h18⟩ := h15
          obtain ⟨h19, h20⟩ := h18
          refine zS1 (fun r he => B_X8_sheet_r44_48 Ln _ _ _ _ _ h17 h19 he) ?_
          exact TL_X8_sheet_r44_65  _ h20
        · refine zS1 (fun r he => B_X8_sheet_r44_38 Ln _ _ _ _ _  (fun n => absurd n h14) (fun _ => he)) ?_
          have h16 := h16 h14
          obtain ⟨_, h21, r7, I8, rfl, h22⟩ := T_X8_failed_r44 Ln _ _ _ _ h16
          refine zS1 (fun r he => B_X8_sheet_r44_42 Ln _ _ _ _ _  h21 rfl he) ?_
          exact ⟨_, B_X8_sheet_r44_47_s1 Ln _ _ _ _ _ _ , _, _, _, rfl, h22⟩
      · refine zS1 (fun r he => B_X8_sheet_r44_25 Ln _ _ _ _ _  (fun n => absurd n h11) (fun _ => he)) ?_
        have h13 := h13 h11
        exact TJ_X8_sheet_r44_31  h13
  · refine zS1 (fun r he => B_X8_sheet_r44_4_s1 Ln _ _ _ _ _ _  (fun n => absurd n h3) (fun _ => he)) ?_
    have h5 := h5 h3
    obtain ⟨_, h23, r9, I10, rfl, h24⟩ := T_X8_refused_r44 Ln _ _ _ _ h5
    refine zS1 (fun r he => B_X8_sheet_r44_7 Ln _ _ _ _ _  h23 rfl he) ?_
    exact ⟨_, B_X8_sheet_r44_12_s1 Ln _ _ _ _ _ _ , _, _, _, rfl, h24⟩
def W_X8_lose_r44 (Ln : Nat) (I A : Nat → Nat → Int32) (v1 : Int32) (Q : Int32 → (Nat → Nat → Int32) → Prop) : Prop := ((W_X8_noSheet Ln I A v1 (fun (r1 : Int32) => (((r1 : Int32) = 0 → ((zin v1 4 = true) ∧ ((0 : Int32) ≤ (A 65 (v1).toNatClampNeg) → (((zin v1 4 = true) ∧ Q 1 (zw A 65 ((v1).toNatClampNeg) ((-1)))))) ∧ (¬ ((0 : Int32) ≤ (A 65 (v1).toNatClampNeg)) → (((zin v1 4 = true) ∧ Q 0 (zw A 65 ((v1).toNatClampNeg) ((-1)))))))) ∧ (¬ ((r1 : Int32) = 0) → (Q (-1) A))))))
set_option maxRecDepth 100000 in
theorem T_X8_lose_r44 (Ln : Nat) (I A : Nat → Nat → Int32) (v1 : Int32) (Q : Int32 → (Nat → Nat → Int32) → Prop) (h0 : W_X8_lose_r44 Ln I A v1 Q) : zSem 149 0 0 0 [some (.ref 44), some (.int v1), none] [] (zGs Ln I A) (fun r => ∃ x A1, r = (some (.int x), zGs Ln I A1) ∧ Q x A1) := by
  unfold W_X8_lose_r44 at h0
  obtain ⟨_, h1, r1, rfl, h2⟩ := T_X8_noSheet Ln _ _ _ _ h0
  refine zS1 (fun r he => B_X8_lose_r44_0 Ln _ _ _  h1 rfl he) ?_
  obtain ⟨h4, h5⟩ := h2
  by_cases h3 : (r1 : Int32) = 0
  · refine zS1 (fun r he => B_X8_lose_r44_4_s1 Ln _ _ _ _  (fun _ => he) (fun n => absurd h3 n)) ?_
    have h4 := h4 h3
    obtain ⟨h6, h7⟩ := h4
    obtain ⟨h9, h10⟩ := h7
    by_cases h8 : (0 : Int32) ≤ (A 65 (v1).toNatClampNeg)
    · refine zS1 (fun r he => B_X8_lose_r44_9 Ln _ _ _ h6 (fun _ => he) (fun n => absurd h8 n)) ?_
      have h9 := h9 h8
      refine zS1 (fun r he => B_X8_lose_r44_22 Ln _ _ _  he) ?_
      obtain ⟨h11, h12⟩ := h9
      exact ⟨_, B_X8_lose_r44_23_s1 Ln _ _ _ _ h11, _, _, rfl, h12⟩
    · refine zS1 (fun r he => B_X8_lose_r44_9 Ln _ _ _ h6 (fun n => absurd n h8) (fun _ => he)) ?_
      have h10 := h10 h8
      refine zS1 (fun r he => B_X8_lose_r44_18 Ln _ _ _  he) ?_
      obtain ⟨h13, h14⟩ := h10
      exact ⟨_, B_X8_lose_r44_23_s1 Ln _ _ _ _ h13, _, _, rfl, h14⟩
  · refine zS1 (fun r he => B_X8_lose_r44_4_s1 Ln _ _ _ _  (fun n => absurd n h3) (fun _ => he)) ?_
    have h5 := h5 h3
    exact ⟨_, B_X8_lose_r44_7 Ln _ _ _ , _, _, rfl, h5⟩
def W_X8_noCell_r44 (Ln : Nat) (I A : Nat → Nat → Int32) (v1 : Int32) (v2 : Int32) (Q : Int32 → Prop) : Prop := ((zin v1 4 = true) ∧ ((0 : Int32) ≤ (A 65 (v1).toNatClampNeg) → ((zin v1 4 = true) ∧ (W_X8_in Ln I A (Int32.toInt64 v2) 0 ((Int32.toInt64 (A 65 (v1).toNatClampNeg)) - 1) (fun (r1 : Int32) => (((r1 : Int32) = 0 → ((Q 3))) ∧ (¬ ((r1 : Int32) = 0) → ((Q 0)))))))) ∧ (¬ ((0 : Int32) ≤ (A 65 (v1).toNatClampNeg)) → ((Q 1))))
set_option maxRecDepth 100000 in
theorem T_X8_noCell_r44 (Ln : Nat) (I A : Nat → Nat → Int32) (v1 : Int32) (v2 : Int32) (Q : Int32 → Prop) (h0 : W_X8_noCell_r44 Ln I A v1 v2 Q) : zSem 150 0 0 0 [some (.ref 44), some (.int v1), some (.int v2)] [] (zGs Ln I A) (fun r => ∃ x, r = (some (.int x), zGs Ln I A) ∧ Q x) := by
  unfold W_X8_noCell_r44 at h0
  obtain ⟨h1, h2⟩ := h0
  obtain ⟨h4, h5⟩ := h2
  by_cases h3 : (0 : Int32) ≤ (A 65 (v1).toNatClampNeg)
  · refine zS1 (fun r he => B_X8_noCell_r44_0 Ln _ _ _ _ h1 (fun _ => he) (fun n => absurd h3 n)) ?_
    have h4 := h4 h3
    obtain ⟨h6, h7⟩ := h4
    obtain ⟨_, h8, r1, rfl, h9⟩ := T_X8_in Ln _ _ _ _ _ _ h7
    refine zS1 (fun r he => B_X8_noCell_r44_13 Ln _ _ _ _ h6 h8 rfl he) ?_
    obtain ⟨h11, h12⟩ := h9
    by_cases h10 : (r1 : Int32) = 0
    · refine zS1 (fun r he => B_X8_noCell_r44_28_s1 Ln _ _ _ _ _  (fun _ => he) (fun n => absurd h10 n)) ?_
      have h11 := h11 h10
      refine zS1 (fun r he => B_X8_noCell_r44_35 Ln _ _ _ _  he) ?_
      exact ⟨_, B_X8_noCell_r44_36_s1 Ln _ _ _ _ _ , _, rfl, h11⟩
    · refine zS1 (fun r he => B_X8_noCell_r44_28_s1 Ln _ _ _ _ _  (fun n => absurd n h10) (fun _ => he)) ?_
      have h12 := h12 h10
      refine zS1 (fun r he => B_X8_noCell_r44_31 Ln _ _ _ _  he) ?_
      exact ⟨_, B_X8_noCell_r44_36_s1 Ln _ _ _ _ _ , _, rfl, h12⟩
  · refine zS1 (fun r he => B_X8_noCell_r44_0 Ln _ _ _ _ h1 (fun n => absurd n h3) (fun _ => he)) ?_
    have h5 := h5 h3
    refine zS1 (fun r he => B_X8_noCell_r44_9 Ln _ _ _ _  he) ?_
    exact ⟨_, B_X8_noCell_r44_36_s1 Ln _ _ _ _ _ , _, rfl, h5⟩
