/-! what a method asks, by program (wip/whole/gen_wp.py) -/
def J_X8_readsShade_r44_139_s1 (Ln : Nat) (I A : Nat → Nat → Int32) (v1 : Int32) (v2 : Int32) (v3 : Int32) (v4 : Int32) (v5 : Int32) (v6 : Int32) (s0 : Int32) (Q : Int32 → (Nat → Nat → Int32) → (Nat → Nat → Int32) → Prop) : Prop := (((0 : Int32) ≤ s0 → (((v3 : Int32) ≠ 115 → (((v3 : Int32) ≠ 100 → (((zin (I 44 15) 6 = true) ∧ (zin (I 44 15) 6 = true) ∧ (zin (I 44 15) 6 = true) ∧ (zin (I 44 15) 6 = true) ∧ Q 1 (zp I 44 15 ((I 44 15) + 1)) (zw (zw (zw (zw A 50 (((I 44 15)).toNatClampNeg) 2) 51 ((I 44 15).toNatClampNeg) v4) 52 ((I 44 15).toNatClampNeg) v5) 53 ((I 44 15).toNatClampNeg) ((10 * v6) + s0))))) ∧ (¬ ((v3 : Int32) ≠ 100) → (((zin (I 44 15) 6 = true) ∧ (zin (I 44 15) 6 = true) ∧ (zin (I 44 15) 6 = true) ∧ (zin (I 44 15) 6 = true) ∧ Q 1 (zp I 44 15 ((I 44 15) + 1)) (zw (zw (zw (zw A 50 (((I 44 15)).toNatClampNeg) 1) 51 ((I 44 15).toNatClampNeg) v4) 52 ((I 44 15).toNatClampNeg) v5) 53 ((I 44 15).toNatClampNeg) ((10 * v6) + s0))))))) ∧ (¬ ((v3 : Int32) ≠ 115) → (((zin (I 44 15) 6 = true) ∧ (zin (I 44 15) 6 = true) ∧ (zin (I 44 15) 6 = true) ∧ (zin (I 44 15) 6 = true) ∧ Q 1 (zp I 44 15 ((I 44 15) + 1)) (zw (zw (zw (zw A 50 (((I 44 15)).toNatClampNeg) 0) 51 ((I 44 15).toNatClampNeg) v4) 52 ((I 44 15).toNatClampNeg) v5) 53 ((I 44 15).toNatClampNeg) ((10 * v6) + s0))))))) ∧ (¬ ((0 : Int32) ≤ s0) → (Q 0 I A)))
set_option maxRecDepth 100000 in
theorem TJ_X8_readsShade_r44_139_s1 {Ln : Nat} {I A : Nat → Nat → Int32} {v1 : Int32} {v2 : Int32} {v3 : Int32} {v4 : Int32} {v5 : Int32} {v6 : Int32} {s0 : Int32} {Q : Int32 → (Nat → Nat → Int32) → (Nat → Nat → Int32) → Prop} (h0 : J_X8_readsShade_r44_139_s1 Ln I A v1 v2 v3 v4 v5 v6 s0  Q) : zSem 106 139 0 0 [some (.ref 44), some (.int v1), some (.int v2), some (.int v3), some (.int v4), some (.int v5), some (.int v6), none] [.int s0] (zGs Ln I A) (fun r => ∃ x I1 A1, r = (some (.int x), zGs Ln I1 A1) ∧ Q x I1 A1) := by
  unfold J_X8_readsShade_r44_139_s1 at h0
  obtain ⟨h2, h3⟩ := h0
  by_cases h1 : (0 : Int32) ≤ s0
  · refine zS1 (fun r he => B_X8_readsShade_r44_139_s1 Ln _ _ _ _ _ _ _ _ _  (fun _ => he) (fun n => absurd h1 n)) ?_
    have h2 := h2 h1
    obtain ⟨h5, h6⟩ := h2
    by_cases h4 : (v3 : Int32) ≠ 115
    · refine zS1 (fun r he => B_X8_readsShade_r44_148 Ln _ _ _ _ _ _ _ _ _  (fun _ => he) (fun n => absurd h4 n)) ?_
      have h5 := h5 h4
      obtain ⟨h8, h9⟩ := h5
      by_cases h7 : (v3 : Int32) ≠ 100
      · refine zS1 (fun r he => B_X8_readsShade_r44_166_s2 Ln _ _ _ _ _ _ _ _ _ _  (fun _ => he) (fun n => absurd h7 n)) ?_
        have h8 := h8 h7
        refine zS1 (fun r he => B_X8_readsShade_r44_176_s2 Ln _ _ _ _ _ _ _ _ _ _  he) ?_
        obtain ⟨h10, h11⟩ := h8
        obtain ⟨h12, h13⟩ := h11
        obtain ⟨h14, h15⟩ := h13
        obtain ⟨h16, h17⟩ := h15
        exact ⟨_, B_X8_readsShade_r44_177_s3 Ln _ _ _ _ _ _ _ _ _ _ _ h10 h12 h14 h16, _, _, _, rfl, h17⟩
      · refine zS1 (fun r he => B_X8_readsShade_r44_166_s2 Ln _ _ _ _ _ _ _ _ _ _  (fun n => absurd n h7) (fun _ => he)) ?_
        have h9 := h9 h7
        refine zS1 (fun r he => B_X8_readsShade_r44_172_s2 Ln _ _ _ _ _ _ _ _ _ _  he) ?_
        obtain ⟨h18, h19⟩ := h9
        obtain ⟨h20, h21⟩ := h19
        obtain ⟨h22, h23⟩ := h21
        obtain ⟨h24, h25⟩ := h23
        exact ⟨_, B_X8_readsShade_r44_177_s3 Ln _ _ _ _ _ _ _ _ _ _ _ h18 h20 h22 h24, _, _, _, rfl, h25⟩
    · refine zS1 (fun r he => B_X8_readsShade_r44_148 Ln _ _ _ _ _ _ _ _ _  (fun n => absurd n h4) (fun _ => he)) ?_
      have h6 := h6 h4
      refine zS1 (fun r he => B_X8_readsShade_r44_162_s2 Ln _ _ _ _ _ _ _ _ _ _  he) ?_
      obtain ⟨h26, h27⟩ := h6
      obtain ⟨h28, h29⟩ := h27
      obtain ⟨h30, h31⟩ := h29
      obtain ⟨h32, h33⟩ := h31
      exact ⟨_, B_X8_readsShade_r44_177_s3 Ln _ _ _ _ _ _ _ _ _ _ _ h26 h28 h30 h32, _, _, _, rfl, h33⟩
  · refine zS1 (fun r he => B_X8_readsShade_r44_139_s1 Ln _ _ _ _ _ _ _ _ _  (fun n => absurd n h1) (fun _ => he)) ?_
    have h3 := h3 h1
    exact ⟨_, B_X8_readsShade_r44_146 Ln _ _ _ _ _ _ _ _ _ , _, _, _, rfl, h3⟩
def J_X8_readsShade_r44_118_s1 (Ln : Nat) (I A : Nat → Nat → Int32) (v1 : Int32) (v2 : Int32) (v3 : Int32) (v4 : Int32) (v5 : Int32) (s0 : Int32) (Q : Int32 → (Nat → Nat → Int32) → (Nat → Nat → Int32) → Prop) : Prop := (((0 : Int32) ≤ s0 → ((W_X8_figure_r44 Ln I A v1 v2 0 9 (fun (r10 : Int32) (I11 : Nat → Nat → Int32) => (J_X8_readsShade_r44_139_s1 Ln I11 A v1 v2 v3 v4 v5 s0 r10  Q))))) ∧ (¬ ((0 : Int32) ≤ s0) → ((J_X8_readsShade_r44_139_s1 Ln I A v1 v2 v3 v4 v5 s0 (-9)  Q))))
set_option maxRecDepth 100000 in
theorem TJ_X8_readsShade_r44_118_s1 {Ln : Nat} {I A : Nat → Nat → Int32} {v1 : Int32} {v2 : Int32} {v3 : Int32} {v4 : Int32} {v5 : Int32} {s0 : Int32} {Q : Int32 → (Nat → Nat → Int32) → (Nat → Nat → Int32) → Prop} (h0 : J_X8_readsShade_r44_118_s1 Ln I A v1 v2 v3 v4 v5 s0  Q) : zSem 106 118 0 0 [some (.ref 44), some (.int v1), some (.int v2), some (.int v3), some (.int v4), some (.int v5), none, none] [.int s0] (zGs Ln I A) (fun r => ∃ x I1 A1, r = (some (.int x), zGs Ln I1 A1) ∧ Q x I1 A1) := by
  unfold J_X8_readsShade_r44_118_s1 at h0
  obtain ⟨h2, h3⟩ := h0
  by_cases h1 : (0 : Int32) ≤ s0
  · refine zS1 (fun r he => B_X8_readsShade_r44_118_s1 Ln _ _ _ _ _ _ _ _  (fun _ => he) (fun n => absurd h1 n)) ?_
    have h2 := h2 h1
    obtain ⟨_, h4, r10, I11, rfl, h5⟩ := T_X8_figure_r44 Ln _ _ _ _ _ _ _ h2
    refine zS1 (fun r he => B_X8_readsShade_r44_130 Ln _ _ _ _ _ _ _ _  h4 rfl he) ?_
    exact TJ_X8_readsShade_r44_139_s1  h5
  · refine zS1 (fun r he => B_X8_readsShade_r44_118_s1 Ln _ _ _ _ _ _ _ _  (fun n => absurd n h1) (fun _ => he)) ?_
    have h3 := h3 h1
    refine zS1 (fun r he => B_X8_readsShade_r44_125 Ln _ _ _ _ _ _ _ _  he) ?_
    exact TJ_X8_readsShade_r44_139_s1  h3
def J_X8_readsShade_r44_98_s1 (Ln : Nat) (I A : Nat → Nat → Int32) (v1 : Int32) (v2 : Int32) (v3 : Int32) (v4 : Int32) (s0 : Int32) (Q : Int32 → (Nat → Nat → Int32) → (Nat → Nat → Int32) → Prop) : Prop := (((0 : Int32) ≤ s0 → ((W_X8_figure_r44 Ln I A v1 v2 0 2 (fun (r8 : Int32) (I9 : Nat → Nat → Int32) => (J_X8_readsShade_r44_118_s1 Ln I9 A v1 v2 v3 v4 s0 r8  Q))))) ∧ (¬ ((0 : Int32) ≤ s0) → ((J_X8_readsShade_r44_118_s1 Ln I A v1 v2 v3 v4 s0 (-9)  Q))))
set_option maxRecDepth 100000 in
theorem TJ_X8_readsShade_r44_98_s1 {Ln : Nat} {I A : Nat → Nat → Int32} {v1 : Int32} {v2 : Int32} {v3 : Int32} {v4 : Int32} {s0 : Int32} {Q : Int32 → (Nat → Nat → Int32) → (Nat → Nat → Int32) → Prop} (h0 : J_X8_readsShade_r44_98_s1 Ln I A v1 v2 v3 v4 s0  Q) : zSem 106 98 0 0 [some (.ref 44), some (.int v1), some (.int v2), some (.int v3), some (.int v4), none, none, none] [.int s0] (zGs Ln I A) (fun r => ∃ x I1 A1, r = (some (.int x), zGs Ln I1 A1) ∧ Q x I1 A1) := by
  unfold J_X8_readsShade_r44_98_s1 at h0
  obtain ⟨h2, h3⟩ := h0
  by_cases h1 : (0 : Int32) ≤ s0
  · refine zS1 (fun r he => B_X8_readsShade_r44_98_s1 Ln _ _ _ _ _ _ _  (fun _ => he) (fun n => absurd h1 n)) ?_
    have h2 := h2 h1
    obtain ⟨_, h4, r8, I9, rfl, h5⟩ := T_X8_figure_r44 Ln _ _ _ _ _ _ _ h2
    refine zS1 (fun r he => B_X8_readsShade_r44_110 Ln _ _ _ _ _ _ _  h4 rfl he) ?_
    exact TJ_X8_readsShade_r44_118_s1  h5
  · refine zS1 (fun r he => B_X8_readsShade_r44_98_s1 Ln _ _ _ _ _ _ _  (fun n => absurd n h1) (fun _ => he)) ?_
    have h3 := h3 h1
    refine zS1 (fun r he => B_X8_readsShade_r44_105 Ln _ _ _ _ _ _ _  he) ?_
    exact TJ_X8_readsShade_r44_118_s1  h3
def J_X8_readsShade_r44_59 (Ln : Nat) (I A : Nat → Nat → Int32) (v1 : Int32) (v2 : Int32) (v3 : Int32) (Q : Int32 → (Nat → Nat → Int32) → (Nat → Nat → Int32) → Prop) : Prop := ((W_X8_figure_r44 Ln (zp I 44 11 ((I 44 11) + 1)) A v1 v2 0 3 (fun (r4 : Int32) (I5 : Nat → Nat → Int32) => (((0 : Int32) ≤ r4 → ((W_X8_figure_r44 Ln I5 A v1 v2 1 9 (fun (r6 : Int32) (I7 : Nat → Nat → Int32) => (J_X8_readsShade_r44_98_s1 Ln I7 A v1 v2 v3 r4 r6  Q))))) ∧ (¬ ((0 : Int32) ≤ r4) → ((J_X8_readsShade_r44_98_s1 Ln I5 A v1 v2 v3 r4 (-9)  Q)))))))
set_option maxRecDepth 100000 in
theorem TJ_X8_readsShade_r44_59 {Ln : Nat} {I A : Nat → Nat → Int32} {v1 : Int32} {v2 : Int32} {v3 : Int32} {Q : Int32 → (Nat → Nat → Int32) → (Nat → Nat → Int32) → Prop} (h0 : J_X8_readsShade_r44_59 Ln I A v1 v2 v3   Q) : zSem 106 59 0 0 [some (.ref 44), some (.int v1), some (.int v2), some (.int v3), none, none, none, none] [] (zGs Ln I A) (fun r => ∃ x I1 A1, r = (some (.int x), zGs Ln I1 A1) ∧ Q x I1 A1) := by
  unfold J_X8_readsShade_r44_59 at h0
  obtain ⟨_, h1, r4, I5, rfl, h2⟩ := T_X8_figure_r44 Ln _ _ _ _ _ _ _ h0
  refine zS1 (fun r he => B_X8_readsShade_r44_59 Ln _ _ _ _ _  h1 rfl he) ?_
  obtain ⟨h4, h5⟩ := h2
  by_cases h3 : (0 : Int32) ≤ r4
  · refine zS1 (fun r he => B_X8_readsShade_r44_77_s1 Ln _ _ _ _ _ _  (fun _ => he) (fun n => absurd h3 n)) ?_
    have h4 := h4 h3
    obtain ⟨_, h6, r6, I7, rfl, h7⟩ := T_X8_figure_r44 Ln _ _ _ _ _ _ _ h4
    refine zS1 (fun r he => B_X8_readsShade_r44_89 Ln _ _ _ _ _ _  h6 rfl he) ?_
    exact TJ_X8_readsShade_r44_98_s1  h7
  · refine zS1 (fun r he => B_X8_readsShade_r44_77_s1 Ln _ _ _ _ _ _  (fun n => absurd n h3) (fun _ => he)) ?_
    have h5 := h5 h3
    refine zS1 (fun r he => B_X8_readsShade_r44_84 Ln _ _ _ _ _ _  he) ?_
    exact TJ_X8_readsShade_r44_98_s1  h5
def W_X8_readsShade_r44 (Ln : Nat) (I A : Nat → Nat → Int32) (v1 : Int32) (v2 : Int32) (Q : Int32 → (Nat → Nat → Int32) → (Nat → Nat → Int32) → Prop) : Prop := ((((I 44 15) : Int32) = 6 → (Q 0 I A)) ∧ (¬ (((I 44 15) : Int32) = 6) → ((W_X8_codeAt_r44 Ln I A v1 v2 (fun (r1 : Int32) => (((r1 : Int32) = 59 → ((∀ I2 : Nat → Nat → Int32, I2 = zp I 44 11 ((I 44 11) + 1) → (W_X8_codeAt_r44 Ln I2 A v1 v2 (fun (r3 : Int32) => (((r3 : Int32) = 115 → (J_X8_readsShade_r44_59 Ln I2 A v1 v2 r3  Q)) ∧ (¬ ((r3 : Int32) = 115) → (((r3 : Int32) = 100 → (J_X8_readsShade_r44_59 Ln I2 A v1 v2 r3  Q)) ∧ (¬ ((r3 : Int32) = 100) → (((r3 : Int32) = 108 → (J_X8_readsShade_r44_59 Ln I2 A v1 v2 r3  Q)) ∧ (¬ ((r3 : Int32) = 108) → (Q 0 I2 A)))))))))))) ∧ (¬ ((r1 : Int32) = 59) → (Q 0 I A))))))))
set_option maxRecDepth 100000 in
theorem T_X8_readsShade_r44 (Ln : Nat) (I A : Nat → Nat → Int32) (v1 : Int32) (v2 : Int32) (Q : Int32 → (Nat → Nat → Int32) → (Nat → Nat → Int32) → Prop) (h0 : W_X8_readsShade_r44 Ln I A v1 v2 Q) : zSem 106 0 0 0 [some (.ref 44), some (.int v1), some (.int v2), none, none, none, none, none] [] (zGs Ln I A) (fun r => ∃ x I1 A1, r = (some (.int x), zGs Ln I1 A1) ∧ Q x I1 A1) := by
  unfold W_X8_readsShade_r44 at h0
  obtain ⟨h2, h3⟩ := h0
  by_cases h1 : ((I 44 15) : Int32) = 6
  · refine zS1 (fun r he => B_X8_readsShade_r44_0 Ln _ _ _ _  (fun _ => he) (fun n => absurd h1 n)) ?_
    have h2 := h2 h1
    exact ⟨_, B_X8_readsShade_r44_20 Ln _ _ _ _ , _, _, _, rfl, h2⟩
  · refine zS1 (fun r he => B_X8_readsShade_r44_0 Ln _ _ _ _  (fun n => absurd n h1) (fun _ => he)) ?_
    have h3 := h3 h1
    obtain ⟨_, h4, r1, rfl, h5⟩ := T_X8_codeAt_r44 Ln _ _ _ _ _ h3
    refine zS1 (fun r he => B_X8_readsShade_r44_9 Ln _ _ _ _  h4 rfl he) ?_
    obtain ⟨h7, h8⟩ := h5
    by_cases h6 : (r1 : Int32) = 59
    · refine zS1 (fun r he => B_X8_readsShade_r44_15_s1 Ln _ _ _ _ _  (fun _ => he) (fun n => absurd h6 n)) ?_
      have h7 := h7 h6
      have h9 := h7 _ rfl
      obtain ⟨_, h10, r3, rfl, h11⟩ := T_X8_codeAt_r44 Ln _ _ _ _ _ h9
      refine zS1 (fun r he => B_X8_readsShade_r44_22 Ln _ _ _ _  h10 rfl he) ?_
      obtain ⟨h13, h14⟩ := h11
      by_cases h12 : (r3 : Int32) = 115
      · refine zS1 (fun r he => B_X8_readsShade_r44_38_s1 Ln _ _ _ _ _  (fun _ => he) (fun n => absurd h12 n)) ?_
        have h13 := h13 h12
        exact TJ_X8_readsShade_r44_59  h13
      · refine zS1 (fun r he => B_X8_readsShade_r44_38_s1 Ln _ _ _ _ _  (fun n => absurd n h12) (fun _ => he)) ?_
        have h14 := h14 h12
        obtain ⟨h16, h17⟩ := h14
        by_cases h15 : (r3 : Int32) = 100
        · refine zS1 (fun r he => B_X8_readsShade_r44_45 Ln _ _ _ _ _  (fun _ => he) (fun n => absurd h15 n)) ?_
          have h16 := h16 h15
          exact TJ_X8_readsShade_r44_59  h16
        · refine zS1 (fun r he => B_X8_readsShade_r44_45 Ln _ _ _ _ _  (fun n => absurd n h15) (fun _ => he)) ?_
          have h17 := h17 h15
          obtain ⟨h19, h20⟩ := h17
          by_cases h18 : (r3 : Int32) = 108
          · refine zS1 (fun r he => B_X8_readsShade_r44_51 Ln _ _ _ _ _  (fun _ => he) (fun n => absurd h18 n)) ?_
            have h19 := h19 h18
            exact TJ_X8_readsShade_r44_59  h19
          · refine zS1 (fun r he => B_X8_readsShade_r44_51 Ln _ _ _ _ _  (fun n => absurd n h18) (fun _ => he)) ?_
            have h20 := h20 h18
            exact ⟨_, B_X8_readsShade_r44_57 Ln _ _ _ _ _ , _, _, _, rfl, h20⟩
    · refine zS1 (fun r he => B_X8_readsShade_r44_15_s1 Ln _ _ _ _ _  (fun n => absurd n h6) (fun _ => he)) ?_
      have h8 := h8 h6
      exact ⟨_, B_X8_readsShade_r44_20 Ln _ _ _ _ , _, _, _, rfl, h8⟩
def SL_X8_readsBank_r44_166 (Ln : Nat) (v1 : Int32) (v2 : Int32) (v4 : Int32) (v5 : Int32) (Q : Int32 → (Nat → Nat → Int32) → (Nat → Nat → Int32) → Prop) : Int32 × (Nat → Nat → Int32) × (Nat → Nat → Int32) → Prop
  | (v3, I, A) => zSem 107 166 0 0 [some (.ref 44), some (.int v1), some (.int v2), some (.int v3), some (.int v4), some (.int v5)] [] (zGs Ln I A) (fun r => ∃ x I1 A1, r = (some (.int x), zGs Ln I1 A1) ∧ Q x I1 A1)
def J_X8_readsBank_r44_185 (Ln : Nat) (I A : Nat → Nat → Int32) (v1 : Int32) (v2 : Int32) (v3 : Int32) (v4 : Int32) (v5 : Int32) (K166 : Int32 × (Nat → Nat → Int32) × (Nat → Nat → Int32) → Prop) (Q : Int32 → (Nat → Nat → Int32) → (Nat → Nat → Int32) → Prop) : Prop := ((W_X8_readsShade_r44 Ln I A v1 v2 (fun (r13 : Int32) (I14 : Nat → Nat → Int32) (A15 : Nat → Nat → Int32) => ((K166 (r13, I14, A15))))))
set_option maxRecDepth 100000 in
theorem TJ_X8_readsBank_r44_185 {Ln : Nat} {I A : Nat → Nat → Int32} {v1 : Int32} {v2 : Int32} {v3 : Int32} {v4 : Int32} {v5 : Int32} {K166 : Int32 × (Nat → Nat → Int32) × (Nat → Nat → Int32) → Prop} {Q : Int32 → (Nat → Nat → Int32) → (Nat → Nat → Int32) → Prop} (hK166 : ∀ p, K166 p → SL_X8_readsBank_r44_166 Ln  v1 v2 v4 v5 Q p) (h0 : J_X8_readsBank_r44_185 Ln I A v1 v2 v3 v4 v5  K166 Q) : zSem 107 185 0 0 [some (.ref 44), some (.int v1), some (.int v2), some (.int v3), some (.int v4), some (.int v5)] [] (zGs Ln I A) (fun r => ∃ x I1 A1, r = (some (.int x), zGs Ln I1 A1) ∧ Q x I1 A1) := by
  unfold J_X8_readsBank_r44_185 at h0
  obtain ⟨_, h1, r13, I14, A15, rfl, h2⟩ := T_X8_readsShade_r44 Ln _ _ _ _ _ h0
  refine zS1 (fun r he => B_X8_readsBank_r44_185 Ln _ _ _ _ _ _ _  h1 rfl he) ?_
  refine zS1 (fun r he => B_X8_readsBank_r44_191_s1 Ln _ _ _ _ _ _ _ _  he) ?_
  have q := hK166 _ h2
  exact q
def L_X8_readsBank_r44_166 (Ln : Nat) (v1 : Int32) (v2 : Int32) (v4 : Int32) (v5 : Int32) (Q : Int32 → (Nat → Nat → Int32) → (Nat → Nat → Int32) → Prop) : Int32 × (Nat → Nat → Int32) × (Nat → Nat → Int32) → (Int32 × (Nat → Nat → Int32) × (Nat → Nat → Int32) → Prop) → Prop
  | (v3, I, A), K166 => (((v3 : Int32) = 0 → ((v3 = 0 ∨ v3 = 1) ∧ Q v3 I A)) ∧ (¬ ((v3 : Int32) = 0) → ((((I 44 15) : Int32) = 0 → (J_X8_readsBank_r44_185 Ln I A v1 v2 v3 v4 v5 K166 Q)) ∧ (¬ (((I 44 15) : Int32) = 0) → (((v2 : Int32) ≤ (I 44 11) → ((v3 = 0 ∨ v3 = 1) ∧ Q v3 I A)) ∧ (¬ ((v2 : Int32) ≤ (I 44 11)) → (J_X8_readsBank_r44_185 Ln I A v1 v2 v3 v4 v5 K166 Q)))))))
set_option maxRecDepth 100000 in
theorem TL_X8_readsBank_r44_166 {Ln : Nat} {v1 : Int32} {v2 : Int32} {v4 : Int32} {v5 : Int32} {Q : Int32 → (Nat → Nat → Int32) → (Nat → Nat → Int32) → Prop} : ∀ p, zLoop (L_X8_readsBank_r44_166 Ln  v1 v2 v4 v5  Q) p → SL_X8_readsBank_r44_166 Ln  v1 v2 v4 v5 Q p := by
  refine zLoop.sound (Sem := SL_X8_readsBank_r44_166 Ln  v1 v2 v4 v5 Q) ?_
  rintro ⟨v3, I, A⟩ K166 hK166 h0
  show zSem 107 166 0 0 [some (.ref 44), some (.int v1), some (.int v2), some (.int v3), some (.int v4), some (.int v5)] [] (zGs Ln I A) (fun r => ∃ x I1 A1, r = (some (.int x), zGs Ln I1 A1) ∧ Q x I1 A1)
  change (((v3 : Int32) = 0 → ((v3 = 0 ∨ v3 = 1) ∧ Q v3 I A)) ∧ (¬ ((v3 : Int32) = 0) → ((((I 44 15) : Int32) = 0 → (J_X8_readsBank_r44_185 Ln I A v1 v2 v3 v4 v5 K166 Q)) ∧ (¬ (((I 44 15) : Int32) = 0) → (((v2 : Int32) ≤ (I 44 11) → ((v3 = 0 ∨ v3 = 1) ∧ Q v3 I A)) ∧ (¬ ((v2 : Int32) ≤ (I 44 11)) → (J_X8_readsBank_r44_185 Ln I A v1 v2 v3 v4 v5 K166 Q))))))) at h0
  obtain ⟨h2, h3⟩ := h0
  by_cases h1 : (v3 : Int32) = 0
  · refine zS1 (fun r he => B_X8_readsBank_r44_166 Ln _ _ _ _ _ _ _  (fun _ => he) (fun n => absurd h1 n)) ?_
    have h2 := h2 h1
    obtain ⟨h4, h5⟩ := h2
    exact ⟨_, B_X8_readsBank_r44_195 Ln _ _ _ _ _ _ _  h4, _, _, _, rfl, h5⟩
  · refine zS1 (fun r he => B_X8_readsBank_r44_166 Ln _ _ _ _ _ _ _  (fun n => absurd n h1) (fun _ => he)) ?_
    have h3 := h3 h1
    obtain ⟨h7, h8⟩ := h3
    by_cases h6 : ((I 44 15) : Int32) = 0
    · refine zS1 (fun r he => B_X8_readsBank_r44_170 Ln _ _ _ _ _ _ _  (fun _ => he) (fun n => absurd h6 n)) ?_
      have h7 := h7 h6
      exact TJ_X8_readsBank_r44_185 hK166 h7
    · refine zS1 (fun r he => B_X8_readsBank_r44_170 Ln _ _ _ _ _ _ _  (fun n => absurd n h6) (fun _ => he)) ?_
      have h8 := h8 h6
      obtain ⟨h10, h11⟩ := h8
      by_cases h9 : (v2 : Int32) ≤ (I 44 11)
      · refine zS1 (fun r he => B_X8_readsBank_r44_177 Ln _ _ _ _ _ _ _  (fun _ => he) (fun n => absurd h9 n)) ?_
        have h10 := h10 h9
        obtain ⟨h12, h13⟩ := h10
        exact ⟨_, B_X8_readsBank_r44_195 Ln _ _ _ _ _ _ _  h12, _, _, _, rfl, h13⟩
      · refine zS1 (fun r he => B_X8_readsBank_r44_177 Ln _ _ _ _ _ _ _  (fun n => absurd n h9) (fun _ => he)) ?_
        have h11 := h11 h9
        exact TJ_X8_readsBank_r44_185 hK166 h11
def J_X8_readsBank_r44_150_s2 (Ln : Nat) (I A : Nat → Nat → Int32) (v1 : Int32) (v2 : Int32) (v3 : Int32) (v4 : Int32) (v5 : Int32) (s1 : Int32) (Q : Int32 → (Nat → Nat → Int32) → (Nat → Nat → Int32) → Prop) : Prop := (((s1 : Int32) ≤ 0 → (∀ I12 : Nat → Nat → Int32, I12 = zp I 44 14 s1 → (((zLoop (L_X8_readsBank_r44_166 Ln v1 v2 v4 v5  Q) (0, I12, A)))))) ∧ (¬ ((s1 : Int32) ≤ 0) → (∀ I16 : Nat → Nat → Int32, I16 = zp I 44 14 s1 → (((zLoop (L_X8_readsBank_r44_166 Ln v1 v2 v4 v5  Q) (1, I16, A)))))))
set_option maxRecDepth 100000 in
theorem TJ_X8_readsBank_r44_150_s2 {Ln : Nat} {I A : Nat → Nat → Int32} {v1 : Int32} {v2 : Int32} {v3 : Int32} {v4 : Int32} {v5 : Int32} {s1 : Int32} {Q : Int32 → (Nat → Nat → Int32) → (Nat → Nat → Int32) → Prop} (h0 : J_X8_readsBank_r44_150_s2 Ln I A v1 v2 v3 v4 v5 s1  Q) : zSem 107 150 0 0 [some (.ref 44), some (.int v1), some (.int v2), some (.int v3), some (.int v4), some (.int v5)] [.int s1, .ref 44] (zGs Ln I A) (fun r => ∃ x I1 A1, r = (some (.int x), zGs Ln I1 A1) ∧ Q x I1 A1) := by
  unfold J_X8_readsBank_r44_150_s2 at h0
  obtain ⟨h2, h3⟩ := h0
  by_cases h1 : (s1 : Int32) ≤ 0
  · refine zS1 (fun r he => B_X8_readsBank_r44_150_s2 Ln _ _ _ _ _ _ _ _  (fun _ => he) (fun n => absurd h1 n)) ?_
    have h2 := h2 h1
    have h4 := h2 _ rfl
    refine zS1 (fun r he => B_X8_readsBank_r44_164 Ln _ _ _ _ _ _ _  he) ?_
    refine zS1 (fun r he => B_X8_readsBank_r44_165_s1 Ln _ _ _ _ _ _ _ _  he) ?_
    exact TL_X8_readsBank_r44_166  _ h4
  · refine zS1 (fun r he => B_X8_readsBank_r44_150_s2 Ln _ _ _ _ _ _ _ _  (fun n => absurd n h1) (fun _ => he)) ?_
    have h3 := h3 h1
    have h5 := h3 _ rfl
    refine zS1 (fun r he => B_X8_readsBank_r44_160 Ln _ _ _ _ _ _ _  he) ?_
    refine zS1 (fun r he => B_X8_readsBank_r44_165_s1 Ln _ _ _ _ _ _ _ _  he) ?_
    exact TL_X8_readsBank_r44_166  _ h5
def J_X8_readsBank_r44_117_s1 (Ln : Nat) (I A : Nat → Nat → Int32) (v1 : Int32) (v2 : Int32) (v3 : Int32) (v4 : Int32) (s0 : Int32) (Q : Int32 → (Nat → Nat → Int32) → (Nat → Nat → Int32) → Prop) : Prop := (((0 : Int32) ≤ s0 → (∀ I9 : Nat → Nat → Int32, I9 = zp I 44 13 ((10 * v4) + s0) → ((W_X8_figure_r44 Ln I9 A v1 v2 1 4 (fun (r10 : Int32) (I11 : Nat → Nat → Int32) => (J_X8_readsBank_r44_150_s2 Ln I11 A v1 v2 v3 v4 s0 r10  Q)))))) ∧ (¬ ((0 : Int32) ≤ s0) → (∀ I17 : Nat → Nat → Int32, I17 = zp I 44 13 ((10 * v4) + s0) → ((J_X8_readsBank_r44_150_s2 Ln I17 A v1 v2 v3 v4 s0 (-9)  Q)))))
set_option maxRecDepth 100000 in
theorem TJ_X8_readsBank_r44_117_s1 {Ln : Nat} {I A : Nat → Nat → Int32} {v1 : Int32} {v2 : Int32} {v3 : Int32} {v4 : Int32} {s0 : Int32} {Q : Int32 → (Nat → Nat → Int32) → (Nat → Nat → Int32) → Prop} (h0 : J_X8_readsBank_r44_117_s1 Ln I A v1 v2 v3 v4 s0  Q) : zSem 107 117 0 0 [some (.ref 44), some (.int v1), some (.int v2), some (.int v3), some (.int v4), none] [.int s0] (zGs Ln I A) (fun r => ∃ x I1 A1, r = (some (.int x), zGs Ln I1 A1) ∧ Q x I1 A1) := by
  unfold J_X8_readsBank_r44_117_s1 at h0
  obtain ⟨h2, h3⟩ := h0
  by_cases h1 : (0 : Int32) ≤ s0
  · refine zS1 (fun r he => B_X8_readsBank_r44_117_s1 Ln _ _ _ _ _ _ _  (fun _ => he) (fun n => absurd h1 n)) ?_
    have h2 := h2 h1
    have h4 := h2 _ rfl
    obtain ⟨_, h5, r10, I11, rfl, h6⟩ := T_X8_figure_r44 Ln _ _ _ _ _ _ _ h4
    refine zS1 (fun r he => B_X8_readsBank_r44_142_s1 Ln _ _ _ _ _ _ _  h5 rfl he) ?_
    exact TJ_X8_readsBank_r44_150_s2  h6
  · refine zS1 (fun r he => B_X8_readsBank_r44_117_s1 Ln _ _ _ _ _ _ _  (fun n => absurd n h1) (fun _ => he)) ?_
    have h3 := h3 h1
    have h7 := h3 _ rfl
    refine zS1 (fun r he => B_X8_readsBank_r44_137_s1 Ln _ _ _ _ _ _ _  he) ?_
    exact TJ_X8_readsBank_r44_150_s2  h7
def J_X8_readsBank_r44_112_s4 (Ln : Nat) (I A : Nat → Nat → Int32) (v1 : Int32) (v2 : Int32) (v3 : Int32) (v4 : Int32) (s1 : Int32) (s2 : Int32) (s3 : Int32) (Q : Int32 → (Nat → Nat → Int32) → (Nat → Nat → Int32) → Prop) : Prop := ((W_X8_figure_r44 Ln I A s1 s2 s3 9 (fun (r7 : Int32) (I8 : Nat → Nat → Int32) => (J_X8_readsBank_r44_117_s1 Ln I8 A v1 v2 v3 v4 r7  Q))))
set_option maxRecDepth 100000 in
theorem TJ_X8_readsBank_r44_112_s4 {Ln : Nat} {I A : Nat → Nat → Int32} {v1 : Int32} {v2 : Int32} {v3 : Int32} {v4 : Int32} {s1 : Int32} {s2 : Int32} {s3 : Int32} {Q : Int32 → (Nat → Nat → Int32) → (Nat → Nat → Int32) → Prop} (h0 : J_X8_readsBank_r44_112_s4 Ln I A v1 v2 v3 v4 s1 s2 s3  Q) : zSem 107 112 0 0 [some (.ref 44), some (.int v1), some (.int v2), some (.int v3), some (.int v4), none] [.int s3, .int s2, .int s1, .ref 44] (zGs Ln I A) (fun r => ∃ x I1 A1, r = (some (.int x), zGs Ln I1 A1) ∧ Q x I1 A1) := by
  unfold J_X8_readsBank_r44_112_s4 at h0
  obtain ⟨_, h1, r7, I8, rfl, h2⟩ := T_X8_figure_r44 Ln _ _ _ _ _ _ _ h0
  refine zS1 (fun r he => B_X8_readsBank_r44_112_s4 Ln _ _ _ _ _ _ _ _ _  h1 rfl he) ?_
  exact TJ_X8_readsBank_r44_117_s1  h2
def J_X8_readsBank_r44_87_s1 (Ln : Nat) (I A : Nat → Nat → Int32) (v1 : Int32) (v2 : Int32) (v3 : Int32) (s0 : Int32) (Q : Int32 → (Nat → Nat → Int32) → (Nat → Nat → Int32) → Prop) : Prop := (((0 : Int32) ≤ s0 → (((s0 : Int32) ≠ 0 → ((J_X8_readsBank_r44_112_s4 Ln I A v1 v2 v3 s0 v1 v2 0  Q))) ∧ (¬ ((s0 : Int32) ≠ 0) → ((J_X8_readsBank_r44_112_s4 Ln I A v1 v2 v3 s0 v1 v2 1  Q))))) ∧ (¬ ((0 : Int32) ≤ s0) → ((J_X8_readsBank_r44_117_s1 Ln I A v1 v2 v3 s0 (-9)  Q))))
set_option maxRecDepth 100000 in
theorem TJ_X8_readsBank_r44_87_s1 {Ln : Nat} {I A : Nat → Nat → Int32} {v1 : Int32} {v2 : Int32} {v3 : Int32} {s0 : Int32} {Q : Int32 → (Nat → Nat → Int32) → (Nat → Nat → Int32) → Prop} (h0 : J_X8_readsBank_r44_87_s1 Ln I A v1 v2 v3 s0  Q) : zSem 107 87 0 0 [some (.ref 44), some (.int v1), some (.int v2), some (.int v3), none, none] [.int s0] (zGs Ln I A) (fun r => ∃ x I1 A1, r = (some (.int x), zGs Ln I1 A1) ∧ Q x I1 A1) := by
  unfold J_X8_readsBank_r44_87_s1 at h0
  obtain ⟨h2, h3⟩ := h0
  by_cases h1 : (0 : Int32) ≤ s0
  · refine zS1 (fun r he => B_X8_readsBank_r44_87_s1 Ln _ _ _ _ _ _  (fun _ => he) (fun n => absurd h1 n)) ?_
    have h2 := h2 h1
    obtain ⟨h5, h6⟩ := h2
    by_cases h4 : (s0 : Int32) ≠ 0
    · refine zS1 (fun r he => B_X8_readsBank_r44_99 Ln _ _ _ _ _ _  (fun _ => he) (fun n => absurd h4 n)) ?_
      have h5 := h5 h4
      refine zS1 (fun r he => B_X8_readsBank_r44_111_s3 Ln _ _ _ _ _ _ _ _  he) ?_
      exact TJ_X8_readsBank_r44_112_s4  h5
    · refine zS1 (fun r he => B_X8_readsBank_r44_99 Ln _ _ _ _ _ _  (fun n => absurd n h4) (fun _ => he)) ?_
      have h6 := h6 h4
      refine zS1 (fun r he => B_X8_readsBank_r44_107_s3 Ln _ _ _ _ _ _ _ _  he) ?_
      exact TJ_X8_readsBank_r44_112_s4  h6
  · refine zS1 (fun r he => B_X8_readsBank_r44_87_s1 Ln _ _ _ _ _ _  (fun n => absurd n h1) (fun _ => he)) ?_
    have h3 := h3 h1
    refine zS1 (fun r he => B_X8_readsBank_r44_94 Ln _ _ _ _ _ _  he) ?_
    exact TJ_X8_readsBank_r44_117_s1  h3
def J_X8_readsBank_r44_63_s2 (Ln : Nat) (I A : Nat → Nat → Int32) (v1 : Int32) (v2 : Int32) (v3 : Int32) (s1 : Int32) (Q : Int32 → (Nat → Nat → Int32) → (Nat → Nat → Int32) → Prop) : Prop := (((0 : Int32) ≤ s1 → (∀ I4 : Nat → Nat → Int32, I4 = zp I 44 12 s1 → ((W_X8_figure_r44 Ln I4 A v1 v2 0 9 (fun (r5 : Int32) (I6 : Nat → Nat → Int32) => (J_X8_readsBank_r44_87_s1 Ln I6 A v1 v2 v3 r5  Q)))))) ∧ (¬ ((0 : Int32) ≤ s1) → (∀ I18 : Nat → Nat → Int32, I18 = zp I 44 12 s1 → ((J_X8_readsBank_r44_87_s1 Ln I18 A v1 v2 v3 (-9)  Q)))))
set_option maxRecDepth 100000 in
theorem TJ_X8_readsBank_r44_63_s2 {Ln : Nat} {I A : Nat → Nat → Int32} {v1 : Int32} {v2 : Int32} {v3 : Int32} {s1 : Int32} {Q : Int32 → (Nat → Nat → Int32) → (Nat → Nat → Int32) → Prop} (h0 : J_X8_readsBank_r44_63_s2 Ln I A v1 v2 v3 s1  Q) : zSem 107 63 0 0 [some (.ref 44), some (.int v1), some (.int v2), some (.int v3), none, none] [.int s1, .ref 44] (zGs Ln I A) (fun r => ∃ x I1 A1, r = (some (.int x), zGs Ln I1 A1) ∧ Q x I1 A1) := by
  unfold J_X8_readsBank_r44_63_s2 at h0
  obtain ⟨h2, h3⟩ := h0
  by_cases h1 : (0 : Int32) ≤ s1
  · refine zS1 (fun r he => B_X8_readsBank_r44_63_s2 Ln _ _ _ _ _ _  (fun _ => he) (fun n => absurd h1 n)) ?_
    have h2 := h2 h1
    have h4 := h2 _ rfl
    obtain ⟨_, h5, r5, I6, rfl, h6⟩ := T_X8_figure_r44 Ln _ _ _ _ _ _ _ h4
    refine zS1 (fun r he => B_X8_readsBank_r44_78 Ln _ _ _ _ _  h5 rfl he) ?_
    exact TJ_X8_readsBank_r44_87_s1  h6
  · refine zS1 (fun r he => B_X8_readsBank_r44_63_s2 Ln _ _ _ _ _ _  (fun n => absurd n h1) (fun _ => he)) ?_
    have h3 := h3 h1
    have h7 := h3 _ rfl
    refine zS1 (fun r he => B_X8_readsBank_r44_73 Ln _ _ _ _ _  he) ?_
    exact TJ_X8_readsBank_r44_87_s1  h7
def J_X8_readsBank_r44_41_s3 (Ln : Nat) (I A : Nat → Nat → Int32) (v1 : Int32) (v2 : Int32) (v3 : Int32) (s1 : Int32) (s2 : Int32) (Q : Int32 → (Nat → Nat → Int32) → (Nat → Nat → Int32) → Prop) : Prop := (((v3 : Int32) = 0 → (∀ I3 : Nat → Nat → Int32, I3 = zp I 44 11 (s1 + s2) → ((J_X8_readsBank_r44_63_s2 Ln I3 A v1 v2 v3 (-9)  Q)))) ∧ (¬ ((v3 : Int32) = 0) → (∀ I19 : Nat → Nat → Int32, I19 = zp I 44 11 (s1 + s2) → ((W_X8_figure_r44 Ln I19 A v1 v2 1 4 (fun (r20 : Int32) (I21 : Nat → Nat → Int32) => ((J_X8_readsBank_r44_63_s2 Ln I21 A v1 v2 v3 r20  Q))))))))
set_option maxRecDepth 100000 in
theorem TJ_X8_readsBank_r44_41_s3 {Ln : Nat} {I A : Nat → Nat → Int32} {v1 : Int32} {v2 : Int32} {v3 : Int32} {s1 : Int32} {s2 : Int32} {Q : Int32 → (Nat → Nat → Int32) → (Nat → Nat → Int32) → Prop} (h0 : J_X8_readsBank_r44_41_s3 Ln I A v1 v2 v3 s1 s2  Q) : zSem 107 41 0 0 [some (.ref 44), some (.int v1), some (.int v2), some (.int v3), none, none] [.int s2, .int s1, .ref 44] (zGs Ln I A) (fun r => ∃ x I1 A1, r = (some (.int x), zGs Ln I1 A1) ∧ Q x I1 A1) := by
  unfold J_X8_readsBank_r44_41_s3 at h0
  obtain ⟨h2, h3⟩ := h0
  by_cases h1 : (v3 : Int32) = 0
  · refine zS1 (fun r he => B_X8_readsBank_r44_41_s3 Ln _ _ _ _ _ _ _  (fun _ => he) (fun n => absurd h1 n)) ?_
    have h2 := h2 h1
    have h4 := h2 _ rfl
    refine zS1 (fun r he => B_X8_readsBank_r44_61_s1 Ln _ _ _ _ _  he) ?_
    exact TJ_X8_readsBank_r44_63_s2  h4
  · refine zS1 (fun r he => B_X8_readsBank_r44_41_s3 Ln _ _ _ _ _ _ _  (fun n => absurd n h1) (fun _ => he)) ?_
    have h3 := h3 h1
    have h5 := h3 _ rfl
    obtain ⟨_, h6, r20, I21, rfl, h7⟩ := T_X8_figure_r44 Ln _ _ _ _ _ _ _ h5
    refine zS1 (fun r he => B_X8_readsBank_r44_50_s1 Ln _ _ _ _ _  h6 rfl he) ?_
    refine zS1 (fun r he => B_X8_readsBank_r44_58_s2 Ln _ _ _ _ _ _  he) ?_
    exact TJ_X8_readsBank_r44_63_s2  h7
def J_X8_readsBank_r44_26_s1 (Ln : Nat) (I A : Nat → Nat → Int32) (v1 : Int32) (v2 : Int32) (s0 : Int32) (Q : Int32 → (Nat → Nat → Int32) → (Nat → Nat → Int32) → Prop) : Prop := (((s0 : Int32) = 0 → ((J_X8_readsBank_r44_41_s3 Ln I A v1 v2 s0 (I 44 11) 0  Q))) ∧ (¬ ((s0 : Int32) = 0) → ((J_X8_readsBank_r44_41_s3 Ln I A v1 v2 s0 (I 44 11) 1  Q))))
set_option maxRecDepth 100000 in
theorem TJ_X8_readsBank_r44_26_s1 {Ln : Nat} {I A : Nat → Nat → Int32} {v1 : Int32} {v2 : Int32} {s0 : Int32} {Q : Int32 → (Nat → Nat → Int32) → (Nat → Nat → Int32) → Prop} (h0 : J_X8_readsBank_r44_26_s1 Ln I A v1 v2 s0  Q) : zSem 107 26 0 0 [some (.ref 44), some (.int v1), some (.int v2), none, none, none] [.int s0] (zGs Ln I A) (fun r => ∃ x I1 A1, r = (some (.int x), zGs Ln I1 A1) ∧ Q x I1 A1) := by
  unfold J_X8_readsBank_r44_26_s1 at h0
  obtain ⟨h2, h3⟩ := h0
  by_cases h1 : (s0 : Int32) = 0
  · refine zS1 (fun r he => B_X8_readsBank_r44_26_s1 Ln _ _ _ _ _  (fun _ => he) (fun n => absurd h1 n)) ?_
    have h2 := h2 h1
    refine zS1 (fun r he => B_X8_readsBank_r44_40_s2 Ln _ _ _ _ _ _  he) ?_
    exact TJ_X8_readsBank_r44_41_s3  h2
  · refine zS1 (fun r he => B_X8_readsBank_r44_26_s1 Ln _ _ _ _ _  (fun n => absurd n h1) (fun _ => he)) ?_
    have h3 := h3 h1
    refine zS1 (fun r he => B_X8_readsBank_r44_36_s2 Ln _ _ _ _ _ _  he) ?_
    exact TJ_X8_readsBank_r44_41_s3  h3
def W_X8_readsBank_r44 (Ln : Nat) (I A : Nat → Nat → Int32) (v1 : Int32) (v2 : Int32) (Q : Int32 → (Nat → Nat → Int32) → (Nat → Nat → Int32) → Prop) : Prop := ((∀ I1 : Nat → Nat → Int32, I1 = zp (zp I 44 11 0) 44 15 0 → (W_X8_codeAt_r44 Ln I1 A v1 v2 (fun (r2 : Int32) => (((r2 : Int32) ≠ 114 → ((J_X8_readsBank_r44_26_s1 Ln I1 A v1 v2 0  Q))) ∧ (¬ ((r2 : Int32) ≠ 114) → ((J_X8_readsBank_r44_26_s1 Ln I1 A v1 v2 1  Q))))))))
set_option maxRecDepth 100000 in
theorem T_X8_readsBank_r44 (Ln : Nat) (I A : Nat → Nat → Int32) (v1 : Int32) (v2 : Int32) (Q : Int32 → (Nat → Nat → Int32) → (Nat → Nat → Int32) → Prop) (h0 : W_X8_readsBank_r44 Ln I A v1 v2 Q) : zSem 107 0 0 0 [some (.ref 44), some (.int v1), some (.int v2), none, none, none] [] (zGs Ln I A) (fun r => ∃ x I1 A1, r = (some (.int x), zGs Ln I1 A1) ∧ Q x I1 A1) := by
  unfold W_X8_readsBank_r44 at h0
  have h1 := h0 _ rfl
  obtain ⟨_, h2, r2, rfl, h3⟩ := T_X8_codeAt_r44 Ln _ _ _ _ _ h1
  refine zS1 (fun r he => B_X8_readsBank_r44_0 Ln _ _ _ _  h2 rfl he) ?_
  obtain ⟨h5, h6⟩ := h3
  by_cases h4 : (r2 : Int32) ≠ 114
  · refine zS1 (fun r he => B_X8_readsBank_r44_16_s1 Ln _ _ _ _ _  (fun _ => he) (fun n => absurd h4 n)) ?_
    have h5 := h5 h4
    refine zS1 (fun r he => B_X8_readsBank_r44_25 Ln _ _ _ _  he) ?_
    exact TJ_X8_readsBank_r44_26_s1  h5
  · refine zS1 (fun r he => B_X8_readsBank_r44_16_s1 Ln _ _ _ _ _  (fun n => absurd n h4) (fun _ => he)) ?_
    have h6 := h6 h4
    refine zS1 (fun r he => B_X8_readsBank_r44_21 Ln _ _ _ _  he) ?_
    exact TJ_X8_readsBank_r44_26_s1  h6
def W_X8_ofShade_r44 (Ln : Nat) (I A : Nat → Nat → Int32) (v1 : Int32) (v2 : Int32) (Q : Int32 → Prop) : Prop := ((W_X8_noShade_r44 Ln I A v1 (fun (r1 : Int32) => (((r1 : Int32) = 0 → (((v2 : Int32).toInt = 0 → ((zin v1 6 = true) ∧ Q (A 45 (v1).toNatClampNeg))) ∧ ((v2 : Int32).toInt = 1 → ((zin v1 6 = true) ∧ Q (A 46 (v1).toNatClampNeg))) ∧ ((v2 : Int32).toInt = 2 → ((zin v1 6 = true) ∧ Q (A 47 (v1).toNatClampNeg))) ∧ ((v2 : Int32).toInt = 3 → ((zin v1 6 = true) ∧ Q (A 48 (v1).toNatClampNeg))) ∧ ((v2 : Int32).toInt = 4 → ((W_X8_paysOf_r44 Ln I A v1 (fun (r2 : Int32) => (Q r2))))) ∧ ((v2 : Int32).toInt = 5 → ((W_X8_heavyOf_r44 Ln I A v1 (fun (r3 : Int32) => (Q r3))))) ∧ ((v2 : Int32).toInt = 6 → ((zin v1 6 = true) ∧ Q (A 49 (v1).toNatClampNeg))) ∧ (¬ ((v2 : Int32).toInt = 0) → ¬ ((v2 : Int32).toInt = 1) → ¬ ((v2 : Int32).toInt = 2) → ¬ ((v2 : Int32).toInt = 3) → ¬ ((v2 : Int32).toInt = 4) → ¬ ((v2 : Int32).toInt = 5) → ¬ ((v2 : Int32).toInt = 6) → (Q (-2))))) ∧ (¬ ((r1 : Int32) = 0) → (Q (-1)))))))
set_option maxRecDepth 100000 in
theorem T_X8_ofShade_r44 (Ln : Nat) (I A : Nat → Nat → Int32) (v1 : Int32) (v2 : Int32) (Q : Int32 → Prop) (h0 : W_X8_ofShade_r44 Ln I A v1 v2 Q) : zSem 112 0 0 0 [some (.ref 44), some (.int v1), some (.int v2)] [] (zGs Ln I A) (fun r => ∃ x, r = (some (.int x), zGs Ln I A) ∧ Q x) := by
  unfold W_X8_ofShade_r44 at h0
  obtain ⟨_, h1, r1, rfl, h2⟩ := T_X8_noShade_r44 Ln _ _ _ _ h0
  refine zS1 (fun r he => B_X8_ofShade_r44_0 Ln _ _ _ _  h1 rfl he) ?_
  obtain ⟨h4, h5⟩ := h2
  by_cases h3 : (r1 : Int32) = 0
  · refine zS1 (fun r he => B_X8_ofShade_r44_5_s1 Ln _ _ _ _ _  (fun _ => he) (fun n => absurd h3 n)) ?_
    have h4 := h4 h3
    obtain ⟨h6, h7, h8, h9, h10, h11, h12, h13⟩ := h4
    by_cases h14 : (v2 : Int32).toInt = 0
    · refine zS1 (fun r he => B_X8_ofShade_r44_10 Ln _ _ _ _  (fun _ => he) (fun q => absurd (q.symm.trans h14) (by decide)) (fun q => absurd (q.symm.trans h14) (by decide)) (fun q => absurd (q.symm.trans h14) (by decide)) (fun q => absurd (q.symm.trans h14) (by decide)) (fun q => absurd (q.symm.trans h14) (by decide)) (fun q => absurd (q.symm.trans h14) (by decide)) (fun n0 n1 n2 n3 n4 n5 n6 => absurd h14 n0)) ?_
      have h6 := h6 h14
      obtain ⟨h21, h22⟩ := h6
      exact ⟨_, B_X8_ofShade_r44_52 Ln _ _ _ _ h21, _, rfl, h22⟩
    by_cases h15 : (v2 : Int32).toInt = 1
    · refine zS1 (fun r he => B_X8_ofShade_r44_10 Ln _ _ _ _  (fun q => absurd (q.symm.trans h15) (by decide)) (fun _ => he) (fun q => absurd (q.symm.trans h15) (by decide)) (fun q => absurd (q.symm.trans h15) (by decide)) (fun q => absurd (q.symm.trans h15) (by decide)) (fun q => absurd (q.symm.trans h15) (by decide)) (fun q => absurd (q.symm.trans h15) (by decide)) (fun n0 n1 n2 n3 n4 n5 n6 => absurd h15 n1)) ?_
      have h7 := h7 h15
      obtain ⟨h23, h24⟩ := h7
      exact ⟨_, B_X8_ofShade_r44_59 Ln _ _ _ _ h23, _, rfl, h24⟩
    by_cases h16 : (v2 : Int32).toInt = 2
    · refine zS1 (fun r he => B_X8_ofShade_r44_10 Ln _ _ _ _  (fun q => absurd (q.symm.trans h16) (by decide)) (fun q => absurd (q.symm.trans h16) (by decide)) (fun _ => he) (fun q => absurd (q.symm.trans h16) (by decide)) (fun q => absurd (q.symm.trans h16) (by decide)) (fun q => absurd (q.symm.trans h16) (by decide)) (fun q => absurd (q.symm.trans h16) (by decide)) (fun n0 n1 n2 n3 n4 n5 n6 => absurd h16 n2)) ?_
      have h8 := h8 h16
      obtain ⟨h25, h26⟩ := h8
      exact ⟨_, B_X8_ofShade_r44_66 Ln _ _ _ _ h25, _, rfl, h26⟩
    by_cases h17 : (v2 : Int32).toInt = 3
    · refine zS1 (fun r he => B_X8_ofShade_r44_10 Ln _ _ _ _  (fun q => absurd (q.symm.trans h17) (by decide)) (fun q => absurd (q.symm.trans h17) (by decide)) (fun q => absurd (q.symm.trans h17) (by decide)) (fun _ => he) (fun q => absurd (q.symm.trans h17) (by decide)) (fun q => absurd (q.symm.trans h17) (by decide)) (fun q => absurd (q.symm.trans h17) (by decide)) (fun n0 n1 n2 n3 n4 n5 n6 => absurd h17 n3)) ?_
      have h9 := h9 h17
      obtain ⟨h27, h28⟩ := h9
      exact ⟨_, B_X8_ofShade_r44_73 Ln _ _ _ _ h27, _, rfl, h28⟩
    by_cases h18 : (v2 : Int32).toInt = 4
    · refine zS1 (fun r he => B_X8_ofShade_r44_10 Ln _ _ _ _  (fun q => absurd (q.symm.trans h18) (by decide)) (fun q => absurd (q.symm.trans h18) (by decide)) (fun q => absurd (q.symm.trans h18) (by decide)) (fun q => absurd (q.symm.trans h18) (by decide)) (fun _ => he) (fun q => absurd (q.symm.trans h18) (by decide)) (fun q => absurd (q.symm.trans h18) (by decide)) (fun n0 n1 n2 n3 n4 n5 n6 => absurd h18 n4)) ?_
      have h10 := h10 h18
      obtain ⟨_, h29, r2, rfl, h30⟩ := T_X8_paysOf_r44 Ln _ _ _ _ h10
      refine zS1 (fun r he => B_X8_ofShade_r44_80 Ln _ _ _ _  h29 rfl he) ?_
      exact ⟨_, B_X8_ofShade_r44_85_s1 Ln _ _ _ _ _ , _, rfl, h30⟩
    by_cases h19 : (v2 : Int32).toInt = 5
    · refine zS1 (fun r he => B_X8_ofShade_r44_10 Ln _ _ _ _  (fun q => absurd (q.symm.trans h19) (by decide)) (fun q => absurd (q.symm.trans h19) (by decide)) (fun q => absurd (q.symm.trans h19) (by decide)) (fun q => absurd (q.symm.trans h19) (by decide)) (fun q => absurd (q.symm.trans h19) (by decide)) (fun _ => he) (fun q => absurd (q.symm.trans h19) (by decide)) (fun n0 n1 n2 n3 n4 n5 n6 => absurd h19 n5)) ?_
      have h11 := h11 h19
      obtain ⟨_, h31, r3, rfl, h32⟩ := T_X8_heavyOf_r44 Ln _ _ _ _ h11
      refine zS1 (fun r he => B_X8_ofShade_r44_86 Ln _ _ _ _  h31 rfl he) ?_
      exact ⟨_, B_X8_ofShade_r44_91_s1 Ln _ _ _ _ _ , _, rfl, h32⟩
    by_cases h20 : (v2 : Int32).toInt = 6
    · refine zS1 (fun r he => B_X8_ofShade_r44_10 Ln _ _ _ _  (fun q => absurd (q.symm.trans h20) (by decide)) (fun q => absurd (q.symm.trans h20) (by decide)) (fun q => absurd (q.symm.trans h20) (by decide)) (fun q => absurd (q.symm.trans h20) (by decide)) (fun q => absurd (q.symm.trans h20) (by decide)) (fun q => absurd (q.symm.trans h20) (by decide)) (fun _ => he) (fun n0 n1 n2 n3 n4 n5 n6 => absurd h20 n6)) ?_
      have h12 := h12 h20
      obtain ⟨h33, h34⟩ := h12
      exact ⟨_, B_X8_ofShade_r44_92 Ln _ _ _ _ h33, _, rfl, h34⟩
    refine zS1 (fun r he => B_X8_ofShade_r44_10 Ln _ _ _ _  (fun q => absurd q h14) (fun q => absurd q h15) (fun q => absurd q h16) (fun q => absurd q h17) (fun q => absurd q h18) (fun q => absurd q h19) (fun q => absurd q h20) (fun _ _ _ _ _ _ _ => he)) ?_
    have h13 := h13 h14 h15 h16 h17 h18 h19 h20
    exact ⟨_, B_X8_ofShade_r44_99 Ln _ _ _ _ , _, rfl, h13⟩
  · refine zS1 (fun r he => B_X8_ofShade_r44_5_s1 Ln _ _ _ _ _  (fun n => absurd n h3) (fun _ => he)) ?_
    have h5 := h5 h3
    exact ⟨_, B_X8_ofShade_r44_8 Ln _ _ _ _ , _, rfl, h5⟩
def W_X8_law_r44 (Ln : Nat) (I A : Nat → Nat → Int32) (v1 : Int32) (Q : Int32 → (Nat → Nat → Int32) → Prop) : Prop := ((W_X8_in Ln I A (Int32.toInt64 v1) 0 2 (fun (r1 : Int32) => (((r1 : Int32) ≠ 0 → ((((I 44 4) : Int32) ≠ 0 → (Q (I 44 10) (zp I 44 10 v1))) ∧ (¬ (((I 44 4) : Int32) ≠ 0) → (Q (-3) I)))) ∧ (¬ ((r1 : Int32) ≠ 0) → (Q (-2) I))))))
set_option maxRecDepth 100000 in
theorem T_X8_law_r44 (Ln : Nat) (I A : Nat → Nat → Int32) (v1 : Int32) (Q : Int32 → (Nat → Nat → Int32) → Prop) (h0 : W_X8_law_r44 Ln I A v1 Q) : zSem 113 0 0 0 [some (.ref 44), some (.int v1), none] [] (zGs Ln I A) (fun r => ∃ x I1, r = (some (.int x), zGs Ln I1 A) ∧ Q x I1) := by
  unfold W_X8_law_r44 at h0
  obtain ⟨_, h1, r1, rfl, h2⟩ := T_X8_in Ln _ _ _ _ _ _ h0
  refine zS1 (fun r he => B_X8_law_r44_0 Ln _ _ _  h1 rfl he) ?_
  obtain ⟨h4, h5⟩ := h2
  by_cases h3 : (r1 : Int32) ≠ 0
  · refine zS1 (fun r he => B_X8_law_r44_9_s1 Ln _ _ _ _  (fun _ => he) (fun n => absurd h3 n)) ?_
    have h4 := h4 h3
    obtain ⟨h7, h8⟩ := h4
    by_cases h6 : ((I 44 4) : Int32) ≠ 0
    · refine zS1 (fun r he => B_X8_law_r44_15 Ln _ _ _  (fun _ => he) (fun n => absurd h6 n)) ?_
      have h7 := h7 h6
      exact ⟨_, B_X8_law_r44_25 Ln _ _ _ , _, _, rfl, h7⟩
    · refine zS1 (fun r he => B_X8_law_r44_15 Ln _ _ _  (fun n => absurd n h6) (fun _ => he)) ?_
      have h8 := h8 h6
      exact ⟨_, B_X8_law_r44_22 Ln _ _ _ , _, _, rfl, h8⟩
  · refine zS1 (fun r he => B_X8_law_r44_9_s1 Ln _ _ _ _  (fun n => absurd n h3) (fun _ => he)) ?_
    have h5 := h5 h3
    exact ⟨_, B_X8_law_r44_12 Ln _ _ _ , _, _, rfl, h5⟩
def W_X8_loan_r44 (Ln : Nat) (I A : Nat → Nat → Int32) (v1 : Int32) (v2 : Int32) (v3 : Int32) (Q : Int32 → (Nat → Nat → Int32) → (Nat → Nat → Int32) → Prop) : Prop := ((W_X8_noShade_r44 Ln I A v1 (fun (r1 : Int32) => (((r1 : Int32) ≠ 0 → (Q (-1) I A)) ∧ (¬ ((r1 : Int32) ≠ 0) → ((W_X8_noShade_r44 Ln I A v2 (fun (r2 : Int32) => (((r2 : Int32) ≠ 0 → (Q (-1) I A)) ∧ (¬ ((r2 : Int32) ≠ 0) → (((v1 : Int32) ≠ v2 → ((W_X8_in Ln I A (Int32.toInt64 v3) 1 3 (fun (r3 : Int32) => (((r3 : Int32) ≠ 0 → ((zin v1 6 = true) ∧ ((v3 : Int32) ≤ (A 49 (v1).toNatClampNeg) → ((((I 44 20) : Int32) ≠ 6 → ((zin (I 44 20) 6 = true) ∧ (zin (I 44 20) 6 = true) ∧ (zin (I 44 20) 6 = true) ∧ (W_X8_lend_r44 Ln I (zw (zw (zw A 54 ((I 44 20).toNatClampNeg) v1) 55 ((I 44 20).toNatClampNeg) v2) 56 ((I 44 20).toNatClampNeg) v3) v1 v2 v3 (fun (A4 : Nat → Nat → Int32) => (Q (((I 44 20) + 1) - 1) (zp I 44 20 ((I 44 20) + 1)) A4))))) ∧ (¬ (((I 44 20) : Int32) ≠ 6) → (Q (-4) I A)))) ∧ (¬ ((v3 : Int32) ≤ (A 49 (v1).toNatClampNeg)) → (Q (-3) I A)))) ∧ (¬ ((r3 : Int32) ≠ 0) → (Q (-2) I A))))))) ∧ (¬ ((v1 : Int32) ≠ v2) → (Q (-1) I A)))))))))))))
set_option maxRecDepth 100000 in
theorem T_X8_loan_r44 (Ln : Nat) (I A : Nat → Nat → Int32) (v1 : Int32) (v2 : Int32) (v3 : Int32) (Q : Int32 → (Nat → Nat → Int32) → (Nat → Nat → Int32) → Prop) (h0 : W_X8_loan_r44 Ln I A v1 v2 v3 Q) : zSem 115 0 0 0 [some (.ref 44), some (.int v1), some (.int v2), some (.int v3)] [] (zGs Ln I A) (fun r => ∃ x I1 A1, r = (some (.int x), zGs Ln I1 A1) ∧ Q x I1 A1) := by
  unfold W_X8_loan_r44 at h0
  obtain ⟨_, h1, r1, rfl, h2⟩ := T_X8_noShade_r44 Ln _ _ _ _ h0
  refine zS1 (fun r he => B_X8_loan_r44_0 Ln _ _ _ _ _  h1 rfl he) ?_
  obtain ⟨h4, h5⟩ := h2
  by_cases h3 : (r1 : Int32) ≠ 0
  · refine zS1 (fun r he => B_X8_loan_r44_5_s1 Ln _ _ _ _ _ _  (fun _ => he) (fun n => absurd h3 n)) ?_
    have h4 := h4 h3
    exact ⟨_, B_X8_loan_r44_21 Ln _ _ _ _ _ , _, _, _, rfl, h4⟩
  · refine zS1 (fun r he => B_X8_loan_r44_5_s1 Ln _ _ _ _ _ _  (fun n => absurd n h3) (fun _ => he)) ?_
    have h5 := h5 h3
    obtain ⟨_, h6, r2, rfl, h7⟩ := T_X8_noShade_r44 Ln _ _ _ _ h5
    refine zS1 (fun r he => B_X8_loan_r44_8 Ln _ _ _ _ _  h6 rfl he) ?_
    obtain ⟨h9, h10⟩ := h7
    by_cases h8 : (r2 : Int32) ≠ 0
    · refine zS1 (fun r he => B_X8_loan_r44_13_s1 Ln _ _ _ _ _ _  (fun _ => he) (fun n => absurd h8 n)) ?_
      have h9 := h9 h8
      exact ⟨_, B_X8_loan_r44_21 Ln _ _ _ _ _ , _, _, _, rfl, h9⟩
    · refine zS1 (fun r he => B_X8_loan_r44_13_s1 Ln _ _ _ _ _ _  (fun n => absurd n h8) (fun _ => he)) ?_
      have h10 := h10 h8
      obtain ⟨h12, h13⟩ := h10
      by_cases h11 : (v1 : Int32) ≠ v2
      · refine zS1 (fun r he => B_X8_loan_r44_16 Ln _ _ _ _ _  (fun _ => he) (fun n => absurd h11 n)) ?_
        have h12 := h12 h11
        obtain ⟨_, h14, r3, rfl, h15⟩ := T_X8_in Ln _ _ _ _ _ _ h12
        refine zS1 (fun r he => B_X8_loan_r44_23 Ln _ _ _ _ _  h14 rfl he) ?_
        obtain ⟨h17, h18⟩ := h15
        by_cases h16 : (r3 : Int32) ≠ 0
        · refine zS1 (fun r he => B_X8_loan_r44_32_s1 Ln _ _ _ _ _ _  (fun _ => he) (fun n => absurd h16 n)) ?_
          have h17 := h17 h16
          obtain ⟨h19, h20⟩ := h17
          obtain ⟨h22, h23⟩ := h20
          by_cases h21 : (v3 : Int32) ≤ (A 49 (v1).toNatClampNeg)
          · refine zS1 (fun r he => B_X8_loan_r44_38 Ln _ _ _ _ _ h19 (fun _ => he) (fun n => absurd h21 n)) ?_
            have h22 := h22 h21
            obtain ⟨h25, h26⟩ := h22
            by_cases h24 : ((I 44 20) : Int32) ≠ 6
            · refine zS1 (fun r he => B_X8_loan_r44_51 Ln _ _ _ _ _  (fun _ => he) (fun n => absurd h24 n)) ?_
              have h25 := h25 h24
              obtain ⟨h27, h28⟩ := h25
              obtain ⟨h29, h30⟩ := h28
              obtain ⟨h31, h32⟩ := h30
              obtain ⟨_, h33, A4, rfl, h34⟩ := T_X8_lend_r44 Ln _ _ _ _ _ _ h32
              refine zS1 (fun r he => B_X8_loan_r44_63 Ln _ _ _ _ _ h27 h29 h31 h33 rfl he) ?_
              exact ⟨_, B_X8_loan_r44_100 Ln _ _ _ _ _ , _, _, _, rfl, h34⟩
            · refine zS1 (fun r he => B_X8_loan_r44_51 Ln _ _ _ _ _  (fun n => absurd n h24) (fun _ => he)) ?_
              have h26 := h26 h24
              exact ⟨_, B_X8_loan_r44_60 Ln _ _ _ _ _ , _, _, _, rfl, h26⟩
          · refine zS1 (fun r he => B_X8_loan_r44_38 Ln _ _ _ _ _ h19 (fun n => absurd n h21) (fun _ => he)) ?_
            have h23 := h23 h21
            exact ⟨_, B_X8_loan_r44_48 Ln _ _ _ _ _ , _, _, _, rfl, h23⟩
        · refine zS1 (fun r he => B_X8_loan_r44_32_s1 Ln _ _ _ _ _ _  (fun n => absurd n h16) (fun _ => he)) ?_
          have h18 := h18 h16
          exact ⟨_, B_X8_loan_r44_35 Ln _ _ _ _ _ , _, _, _, rfl, h18⟩
      · refine zS1 (fun r he => B_X8_loan_r44_16 Ln _ _ _ _ _  (fun n => absurd n h11) (fun _ => he)) ?_
        have h13 := h13 h11
        exact ⟨_, B_X8_loan_r44_21 Ln _ _ _ _ _ , _, _, _, rfl, h13⟩
