/-! what a method asks, by program (wip/whole/gen_wp.py) -/
def SL_X8_crossings_r44_83 (Ln : Nat) (I A : Nat → Nat → Int32) (v1 : Int32) (v2 : Int32) (v3 : Int32) (v4 : Int32) (v5 : Int32) (Q : Int32 → (Nat → Nat → Int32) → Prop) : Int32 → Prop
  | v6 => zSem 137 83 0 0 [some (.ref 44), some (.int v1), some (.int v2), some (.int v3), some (.int v4), some (.int v5), some (.int v6), none, none] [] (zGs Ln I A) (fun r => ∃ x I1, r = (some (.int x), zGs Ln I1 A) ∧ Q x I1)
def SL_X8_crossings_r44_136 (Ln : Nat) (I A : Nat → Nat → Int32) (v1 : Int32) (v2 : Int32) (v3 : Int32) (v4 : Int32) (v5 : Int32) (Q : Int32 → (Nat → Nat → Int32) → Prop) : Int32 × Int32 → Prop
  | (v6, v7) => ∀  (j8 : Option Int32), zSem 137 136 0 0 [some (.ref 44), some (.int v1), some (.int v2), some (.int v3), some (.int v4), some (.int v5), some (.int v6), some (.int v7), (Option.map Value.int j8)] [] (zGs Ln I A) (fun r => ∃ x I1, r = (some (.int x), zGs Ln I1 A) ∧ Q x I1)
def J_X8_crossings_r44_190 (Ln : Nat) (I A : Nat → Nat → Int32) (v1 : Int32) (v2 : Int32) (v3 : Int32) (v4 : Int32) (v5 : Int32) (v6 : Int32) (v7 : Int32) (v8 : Int32) (Q : Int32 → (Nat → Nat → Int32) → Prop) : Prop := ((W_X8_refused_r44 Ln I A v7 (fun (r7 : Int32) (I8 : Nat → Nat → Int32) => (Q r7 I8))))
set_option maxRecDepth 100000 in
theorem TJ_X8_crossings_r44_190 {Ln : Nat} {I A : Nat → Nat → Int32} {v1 : Int32} {v2 : Int32} {v3 : Int32} {v4 : Int32} {v5 : Int32} {v6 : Int32} {v7 : Int32} {v8 : Int32} {Q : Int32 → (Nat → Nat → Int32) → Prop} (h0 : J_X8_crossings_r44_190 Ln I A v1 v2 v3 v4 v5 v6 v7 v8   Q) : zSem 137 190 0 0 [some (.ref 44), some (.int v1), some (.int v2), some (.int v3), some (.int v4), some (.int v5), some (.int v6), some (.int v7), some (.int v8)] [] (zGs Ln I A) (fun r => ∃ x I1, r = (some (.int x), zGs Ln I1 A) ∧ Q x I1) := by
  unfold J_X8_crossings_r44_190 at h0
  obtain ⟨_, h1, r7, I8, rfl, h2⟩ := T_X8_refused_r44 Ln _ _ _ _ h0
  refine zS1 (fun r he => B_X8_crossings_r44_190 Ln _ _ _ _ _ _ _ _ _ _  h1 rfl he) ?_
  exact ⟨_, B_X8_crossings_r44_196_s1 Ln _ _ _ _ _ _ _ _ _ _ _ , _, _, rfl, h2⟩
def L_X8_crossings_r44_136 (Ln : Nat) (I A : Nat → Nat → Int32) (v1 : Int32) (v2 : Int32) (v3 : Int32) (v4 : Int32) (v5 : Int32) (Q : Int32 → (Nat → Nat → Int32) → Prop) : Int32 × Int32 → (Int32 × Int32 → Prop) → Prop
  | (v6, v7), K136 => (((v4 : Int32) ≤ v7 → ((W_X8_refused_r44 Ln I A (-9) (fun (r5 : Int32) (I6 : Nat → Nat → Int32) => (Q r5 I6))))) ∧ (¬ ((v4 : Int32) ≤ v7) → ((zin (((60 * v1) + v3) + v7) 240 = true) ∧ ((((A 67 (((60 * v1) + v3) + v7).toNatClampNeg) &&& v6) : Int32) ≠ 0 → (J_X8_crossings_r44_190 Ln I A v1 v2 v3 v4 v5 v6 v7 (A 67 (((60 * v1) + v3) + v7).toNatClampNeg)  Q)) ∧ (¬ ((((A 67 (((60 * v1) + v3) + v7).toNatClampNeg) &&& v6) : Int32) ≠ 0) → (∀ x9 : Int32, x9 = A 67 (((60 * v1) + v3) + v7).toNatClampNeg → ((W_X8_cameBy_r44 Ln I A v7 (fun (r10 : Int32) => ((((x9 &&& (r10 ^^^ ((-1)))) : Int32) ≠ 0 → (J_X8_crossings_r44_190 Ln I A v1 v2 v3 v4 v5 v6 v7 x9  Q)) ∧ (¬ (((x9 &&& (r10 ^^^ ((-1)))) : Int32) ≠ 0) → ((W_X8_mayCross_r44 Ln I A x9 (fun (r11 : Int32) => (((r11 : Int32) ≠ 0 → ((K136 ((v6 ||| x9), (v7 + 1))))) ∧ (¬ ((r11 : Int32) ≠ 0) → (J_X8_crossings_r44_190 Ln I A v1 v2 v3 v4 v5 v6 v7 x9  Q))))))))))))))))
set_option maxRecDepth 100000 in
theorem TL_X8_crossings_r44_136 {Ln : Nat} {I A : Nat → Nat → Int32} {v1 : Int32} {v2 : Int32} {v3 : Int32} {v4 : Int32} {v5 : Int32} {Q : Int32 → (Nat → Nat → Int32) → Prop} : ∀ p, zLoop (L_X8_crossings_r44_136 Ln I A v1 v2 v3 v4 v5  Q) p → SL_X8_crossings_r44_136 Ln I A v1 v2 v3 v4 v5 Q p := by
  refine zLoop.sound (Sem := SL_X8_crossings_r44_136 Ln I A v1 v2 v3 v4 v5 Q) ?_
  rintro ⟨v6, v7⟩ K136 hK136 h0
  intro j8
  show zSem 137 136 0 0 [some (.ref 44), some (.int v1), some (.int v2), some (.int v3), some (.int v4), some (.int v5), some (.int v6), some (.int v7), (Option.map Value.int j8)] [] (zGs Ln I A) (fun r => ∃ x I1, r = (some (.int x), zGs Ln I1 A) ∧ Q x I1)
  change (((v4 : Int32) ≤ v7 → ((W_X8_refused_r44 Ln I A (-9) (fun (r5 : Int32) (I6 : Nat → Nat → Int32) => (Q r5 I6))))) ∧ (¬ ((v4 : Int32) ≤ v7) → ((zin (((60 * v1) + v3) + v7) 240 = true) ∧ ((((A 67 (((60 * v1) + v3) + v7).toNatClampNeg) &&& v6) : Int32) ≠ 0 → (J_X8_crossings_r44_190 Ln I A v1 v2 v3 v4 v5 v6 v7 (A 67 (((60 * v1) + v3) + v7).toNatClampNeg)  Q)) ∧ (¬ ((((A 67 (((60 * v1) + v3) + v7).toNatClampNeg) &&& v6) : Int32) ≠ 0) → (∀ x9 : Int32, x9 = A 67 (((60 * v1) + v3) + v7).toNatClampNeg → ((W_X8_cameBy_r44 Ln I A v7 (fun (r10 : Int32) => ((((x9 &&& (r10 ^^^ ((-1)))) : Int32) ≠ 0 → (J_X8_crossings_r44_190 Ln I A v1 v2 v3 v4 v5 v6 v7 x9  Q)) ∧ (¬ (((x9 &&& (r10 ^^^ ((-1)))) : Int32) ≠ 0) → ((W_X8_mayCross_r44 Ln I A x9 (fun (r11 : Int32) => (((r11 : Int32) ≠ 0 → ((K136 ((v6 ||| x9), (v7 + 1))))) ∧ (¬ ((r11 : Int32) ≠ 0) → (J_X8_crossings_r44_190 Ln I A v1 v2 v3 v4 v5 v6 v7 x9  Q)))))))))))))))) at h0
  obtain ⟨h2, h3⟩ := h0
  by_cases h1 : (v4 : Int32) ≤ v7
  · refine zS1 (fun r he => B_X8_crossings_r44_136 Ln _ _ _ _ _ _ _ _ _ j8  (fun _ => he) (fun n => absurd h1 n)) ?_
    have h2 := h2 h1
    obtain ⟨_, h4, r5, I6, rfl, h5⟩ := T_X8_refused_r44 Ln _ _ _ _ h2
    refine zS1 (fun r he => B_X8_crossings_r44_210 Ln _ _ _ _ _ _ _ _ _ j8  h4 rfl he) ?_
    exact ⟨_, B_X8_crossings_r44_216_s1 Ln _ _ _ _ _ _ _ _ _ j8 _ , _, _, rfl, h5⟩
  · refine zS1 (fun r he => B_X8_crossings_r44_136 Ln _ _ _ _ _ _ _ _ _ j8  (fun n => absurd n h1) (fun _ => he)) ?_
    have h3 := h3 h1
    obtain ⟨h6, h7⟩ := h3
    obtain ⟨h9, h10⟩ := h7
    by_cases h8 : (((A 67 (((60 * v1) + v3) + v7).toNatClampNeg) &&& v6) : Int32) ≠ 0
    · refine zS1 (fun r he => B_X8_crossings_r44_143 Ln _ _ _ _ _ _ _ _ _ j8 h6 (fun _ => he) (fun n => absurd h8 n)) ?_
      have h9 := h9 h8
      exact TJ_X8_crossings_r44_190  h9
    · refine zS1 (fun r he => B_X8_crossings_r44_143 Ln _ _ _ _ _ _ _ _ _ j8 h6 (fun n => absurd n h8) (fun _ => he)) ?_
      have h10 := h10 h8
      have h11 := h10 _ rfl
      obtain ⟨_, h12, r10, rfl, h13⟩ := T_X8_cameBy_r44 Ln _ _ _ _ h11
      refine zS1 (fun r he => B_X8_crossings_r44_167 Ln _ _ _ _ _ _ _ _ _ _  h12 rfl he) ?_
      obtain ⟨h15, h16⟩ := h13
      by_cases h14 : (((A 67 (((60 * v1) + v3) + v7).toNatClampNeg) &&& (r10 ^^^ ((-1)))) : Int32) ≠ 0
      · refine zS1 (fun r he => B_X8_crossings_r44_175_s2 Ln _ _ _ _ _ _ _ _ _ _ _ _  (fun _ => he) (fun n => absurd h14 n)) ?_
        have h15 := h15 h14
        exact TJ_X8_crossings_r44_190  h15
      · refine zS1 (fun r he => B_X8_crossings_r44_175_s2 Ln _ _ _ _ _ _ _ _ _ _ _ _  (fun n => absurd n h14) (fun _ => he)) ?_
        have h16 := h16 h14
        obtain ⟨_, h17, r11, rfl, h18⟩ := T_X8_mayCross_r44 Ln _ _ _ _ h16
        refine zS1 (fun r he => B_X8_crossings_r44_181 Ln _ _ _ _ _ _ _ _ _ _  h17 rfl he) ?_
        obtain ⟨h20, h21⟩ := h18
        by_cases h19 : (r11 : Int32) ≠ 0
        · refine zS1 (fun r he => B_X8_crossings_r44_187_s1 Ln _ _ _ _ _ _ _ _ _ _ _  (fun _ => he) (fun n => absurd h19 n)) ?_
          have h20 := h20 h19
          refine zS1 (fun r he => B_X8_crossings_r44_197 Ln _ _ _ _ _ _ _ _ _ _  he) ?_
          have q := hK136 _ h20
          exact q (some _)
        · refine zS1 (fun r he => B_X8_crossings_r44_187_s1 Ln _ _ _ _ _ _ _ _ _ _ _  (fun n => absurd n h19) (fun _ => he)) ?_
          have h21 := h21 h19
          exact TJ_X8_crossings_r44_190  h21
def L_X8_crossings_r44_83 (Ln : Nat) (I A : Nat → Nat → Int32) (v1 : Int32) (v2 : Int32) (v3 : Int32) (v4 : Int32) (v5 : Int32) (Q : Int32 → (Nat → Nat → Int32) → Prop) : Int32 → (Int32 → Prop) → Prop
  | v6, K83 => (((v4 : Int32) ≤ v6 → ((zLoop (L_X8_crossings_r44_136 Ln I A v1 v2 v3 v4 v5  Q) (0, 0)))) ∧ (¬ ((v4 : Int32) ≤ v6) → ((zin (((60 * v1) + v3) + v6) 240 = true) ∧ (W_X8_all_r44 Ln I A  (fun (r12 : Int32) => (∀ x13 : Int64, x13 = Int32.toInt64 (A 67 (((60 * v1) + v3) + v6).toNatClampNeg) → ((W_X8_in Ln I A x13 0 (Int32.toInt64 r12) (fun (r14 : Int32) => (((r14 : Int32) ≠ 0 → ((K83 (v6 + 1)))) ∧ (¬ ((r14 : Int32) ≠ 0) → ((W_X8_refused_r44 Ln I A (-2) (fun (r15 : Int32) (I16 : Nat → Nat → Int32) => (Q r15 I16)))))))))))))))
set_option maxRecDepth 100000 in
theorem TL_X8_crossings_r44_83 {Ln : Nat} {I A : Nat → Nat → Int32} {v1 : Int32} {v2 : Int32} {v3 : Int32} {v4 : Int32} {v5 : Int32} {Q : Int32 → (Nat → Nat → Int32) → Prop} : ∀ p, zLoop (L_X8_crossings_r44_83 Ln I A v1 v2 v3 v4 v5  Q) p → SL_X8_crossings_r44_83 Ln I A v1 v2 v3 v4 v5 Q p := by
  refine zLoop.sound (Sem := SL_X8_crossings_r44_83 Ln I A v1 v2 v3 v4 v5 Q) ?_
  rintro v6 K83 hK83 h0
  show zSem 137 83 0 0 [some (.ref 44), some (.int v1), some (.int v2), some (.int v3), some (.int v4), some (.int v5), some (.int v6), none, none] [] (zGs Ln I A) (fun r => ∃ x I1, r = (some (.int x), zGs Ln I1 A) ∧ Q x I1)
  change (((v4 : Int32) ≤ v6 → ((zLoop (L_X8_crossings_r44_136 Ln I A v1 v2 v3 v4 v5  Q) (0, 0)))) ∧ (¬ ((v4 : Int32) ≤ v6) → ((zin (((60 * v1) + v3) + v6) 240 = true) ∧ (W_X8_all_r44 Ln I A  (fun (r12 : Int32) => (∀ x13 : Int64, x13 = Int32.toInt64 (A 67 (((60 * v1) + v3) + v6).toNatClampNeg) → ((W_X8_in Ln I A x13 0 (Int32.toInt64 r12) (fun (r14 : Int32) => (((r14 : Int32) ≠ 0 → ((K83 (v6 + 1)))) ∧ (¬ ((r14 : Int32) ≠ 0) → ((W_X8_refused_r44 Ln I A (-2) (fun (r15 : Int32) (I16 : Nat → Nat → Int32) => (Q r15 I16))))))))))))))) at h0
  obtain ⟨h2, h3⟩ := h0
  by_cases h1 : (v4 : Int32) ≤ v6
  · refine zS1 (fun r he => B_X8_crossings_r44_83 Ln _ _ _ _ _ _ _ _  (fun _ => he) (fun n => absurd h1 n)) ?_
    have h2 := h2 h1
    refine zS1 (fun r he => B_X8_crossings_r44_130 Ln _ _ _ _ _ _ _ _  he) ?_
    exact TL_X8_crossings_r44_136  _ h2 none
  · refine zS1 (fun r he => B_X8_crossings_r44_83 Ln _ _ _ _ _ _ _ _  (fun n => absurd n h1) (fun _ => he)) ?_
    have h3 := h3 h1
    obtain ⟨h4, h5⟩ := h3
    obtain ⟨_, h6, r12, rfl, h7⟩ := T_X8_all_r44 Ln _ _ _ h5
    refine zS1 (fun r he => B_X8_crossings_r44_90 Ln _ _ _ _ _ _ _ _ h4 h6 rfl he) ?_
    have h8 := h7 _ rfl
    obtain ⟨_, h9, r14, rfl, h10⟩ := T_X8_in Ln _ _ _ _ _ _ h8
    refine zS1 (fun r he => B_X8_crossings_r44_110_s3 Ln _ _ _ _ _ _ _ _ _ _ _  h9 rfl he) ?_
    obtain ⟨h12, h13⟩ := h10
    by_cases h11 : (r14 : Int32) ≠ 0
    · refine zS1 (fun r he => B_X8_crossings_r44_114_s1 Ln _ _ _ _ _ _ _ _ _  (fun _ => he) (fun n => absurd h11 n)) ?_
      have h12 := h12 h11
      refine zS1 (fun r he => B_X8_crossings_r44_124 Ln _ _ _ _ _ _ _ _  he) ?_
      have q := hK83 _ h12
      exact q
    · refine zS1 (fun r he => B_X8_crossings_r44_114_s1 Ln _ _ _ _ _ _ _ _ _  (fun n => absurd n h11) (fun _ => he)) ?_
      have h13 := h13 h11
      obtain ⟨_, h14, r15, I16, rfl, h15⟩ := T_X8_refused_r44 Ln _ _ _ _ h13
      refine zS1 (fun r he => B_X8_crossings_r44_117 Ln _ _ _ _ _ _ _ _  h14 rfl he) ?_
      exact ⟨_, B_X8_crossings_r44_123_s1 Ln _ _ _ _ _ _ _ _ _ , _, _, rfl, h15⟩
def W_X8_crossings_r44 (Ln : Nat) (I A : Nat → Nat → Int32) (v1 : Int32) (v2 : Int32) (v3 : Int32) (v4 : Int32) (Q : Int32 → (Nat → Nat → Int32) → Prop) : Prop := ((W_X8_noSheet Ln I A v1 (fun (r1 : Int32) => (((r1 : Int32) = 0 → ((W_X8_in Ln I A (Int32.toInt64 v2) 0 2 (fun (r2 : Int32) => (((r2 : Int32) ≠ 0 → ((((I 44 4) : Int32) ≠ 0 → ((W_X8_cellsBarred_r44 Ln I A v1 v2 v3 (Int32.toInt64 v4) (fun (r3 : Int32) (I4 : Nat → Nat → Int32) => (((0 : Int32) ≤ r3 → (((v4 : Int32) ≤ 20 → ((zLoop (L_X8_crossings_r44_83 Ln I4 A v1 v2 v3 v4 r3  Q) 0))) ∧ (¬ ((v4 : Int32) ≤ 20) → ((W_X8_refused_r44 Ln I4 A (-2) (fun (r17 : Int32) (I18 : Nat → Nat → Int32) => (Q r17 I18))))))) ∧ (¬ ((0 : Int32) ≤ r3) → (Q r3 I4))))))) ∧ (¬ (((I 44 4) : Int32) ≠ 0) → ((W_X8_refused_r44 Ln I A (-3) (fun (r19 : Int32) (I20 : Nat → Nat → Int32) => (Q r19 I20))))))) ∧ (¬ ((r2 : Int32) ≠ 0) → ((W_X8_refused_r44 Ln I A (-2) (fun (r21 : Int32) (I22 : Nat → Nat → Int32) => (Q r21 I22)))))))))) ∧ (¬ ((r1 : Int32) = 0) → ((W_X8_refused_r44 Ln I A (-1) (fun (r23 : Int32) (I24 : Nat → Nat → Int32) => (Q r23 I24)))))))))
set_option maxRecDepth 100000 in
theorem T_X8_crossings_r44 (Ln : Nat) (I A : Nat → Nat → Int32) (v1 : Int32) (v2 : Int32) (v3 : Int32) (v4 : Int32) (Q : Int32 → (Nat → Nat → Int32) → Prop) (h0 : W_X8_crossings_r44 Ln I A v1 v2 v3 v4 Q) : zSem 137 0 0 0 [some (.ref 44), some (.int v1), some (.int v2), some (.int v3), some (.int v4), none, none, none, none] [] (zGs Ln I A) (fun r => ∃ x I1, r = (some (.int x), zGs Ln I1 A) ∧ Q x I1) := by
  unfold W_X8_crossings_r44 at h0
  obtain ⟨_, h1, r1, rfl, h2⟩ := T_X8_noSheet Ln _ _ _ _ h0
  refine zS1 (fun r he => B_X8_crossings_r44_0 Ln _ _ _ _ _ _  h1 rfl he) ?_
  obtain ⟨h4, h5⟩ := h2
  by_cases h3 : (r1 : Int32) = 0
  · refine zS1 (fun r he => B_X8_crossings_r44_4_s1 Ln _ _ _ _ _ _ _  (fun _ => he) (fun n => absurd h3 n)) ?_
    have h4 := h4 h3
    obtain ⟨_, h6, r2, rfl, h7⟩ := T_X8_in Ln _ _ _ _ _ _ h4
    refine zS1 (fun r he => B_X8_crossings_r44_13 Ln _ _ _ _ _ _  h6 rfl he) ?_
    obtain ⟨h9, h10⟩ := h7
    by_cases h8 : (r2 : Int32) ≠ 0
    · refine zS1 (fun r he => B_X8_crossings_r44_22_s1 Ln _ _ _ _ _ _ _  (fun _ => he) (fun n => absurd h8 n)) ?_
      have h9 := h9 h8
      obtain ⟨h12, h13⟩ := h9
      by_cases h11 : ((I 44 4) : Int32) ≠ 0
      · refine zS1 (fun r he => B_X8_crossings_r44_32 Ln _ _ _ _ _ _  (fun _ => he) (fun n => absurd h11 n)) ?_
        have h12 := h12 h11
        obtain ⟨_, h14, r3, I4, rfl, h15⟩ := T_X8_cellsBarred_r44 Ln _ _ _ _ _ _ _ h12
        refine zS1 (fun r he => B_X8_crossings_r44_46 Ln _ _ _ _ _ _  h14 rfl he) ?_
        obtain ⟨h17, h18⟩ := h15
        by_cases h16 : (0 : Int32) ≤ r3
        · refine zS1 (fun r he => B_X8_crossings_r44_56_s1 Ln _ _ _ _ _ _ _  (fun _ => he) (fun n => absurd h16 n)) ?_
          have h17 := h17 h16
          obtain ⟨h20, h21⟩ := h17
          by_cases h19 : (v4 : Int32) ≤ 20
          · refine zS1 (fun r he => B_X8_crossings_r44_66 Ln _ _ _ _ _ _ _  (fun _ => he) (fun n => absurd h19 n)) ?_
            have h20 := h20 h19
            refine zS1 (fun r he => B_X8_crossings_r44_80 Ln _ _ _ _ _ _ _  he) ?_
            exact TL_X8_crossings_r44_83  _ h20
          · refine zS1 (fun r he => B_X8_crossings_r44_66 Ln _ _ _ _ _ _ _  (fun n => absurd n h19) (fun _ => he)) ?_
            have h21 := h21 h19
            obtain ⟨_, h22, r17, I18, rfl, h23⟩ := T_X8_refused_r44 Ln _ _ _ _ h21
            refine zS1 (fun r he => B_X8_crossings_r44_73 Ln _ _ _ _ _ _ _  h22 rfl he) ?_
            exact ⟨_, B_X8_crossings_r44_79_s1 Ln _ _ _ _ _ _ _ _ , _, _, rfl, h23⟩
        · refine zS1 (fun r he => B_X8_crossings_r44_56_s1 Ln _ _ _ _ _ _ _  (fun n => absurd n h16) (fun _ => he)) ?_
          have h18 := h18 h16
          exact ⟨_, B_X8_crossings_r44_63 Ln _ _ _ _ _ _ _ , _, _, rfl, h18⟩
      · refine zS1 (fun r he => B_X8_crossings_r44_32 Ln _ _ _ _ _ _  (fun n => absurd n h11) (fun _ => he)) ?_
        have h13 := h13 h11
        obtain ⟨_, h24, r19, I20, rfl, h25⟩ := T_X8_refused_r44 Ln _ _ _ _ h13
        refine zS1 (fun r he => B_X8_crossings_r44_39 Ln _ _ _ _ _ _  h24 rfl he) ?_
        exact ⟨_, B_X8_crossings_r44_45_s1 Ln _ _ _ _ _ _ _ , _, _, rfl, h25⟩
    · refine zS1 (fun r he => B_X8_crossings_r44_22_s1 Ln _ _ _ _ _ _ _  (fun n => absurd n h8) (fun _ => he)) ?_
      have h10 := h10 h8
      obtain ⟨_, h26, r21, I22, rfl, h27⟩ := T_X8_refused_r44 Ln _ _ _ _ h10
      refine zS1 (fun r he => B_X8_crossings_r44_25 Ln _ _ _ _ _ _  h26 rfl he) ?_
      exact ⟨_, B_X8_crossings_r44_31_s1 Ln _ _ _ _ _ _ _ , _, _, rfl, h27⟩
  · refine zS1 (fun r he => B_X8_crossings_r44_4_s1 Ln _ _ _ _ _ _ _  (fun n => absurd n h3) (fun _ => he)) ?_
    have h5 := h5 h3
    obtain ⟨_, h28, r23, I24, rfl, h29⟩ := T_X8_refused_r44 Ln _ _ _ _ h5
    refine zS1 (fun r he => B_X8_crossings_r44_7 Ln _ _ _ _ _ _  h28 rfl he) ?_
    exact ⟨_, B_X8_crossings_r44_12_s1 Ln _ _ _ _ _ _ _ , _, _, rfl, h29⟩
def J_X7_sheet_r1_c0_26 (Ln : Nat) (I A : Nat → Nat → Int32) (v2 : Int32) (v3 : Int32) (Q : Int32 → (Nat → Nat → Int32) → (Nat → Nat → Int32) → Prop) : Prop := ((W_X7_faultless_r1 Ln I A (-2) (fun (r3 : Int32) (I4 : Nat → Nat → Int32) => (Q r3 I4 A))))
set_option maxRecDepth 100000 in
theorem TJ_X7_sheet_r1_c0_26 {Ln : Nat} {I A : Nat → Nat → Int32} {v2 : Int32} {v3 : Int32} {Q : Int32 → (Nat → Nat → Int32) → (Nat → Nat → Int32) → Prop} (h0 : J_X7_sheet_r1_c0_26 Ln I A v2 v3   Q) : zSem 66 26 0 0 [some (.ref 1), some (.int 0), some (.int v2), some (.int v3)] [] (zGs Ln I A) (fun r => ∃ x I1 A1, r = (some (.int x), zGs Ln I1 A1) ∧ Q x I1 A1) := by
  unfold J_X7_sheet_r1_c0_26 at h0
  obtain ⟨_, h1, r3, I4, rfl, h2⟩ := T_X7_faultless_r1 Ln _ _ _ _ h0
  refine zS1 (fun r he => B_X7_sheet_r1_c0_26 Ln _ _ _ _  h1 rfl he) ?_
  exact ⟨_, B_X7_sheet_r1_c0_32_s1 Ln _ _ _ _ _ , _, _, _, rfl, h2⟩
def W_X7_sheet_r1_c0 (Ln : Nat) (I A : Nat → Nat → Int32) (v2 : Int32) (v3 : Int32) (Q : Int32 → (Nat → Nat → Int32) → (Nat → Nat → Int32) → Prop) : Prop := ((W_X7_isSheet Ln I A 0 (fun (r1 : Int32) => (((r1 : Int32) ≠ 0 → ((W_X7_isLane Ln I A v2 (fun (r2 : Int32) => (((r2 : Int32) = 0 → (J_X7_sheet_r1_c0_26 Ln I A v2 v3  Q)) ∧ (¬ ((r2 : Int32) = 0) → (((v3 : Int32) ≤ 60 → (((0 : Int32) ≤ v3 → ((W_X4_renew_r3 Ln I A v2 v3 (fun (I5 : Nat → Nat → Int32) (A6 : Nat → Nat → Int32) => ((W_X7_faultless_r1 Ln I5 A6 1 (fun (r7 : Int32) (I8 : Nat → Nat → Int32) => (Q r7 I8 A6)))))))) ∧ (¬ ((0 : Int32) ≤ v3) → ((W_X7_faulted_r1 Ln I A 4 (fun (r9 : Int32) (I10 : Nat → Nat → Int32) => (Q r9 I10 A))))))) ∧ (¬ ((v3 : Int32) ≤ 60) → (J_X7_sheet_r1_c0_26 Ln I A v2 v3  Q))))))))) ∧ (¬ ((r1 : Int32) ≠ 0) → ((W_X7_faultless_r1 Ln I A (-1) (fun (r11 : Int32) (I12 : Nat → Nat → Int32) => (Q r11 I12 A)))))))))
set_option maxRecDepth 100000 in
theorem T_X7_sheet_r1_c0 (Ln : Nat) (I A : Nat → Nat → Int32) (v2 : Int32) (v3 : Int32) (Q : Int32 → (Nat → Nat → Int32) → (Nat → Nat → Int32) → Prop) (h0 : W_X7_sheet_r1_c0 Ln I A v2 v3 Q) : zSem 66 0 0 0 [some (.ref 1), some (.int 0), some (.int v2), some (.int v3)] [] (zGs Ln I A) (fun r => ∃ x I1 A1, r = (some (.int x), zGs Ln I1 A1) ∧ Q x I1 A1) := by
  unfold W_X7_sheet_r1_c0 at h0
  obtain ⟨_, h1, r1, rfl, h2⟩ := T_X7_isSheet Ln _ _ _ _ h0
  refine zS1 (fun r he => B_X7_sheet_r1_c0_0 Ln _ _ _ _  h1 rfl he) ?_
  obtain ⟨h4, h5⟩ := h2
  by_cases h3 : (r1 : Int32) ≠ 0
  · refine zS1 (fun r he => B_X7_sheet_r1_c0_4_s1 Ln _ _ _ _ _  (fun _ => he) (fun n => absurd h3 n)) ?_
    have h4 := h4 h3
    obtain ⟨_, h6, r2, rfl, h7⟩ := T_X7_isLane Ln _ _ _ _ h4
    refine zS1 (fun r he => B_X7_sheet_r1_c0_13 Ln _ _ _ _  h6 rfl he) ?_
    obtain ⟨h9, h10⟩ := h7
    by_cases h8 : (r2 : Int32) = 0
    · refine zS1 (fun r he => B_X7_sheet_r1_c0_17_s1 Ln _ _ _ _ _  (fun _ => he) (fun n => absurd h8 n)) ?_
      have h9 := h9 h8
      exact TJ_X7_sheet_r1_c0_26  h9
    · refine zS1 (fun r he => B_X7_sheet_r1_c0_17_s1 Ln _ _ _ _ _  (fun n => absurd n h8) (fun _ => he)) ?_
      have h10 := h10 h8
      obtain ⟨h12, h13⟩ := h10
      by_cases h11 : (v3 : Int32) ≤ 60
      · refine zS1 (fun r he => B_X7_sheet_r1_c0_20 Ln _ _ _ _  (fun _ => he) (fun n => absurd h11 n)) ?_
        have h12 := h12 h11
        obtain ⟨h15, h16⟩ := h12
        by_cases h14 : (0 : Int32) ≤ v3
        · refine zS1 (fun r he => B_X7_sheet_r1_c0_33 Ln _ _ _ _  (fun _ => he) (fun n => absurd h14 n)) ?_
          have h15 := h15 h14
          obtain ⟨_, h17, I5, A6, rfl, h18⟩ := T_X4_renew_r3 Ln _ _ _ _ _ h15
          refine zS1 (fun r he => B_X7_sheet_r1_c0_43 Ln _ _ _ _  h17 rfl he) ?_
          obtain ⟨_, h19, r7, I8, rfl, h20⟩ := T_X7_faultless_r1 Ln _ _ _ _ h18
          refine zS1 (fun r he => B_X7_sheet_r1_c0_54 Ln _ _ _ _  h19 rfl he) ?_
          exact ⟨_, B_X7_sheet_r1_c0_59_s1 Ln _ _ _ _ _ , _, _, _, rfl, h20⟩
        · refine zS1 (fun r he => B_X7_sheet_r1_c0_33 Ln _ _ _ _  (fun n => absurd n h14) (fun _ => he)) ?_
          have h16 := h16 h14
          obtain ⟨_, h21, r9, I10, rfl, h22⟩ := T_X7_faulted_r1 Ln _ _ _ _ h16
          refine zS1 (fun r he => B_X7_sheet_r1_c0_37 Ln _ _ _ _  h21 rfl he) ?_
          exact ⟨_, B_X7_sheet_r1_c0_42_s1 Ln _ _ _ _ _ , _, _, _, rfl, h22⟩
      · refine zS1 (fun r he => B_X7_sheet_r1_c0_20 Ln _ _ _ _  (fun n => absurd n h11) (fun _ => he)) ?_
        have h13 := h13 h11
        exact TJ_X7_sheet_r1_c0_26  h13
  · refine zS1 (fun r he => B_X7_sheet_r1_c0_4_s1 Ln _ _ _ _ _  (fun n => absurd n h3) (fun _ => he)) ?_
    have h5 := h5 h3
    obtain ⟨_, h23, r11, I12, rfl, h24⟩ := T_X7_faultless_r1 Ln _ _ _ _ h5
    refine zS1 (fun r he => B_X7_sheet_r1_c0_7 Ln _ _ _ _  h23 rfl he) ?_
    exact ⟨_, B_X7_sheet_r1_c0_12_s1 Ln _ _ _ _ _ , _, _, _, rfl, h24⟩
def J_X7_sheet_r1_c1_26 (Ln : Nat) (I A : Nat → Nat → Int32) (v2 : Int32) (v3 : Int32) (Q : Int32 → (Nat → Nat → Int32) → (Nat → Nat → Int32) → Prop) : Prop := ((W_X7_faultless_r1 Ln I A (-2) (fun (r3 : Int32) (I4 : Nat → Nat → Int32) => (Q r3 I4 A))))
set_option maxRecDepth 100000 in
theorem TJ_X7_sheet_r1_c1_26 {Ln : Nat} {I A : Nat → Nat → Int32} {v2 : Int32} {v3 : Int32} {Q : Int32 → (Nat → Nat → Int32) → (Nat → Nat → Int32) → Prop} (h0 : J_X7_sheet_r1_c1_26 Ln I A v2 v3   Q) : zSem 66 26 0 0 [some (.ref 1), some (.int 1), some (.int v2), some (.int v3)] [] (zGs Ln I A) (fun r => ∃ x I1 A1, r = (some (.int x), zGs Ln I1 A1) ∧ Q x I1 A1) := by
  unfold J_X7_sheet_r1_c1_26 at h0
  obtain ⟨_, h1, r3, I4, rfl, h2⟩ := T_X7_faultless_r1 Ln _ _ _ _ h0
  refine zS1 (fun r he => B_X7_sheet_r1_c1_26 Ln _ _ _ _  h1 rfl he) ?_
  exact ⟨_, B_X7_sheet_r1_c1_32_s1 Ln _ _ _ _ _ , _, _, _, rfl, h2⟩
def W_X7_sheet_r1_c1 (Ln : Nat) (I A : Nat → Nat → Int32) (v2 : Int32) (v3 : Int32) (Q : Int32 → (Nat → Nat → Int32) → (Nat → Nat → Int32) → Prop) : Prop := ((W_X7_isSheet Ln I A 1 (fun (r1 : Int32) => (((r1 : Int32) ≠ 0 → ((W_X7_isLane Ln I A v2 (fun (r2 : Int32) => (((r2 : Int32) = 0 → (J_X7_sheet_r1_c1_26 Ln I A v2 v3  Q)) ∧ (¬ ((r2 : Int32) = 0) → (((v3 : Int32) ≤ 60 → (((0 : Int32) ≤ v3 → ((W_X4_renew_r5 Ln I A v2 v3 (fun (I5 : Nat → Nat → Int32) (A6 : Nat → Nat → Int32) => ((W_X7_faultless_r1 Ln I5 A6 1 (fun (r7 : Int32) (I8 : Nat → Nat → Int32) => (Q r7 I8 A6)))))))) ∧ (¬ ((0 : Int32) ≤ v3) → ((W_X7_faulted_r1 Ln I A 4 (fun (r9 : Int32) (I10 : Nat → Nat → Int32) => (Q r9 I10 A))))))) ∧ (¬ ((v3 : Int32) ≤ 60) → (J_X7_sheet_r1_c1_26 Ln I A v2 v3  Q))))))))) ∧ (¬ ((r1 : Int32) ≠ 0) → ((W_X7_faultless_r1 Ln I A (-1) (fun (r11 : Int32) (I12 : Nat → Nat → Int32) => (Q r11 I12 A)))))))))
set_option maxRecDepth 100000 in
theorem T_X7_sheet_r1_c1 (Ln : Nat) (I A : Nat → Nat → Int32) (v2 : Int32) (v3 : Int32) (Q : Int32 → (Nat → Nat → Int32) → (Nat → Nat → Int32) → Prop) (h0 : W_X7_sheet_r1_c1 Ln I A v2 v3 Q) : zSem 66 0 0 0 [some (.ref 1), some (.int 1), some (.int v2), some (.int v3)] [] (zGs Ln I A) (fun r => ∃ x I1 A1, r = (some (.int x), zGs Ln I1 A1) ∧ Q x I1 A1) := by
  unfold W_X7_sheet_r1_c1 at h0
  obtain ⟨_, h1, r1, rfl, h2⟩ := T_X7_isSheet Ln _ _ _ _ h0
  refine zS1 (fun r he => B_X7_sheet_r1_c1_0 Ln _ _ _ _  h1 rfl he) ?_
  obtain ⟨h4, h5⟩ := h2
  by_cases h3 : (r1 : Int32) ≠ 0
  · refine zS1 (fun r he => B_X7_sheet_r1_c1_4_s1 Ln _ _ _ _ _  (fun _ => he) (fun n => absurd h3 n)) ?_
    have h4 := h4 h3
    obtain ⟨_, h6, r2, rfl, h7⟩ := T_X7_isLane Ln _ _ _ _ h4
    refine zS1 (fun r he => B_X7_sheet_r1_c1_13 Ln _ _ _ _  h6 rfl he) ?_
    obtain ⟨h9, h10⟩ := h7
    by_cases h8 : (r2 : Int32) = 0
    · refine zS1 (fun r he => B_X7_sheet_r1_c1_17_s1 Ln _ _ _ _ _  (fun _ => he) (fun n => absurd h8 n)) ?_
      have h9 := h9 h8
      exact TJ_X7_sheet_r1_c1_26  h9
    · refine zS1 (fun r he => B_X7_sheet_r1_c1_17_s1 Ln _ _ _ _ _  (fun n => absurd n h8) (fun _ => he)) ?_
      have h10 := h10 h8
      obtain ⟨h12, h13⟩ := h10
      by_cases h11 : (v3 : Int32) ≤ 60
      · refine zS1 (fun r he => B_X7_sheet_r1_c1_20 Ln _ _ _ _  (fun _ => he) (fun n => absurd h11 n)) ?_
        have h12 := h12 h11
        obtain ⟨h15, h16⟩ := h12
        by_cases h14 : (0 : Int32) ≤ v3
        · refine zS1 (fun r he => B_X7_sheet_r1_c1_33 Ln _ _ _ _  (fun _ => he) (fun n => absurd h14 n)) ?_
          have h15 := h15 h14
          obtain ⟨_, h17, I5, A6, rfl, h18⟩ := T_X4_renew_r5 Ln _ _ _ _ _ h15
          refine zS1 (fun r he => B_X7_sheet_r1_c1_43 Ln _ _ _ _  h17 rfl he) ?_
          obtain ⟨_, h19, r7, I8, rfl, h20⟩ := T_X7_faultless_r1 Ln _ _ _ _ h18
          refine zS1 (fun r he => B_X7_sheet_r1_c1_54 Ln _ _ _ _  h19 rfl he) ?_
          exact ⟨_, B_X7_sheet_r1_c1_59_s1 Ln _ _ _ _ _ , _, _, _, rfl, h20⟩
        · refine zS1 (fun r he => B_X7_sheet_r1_c1_33 Ln _ _ _ _  (fun n => absurd n h14) (fun _ => he)) ?_
          have h16 := h16 h14
          obtain ⟨_, h21, r9, I10, rfl, h22⟩ := T_X7_faulted_r1 Ln _ _ _ _ h16
          refine zS1 (fun r he => B_X7_sheet_r1_c1_37 Ln _ _ _ _  h21 rfl he) ?_
          exact ⟨_, B_X7_sheet_r1_c1_42_s1 Ln _ _ _ _ _ , _, _, _, rfl, h22⟩
      · refine zS1 (fun r he => B_X7_sheet_r1_c1_20 Ln _ _ _ _  (fun n => absurd n h11) (fun _ => he)) ?_
        have h13 := h13 h11
        exact TJ_X7_sheet_r1_c1_26  h13
  · refine zS1 (fun r he => B_X7_sheet_r1_c1_4_s1 Ln _ _ _ _ _  (fun n => absurd n h3) (fun _ => he)) ?_
    have h5 := h5 h3
    obtain ⟨_, h23, r11, I12, rfl, h24⟩ := T_X7_faultless_r1 Ln _ _ _ _ h5
    refine zS1 (fun r he => B_X7_sheet_r1_c1_7 Ln _ _ _ _  h23 rfl he) ?_
    exact ⟨_, B_X7_sheet_r1_c1_12_s1 Ln _ _ _ _ _ , _, _, _, rfl, h24⟩
def J_X7_sheet_r1_c2_26 (Ln : Nat) (I A : Nat → Nat → Int32) (v2 : Int32) (v3 : Int32) (Q : Int32 → (Nat → Nat → Int32) → (Nat → Nat → Int32) → Prop) : Prop := ((W_X7_faultless_r1 Ln I A (-2) (fun (r3 : Int32) (I4 : Nat → Nat → Int32) => (Q r3 I4 A))))
set_option maxRecDepth 100000 in
theorem TJ_X7_sheet_r1_c2_26 {Ln : Nat} {I A : Nat → Nat → Int32} {v2 : Int32} {v3 : Int32} {Q : Int32 → (Nat → Nat → Int32) → (Nat → Nat → Int32) → Prop} (h0 : J_X7_sheet_r1_c2_26 Ln I A v2 v3   Q) : zSem 66 26 0 0 [some (.ref 1), some (.int 2), some (.int v2), some (.int v3)] [] (zGs Ln I A) (fun r => ∃ x I1 A1, r = (some (.int x), zGs Ln I1 A1) ∧ Q x I1 A1) := by
  unfold J_X7_sheet_r1_c2_26 at h0
  obtain ⟨_, h1, r3, I4, rfl, h2⟩ := T_X7_faultless_r1 Ln _ _ _ _ h0
  refine zS1 (fun r he => B_X7_sheet_r1_c2_26 Ln _ _ _ _  h1 rfl he) ?_
  exact ⟨_, B_X7_sheet_r1_c2_32_s1 Ln _ _ _ _ _ , _, _, _, rfl, h2⟩
def W_X7_sheet_r1_c2 (Ln : Nat) (I A : Nat → Nat → Int32) (v2 : Int32) (v3 : Int32) (Q : Int32 → (Nat → Nat → Int32) → (Nat → Nat → Int32) → Prop) : Prop := ((W_X7_isSheet Ln I A 2 (fun (r1 : Int32) => (((r1 : Int32) ≠ 0 → ((W_X7_isLane Ln I A v2 (fun (r2 : Int32) => (((r2 : Int32) = 0 → (J_X7_sheet_r1_c2_26 Ln I A v2 v3  Q)) ∧ (¬ ((r2 : Int32) = 0) → (((v3 : Int32) ≤ 60 → (((0 : Int32) ≤ v3 → ((W_X4_renew_r7 Ln I A v2 v3 (fun (I5 : Nat → Nat → Int32) (A6 : Nat → Nat → Int32) => ((W_X7_faultless_r1 Ln I5 A6 1 (fun (r7 : Int32) (I8 : Nat → Nat → Int32) => (Q r7 I8 A6)))))))) ∧ (¬ ((0 : Int32) ≤ v3) → ((W_X7_faulted_r1 Ln I A 4 (fun (r9 : Int32) (I10 : Nat → Nat → Int32) => (Q r9 I10 A))))))) ∧ (¬ ((v3 : Int32) ≤ 60) → (J_X7_sheet_r1_c2_26 Ln I A v2 v3  Q))))))))) ∧ (¬ ((r1 : Int32) ≠ 0) → ((W_X7_faultless_r1 Ln I A (-1) (fun (r11 : Int32) (I12 : Nat → Nat → Int32) => (Q r11 I12 A)))))))))
set_option maxRecDepth 100000 in
theorem T_X7_sheet_r1_c2 (Ln : Nat) (I A : Nat → Nat → Int32) (v2 : Int32) (v3 : Int32) (Q : Int32 → (Nat → Nat → Int32) → (Nat → Nat → Int32) → Prop) (h0 : W_X7_sheet_r1_c2 Ln I A v2 v3 Q) : zSem 66 0 0 0 [some (.ref 1), some (.int 2), some (.int v2), some (.int v3)] [] (zGs Ln I A) (fun r => ∃ x I1 A1, r = (some (.int x), zGs Ln I1 A1) ∧ Q x I1 A1) := by
  unfold W_X7_sheet_r1_c2 at h0
  obtain ⟨_, h1, r1, rfl, h2⟩ := T_X7_isSheet Ln _ _ _ _ h0
  refine zS1 (fun r he => B_X7_sheet_r1_c2_0 Ln _ _ _ _  h1 rfl he) ?_
  obtain ⟨h4, h5⟩ := h2
  by_cases h3 : (r1 : Int32) ≠ 0
  · refine zS1 (fun r he => B_X7_sheet_r1_c2_4_s1 Ln _ _ _ _ _  (fun _ => he) (fun n => absurd h3 n)) ?_
    have h4 := h4 h3
    obtain ⟨_, h6, r2, rfl, h7⟩ := T_X7_isLane Ln _ _ _ _ h4
    refine zS1 (fun r he => B_X7_sheet_r1_c2_13 Ln _ _ _ _  h6 rfl he) ?_
    obtain ⟨h9, h10⟩ := h7
    by_cases h8 : (r2 : Int32) = 0
    · refine zS1 (fun r he => B_X7_sheet_r1_c2_17_s1 Ln _ _ _ _ _  (fun _ => he) (fun n => absurd h8 n)) ?_
      have h9 := h9 h8
      exact TJ_X7_sheet_r1_c2_26  h9
    · refine zS1 (fun r he => B_X7_sheet_r1_c2_17_s1 Ln _ _ _ _ _  (fun n => absurd n h8) (fun _ => he)) ?_
      have h10 := h10 h8
      obtain ⟨h12, h13⟩ := h10
      by_cases h11 : (v3 : Int32) ≤ 60
      · refine zS1 (fun r he => B_X7_sheet_r1_c2_20 Ln _ _ _ _  (fun _ => he) (fun n => absurd h11 n)) ?_
        have h12 := h12 h11
        obtain ⟨h15, h16⟩ := h12
        by_cases h14 : (0 : Int32) ≤ v3
        · refine zS1 (fun r he => B_X7_sheet_r1_c2_33 Ln _ _ _ _  (fun _ => he) (fun n => absurd h14 n)) ?_
          have h15 := h15 h14
          obtain ⟨_, h17, I5, A6, rfl, h18⟩ := T_X4_renew_r7 Ln _ _ _ _ _ h15
          refine zS1 (fun r he => B_X7_sheet_r1_c2_43 Ln _ _ _ _  h17 rfl he) ?_
          obtain ⟨_, h19, r7, I8, rfl, h20⟩ := T_X7_faultless_r1 Ln _ _ _ _ h18
          refine zS1 (fun r he => B_X7_sheet_r1_c2_54 Ln _ _ _ _  h19 rfl he) ?_
          exact ⟨_, B_X7_sheet_r1_c2_59_s1 Ln _ _ _ _ _ , _, _, _, rfl, h20⟩
        · refine zS1 (fun r he => B_X7_sheet_r1_c2_33 Ln _ _ _ _  (fun n => absurd n h14) (fun _ => he)) ?_
          have h16 := h16 h14
          obtain ⟨_, h21, r9, I10, rfl, h22⟩ := T_X7_faulted_r1 Ln _ _ _ _ h16
          refine zS1 (fun r he => B_X7_sheet_r1_c2_37 Ln _ _ _ _  h21 rfl he) ?_
          exact ⟨_, B_X7_sheet_r1_c2_42_s1 Ln _ _ _ _ _ , _, _, _, rfl, h22⟩
      · refine zS1 (fun r he => B_X7_sheet_r1_c2_20 Ln _ _ _ _  (fun n => absurd n h11) (fun _ => he)) ?_
        have h13 := h13 h11
        exact TJ_X7_sheet_r1_c2_26  h13
  · refine zS1 (fun r he => B_X7_sheet_r1_c2_4_s1 Ln _ _ _ _ _  (fun n => absurd n h3) (fun _ => he)) ?_
    have h5 := h5 h3
    obtain ⟨_, h23, r11, I12, rfl, h24⟩ := T_X7_faultless_r1 Ln _ _ _ _ h5
    refine zS1 (fun r he => B_X7_sheet_r1_c2_7 Ln _ _ _ _  h23 rfl he) ?_
    exact ⟨_, B_X7_sheet_r1_c2_12_s1 Ln _ _ _ _ _ , _, _, _, rfl, h24⟩
def J_X7_sheet_r1_c3_26 (Ln : Nat) (I A : Nat → Nat → Int32) (v2 : Int32) (v3 : Int32) (Q : Int32 → (Nat → Nat → Int32) → (Nat → Nat → Int32) → Prop) : Prop := ((W_X7_faultless_r1 Ln I A (-2) (fun (r3 : Int32) (I4 : Nat → Nat → Int32) => (Q r3 I4 A))))
set_option maxRecDepth 100000 in
theorem TJ_X7_sheet_r1_c3_26 {Ln : Nat} {I A : Nat → Nat → Int32} {v2 : Int32} {v3 : Int32} {Q : Int32 → (Nat → Nat → Int32) → (Nat → Nat → Int32) → Prop} (h0 : J_X7_sheet_r1_c3_26 Ln I A v2 v3   Q) : zSem 66 26 0 0 [some (.ref 1), some (.int 3), some (.int v2), some (.int v3)] [] (zGs Ln I A) (fun r => ∃ x I1 A1, r = (some (.int x), zGs Ln I1 A1) ∧ Q x I1 A1) := by
  unfold J_X7_sheet_r1_c3_26 at h0
  obtain ⟨_, h1, r3, I4, rfl, h2⟩ := T_X7_faultless_r1 Ln _ _ _ _ h0
  refine zS1 (fun r he => B_X7_sheet_r1_c3_26 Ln _ _ _ _  h1 rfl he) ?_
  exact ⟨_, B_X7_sheet_r1_c3_32_s1 Ln _ _ _ _ _ , _, _, _, rfl, h2⟩
def W_X7_sheet_r1_c3 (Ln : Nat) (I A : Nat → Nat → Int32) (v2 : Int32) (v3 : Int32) (Q : Int32 → (Nat → Nat → Int32) → (Nat → Nat → Int32) → Prop) : Prop := ((W_X7_isSheet Ln I A 3 (fun (r1 : Int32) => (((r1 : Int32) ≠ 0 → ((W_X7_isLane Ln I A v2 (fun (r2 : Int32) => (((r2 : Int32) = 0 → (J_X7_sheet_r1_c3_26 Ln I A v2 v3  Q)) ∧ (¬ ((r2 : Int32) = 0) → (((v3 : Int32) ≤ 60 → (((0 : Int32) ≤ v3 → ((W_X4_renew_r9 Ln I A v2 v3 (fun (I5 : Nat → Nat → Int32) (A6 : Nat → Nat → Int32) => ((W_X7_faultless_r1 Ln I5 A6 1 (fun (r7 : Int32) (I8 : Nat → Nat → Int32) => (Q r7 I8 A6)))))))) ∧ (¬ ((0 : Int32) ≤ v3) → ((W_X7_faulted_r1 Ln I A 4 (fun (r9 : Int32) (I10 : Nat → Nat → Int32) => (Q r9 I10 A))))))) ∧ (¬ ((v3 : Int32) ≤ 60) → (J_X7_sheet_r1_c3_26 Ln I A v2 v3  Q))))))))) ∧ (¬ ((r1 : Int32) ≠ 0) → ((W_X7_faultless_r1 Ln I A (-1) (fun (r11 : Int32) (I12 : Nat → Nat → Int32) => (Q r11 I12 A)))))))))
set_option maxRecDepth 100000 in
theorem T_X7_sheet_r1_c3 (Ln : Nat) (I A : Nat → Nat → Int32) (v2 : Int32) (v3 : Int32) (Q : Int32 → (Nat → Nat → Int32) → (Nat → Nat → Int32) → Prop) (h0 : W_X7_sheet_r1_c3 Ln I A v2 v3 Q) : zSem 66 0 0 0 [some (.ref 1), some (.int 3), some (.int v2), some (.int v3)] [] (zGs Ln I A) (fun r => ∃ x I1 A1, r = (some (.int x), zGs Ln I1 A1) ∧ Q x I1 A1) := by
  unfold W_X7_sheet_r1_c3 at h0
  obtain ⟨_, h1, r1, rfl, h2⟩ := T_X7_isSheet Ln _ _ _ _ h0
  refine zS1 (fun r he => B_X7_sheet_r1_c3_0 Ln _ _ _ _  h1 rfl he) ?_
  obtain ⟨h4, h5⟩ := h2
  by_cases h3 : (r1 : Int32) ≠ 0
  · refine zS1 (fun r he => B_X7_sheet_r1_c3_4_s1 Ln _ _ _ _ _  (fun _ => he) (fun n => absurd h3 n)) ?_
    have h4 := h4 h3
    obtain ⟨_, h6, r2, rfl, h7⟩ := T_X7_isLane Ln _ _ _ _ h4
    refine zS1 (fun r he => B_X7_sheet_r1_c3_13 Ln _ _ _ _  h6 rfl he) ?_
    obtain ⟨h9, h10⟩ := h7
    by_cases h8 : (r2 : Int32) = 0
    · refine zS1 (fun r he => B_X7_sheet_r1_c3_17_s1 Ln _ _ _ _ _  (fun _ => he) (fun n => absurd h8 n)) ?_
      have h9 := h9 h8
      exact TJ_X7_sheet_r1_c3_26  h9
    · refine zS1 (fun r he => B_X7_sheet_r1_c3_17_s1 Ln _ _ _ _ _  (fun n => absurd n h8) (fun _ => he)) ?_
      have h10 := h10 h8
      obtain ⟨h12, h13⟩ := h10
      by_cases h11 : (v3 : Int32) ≤ 60
      · refine zS1 (fun r he => B_X7_sheet_r1_c3_20 Ln _ _ _ _  (fun _ => he) (fun n => absurd h11 n)) ?_
        have h12 := h12 h11
        obtain ⟨h15, h16⟩ := h12
        by_cases h14 : (0 : Int32) ≤ v3
        · refine zS1 (fun r he => B_X7_sheet_r1_c3_33 Ln _ _ _ _  (fun _ => he) (fun n => absurd h14 n)) ?_
          have h15 := h15 h14
          obtain ⟨_, h17, I5, A6, rfl, h18⟩ := T_X4_renew_r9 Ln _ _ _ _ _ h15
          refine zS1 (fun r he => B_X7_sheet_r1_c3_43 Ln _ _ _ _  h17 rfl he) ?_
          obtain ⟨_, h19, r7, I8, rfl, h20⟩ := T_X7_faultless_r1 Ln _ _ _ _ h18
          refine zS1 (fun r he => B_X7_sheet_r1_c3_54 Ln _ _ _ _  h19 rfl he) ?_
          exact ⟨_, B_X7_sheet_r1_c3_59_s1 Ln _ _ _ _ _ , _, _, _, rfl, h20⟩
        · refine zS1 (fun r he => B_X7_sheet_r1_c3_33 Ln _ _ _ _  (fun n => absurd n h14) (fun _ => he)) ?_
          have h16 := h16 h14
          obtain ⟨_, h21, r9, I10, rfl, h22⟩ := T_X7_faulted_r1 Ln _ _ _ _ h16
          refine zS1 (fun r he => B_X7_sheet_r1_c3_37 Ln _ _ _ _  h21 rfl he) ?_
          exact ⟨_, B_X7_sheet_r1_c3_42_s1 Ln _ _ _ _ _ , _, _, _, rfl, h22⟩
      · refine zS1 (fun r he => B_X7_sheet_r1_c3_20 Ln _ _ _ _  (fun n => absurd n h11) (fun _ => he)) ?_
        have h13 := h13 h11
        exact TJ_X7_sheet_r1_c3_26  h13
  · refine zS1 (fun r he => B_X7_sheet_r1_c3_4_s1 Ln _ _ _ _ _  (fun n => absurd n h3) (fun _ => he)) ?_
    have h5 := h5 h3
    obtain ⟨_, h23, r11, I12, rfl, h24⟩ := T_X7_faultless_r1 Ln _ _ _ _ h5
    refine zS1 (fun r he => B_X7_sheet_r1_c3_7 Ln _ _ _ _  h23 rfl he) ?_
    exact ⟨_, B_X7_sheet_r1_c3_12_s1 Ln _ _ _ _ _ , _, _, _, rfl, h24⟩
def W_X7_put_r1_c0 (Ln : Nat) (I A : Nat → Nat → Int32) (v2 : Int32) (v3 : Int32) (Q : Int32 → (Nat → Nat → Int32) → (Nat → Nat → Int32) → Prop) : Prop := ((W_X7_isSheet Ln I A 0 (fun (r1 : Int32) => (((r1 : Int32) ≠ 0 → ((W_X4_faultOfCells_r3 Ln I A (I 3 2) v2 1 (fun (r2 : Int32) => (((r2 : Int32) = 0 → ((W_X4_write_r3 Ln I A v2 v3 (fun (A3 : Nat → Nat → Int32) => ((W_X7_faultless_r1 Ln I A3 1 (fun (r4 : Int32) (I5 : Nat → Nat → Int32) => (Q r4 I5 A3)))))))) ∧ (¬ ((r2 : Int32) = 0) → ((W_X7_faulted_r1 Ln I A r2 (fun (r6 : Int32) (I7 : Nat → Nat → Int32) => (Q r6 I7 A)))))))))) ∧ (¬ ((r1 : Int32) ≠ 0) → ((W_X7_faultless_r1 Ln I A (-1) (fun (r8 : Int32) (I9 : Nat → Nat → Int32) => (Q r8 I9 A)))))))))
set_option maxRecDepth 100000 in
theorem T_X7_put_r1_c0 (Ln : Nat) (I A : Nat → Nat → Int32) (v2 : Int32) (v3 : Int32) (Q : Int32 → (Nat → Nat → Int32) → (Nat → Nat → Int32) → Prop) (h0 : W_X7_put_r1_c0 Ln I A v2 v3 Q) : zSem 68 0 0 0 [some (.ref 1), some (.int 0), some (.int v2), some (.int v3), none] [] (zGs Ln I A) (fun r => ∃ x I1 A1, r = (some (.int x), zGs Ln I1 A1) ∧ Q x I1 A1) := by
  unfold W_X7_put_r1_c0 at h0
  obtain ⟨_, h1, r1, rfl, h2⟩ := T_X7_isSheet Ln _ _ _ _ h0
  refine zS1 (fun r he => B_X7_put_r1_c0_0 Ln _ _ _ _  h1 rfl he) ?_
  obtain ⟨h4, h5⟩ := h2
  by_cases h3 : (r1 : Int32) ≠ 0
  · refine zS1 (fun r he => B_X7_put_r1_c0_4_s1 Ln _ _ _ _ _  (fun _ => he) (fun n => absurd h3 n)) ?_
    have h4 := h4 h3
    obtain ⟨_, h6, r2, rfl, h7⟩ := T_X4_faultOfCells_r3 Ln _ _ _ _ _ _ h4
    refine zS1 (fun r he => B_X7_put_r1_c0_13 Ln _ _ _ _  h6 rfl he) ?_
    obtain ⟨h9, h10⟩ := h7
    by_cases h8 : (r2 : Int32) = 0
    · refine zS1 (fun r he => B_X7_put_r1_c0_33_s1 Ln _ _ _ _ _  (fun _ => he) (fun n => absurd h8 n)) ?_
      have h9 := h9 h8
      obtain ⟨_, h11, A3, rfl, h12⟩ := T_X4_write_r3 Ln _ _ _ _ _ h9
      refine zS1 (fun r he => B_X7_put_r1_c0_47 Ln _ _ _ _ _  h11 rfl he) ?_
      obtain ⟨_, h13, r4, I5, rfl, h14⟩ := T_X7_faultless_r1 Ln _ _ _ _ h12
      refine zS1 (fun r he => B_X7_put_r1_c0_58 Ln _ _ _ _ _  h13 rfl he) ?_
      exact ⟨_, B_X7_put_r1_c0_63_s1 Ln _ _ _ _ _ _ , _, _, _, rfl, h14⟩
    · refine zS1 (fun r he => B_X7_put_r1_c0_33_s1 Ln _ _ _ _ _  (fun n => absurd n h8) (fun _ => he)) ?_
      have h10 := h10 h8
      obtain ⟨_, h15, r6, I7, rfl, h16⟩ := T_X7_faulted_r1 Ln _ _ _ _ h10
      refine zS1 (fun r he => B_X7_put_r1_c0_40 Ln _ _ _ _ _  h15 rfl he) ?_
      exact ⟨_, B_X7_put_r1_c0_46_s1 Ln _ _ _ _ _ _ , _, _, _, rfl, h16⟩
  · refine zS1 (fun r he => B_X7_put_r1_c0_4_s1 Ln _ _ _ _ _  (fun n => absurd n h3) (fun _ => he)) ?_
    have h5 := h5 h3
    obtain ⟨_, h17, r8, I9, rfl, h18⟩ := T_X7_faultless_r1 Ln _ _ _ _ h5
    refine zS1 (fun r he => B_X7_put_r1_c0_7 Ln _ _ _ _  h17 rfl he) ?_
    exact ⟨_, B_X7_put_r1_c0_12_s1 Ln _ _ _ _ _ , _, _, _, rfl, h18⟩
def W_X7_put_r1_c1 (Ln : Nat) (I A : Nat → Nat → Int32) (v2 : Int32) (v3 : Int32) (Q : Int32 → (Nat → Nat → Int32) → (Nat → Nat → Int32) → Prop) : Prop := ((W_X7_isSheet Ln I A 1 (fun (r1 : Int32) => (((r1 : Int32) ≠ 0 → ((W_X4_faultOfCells_r5 Ln I A (I 5 2) v2 1 (fun (r2 : Int32) => (((r2 : Int32) = 0 → ((W_X4_write_r5 Ln I A v2 v3 (fun (A3 : Nat → Nat → Int32) => ((W_X7_faultless_r1 Ln I A3 1 (fun (r4 : Int32) (I5 : Nat → Nat → Int32) => (Q r4 I5 A3)))))))) ∧ (¬ ((r2 : Int32) = 0) → ((W_X7_faulted_r1 Ln I A r2 (fun (r6 : Int32) (I7 : Nat → Nat → Int32) => (Q r6 I7 A)))))))))) ∧ (¬ ((r1 : Int32) ≠ 0) → ((W_X7_faultless_r1 Ln I A (-1) (fun (r8 : Int32) (I9 : Nat → Nat → Int32) => (Q r8 I9 A)))))))))
set_option maxRecDepth 100000 in
theorem T_X7_put_r1_c1 (Ln : Nat) (I A : Nat → Nat → Int32) (v2 : Int32) (v3 : Int32) (Q : Int32 → (Nat → Nat → Int32) → (Nat → Nat → Int32) → Prop) (h0 : W_X7_put_r1_c1 Ln I A v2 v3 Q) : zSem 68 0 0 0 [some (.ref 1), some (.int 1), some (.int v2), some (.int v3), none] [] (zGs Ln I A) (fun r => ∃ x I1 A1, r = (some (.int x), zGs Ln I1 A1) ∧ Q x I1 A1) := by
  unfold W_X7_put_r1_c1 at h0
  obtain ⟨_, h1, r1, rfl, h2⟩ := T_X7_isSheet Ln _ _ _ _ h0
  refine zS1 (fun r he => B_X7_put_r1_c1_0 Ln _ _ _ _  h1 rfl he) ?_
  obtain ⟨h4, h5⟩ := h2
  by_cases h3 : (r1 : Int32) ≠ 0
  · refine zS1 (fun r he => B_X7_put_r1_c1_4_s1 Ln _ _ _ _ _  (fun _ => he) (fun n => absurd h3 n)) ?_
    have h4 := h4 h3
    obtain ⟨_, h6, r2, rfl, h7⟩ := T_X4_faultOfCells_r5 Ln _ _ _ _ _ _ h4
    refine zS1 (fun r he => B_X7_put_r1_c1_13 Ln _ _ _ _  h6 rfl he) ?_
    obtain ⟨h9, h10⟩ := h7
    by_cases h8 : (r2 : Int32) = 0
    · refine zS1 (fun r he => B_X7_put_r1_c1_33_s1 Ln _ _ _ _ _  (fun _ => he) (fun n => absurd h8 n)) ?_
      have h9 := h9 h8
      obtain ⟨_, h11, A3, rfl, h12⟩ := T_X4_write_r5 Ln _ _ _ _ _ h9
      refine zS1 (fun r he => B_X7_put_r1_c1_47 Ln _ _ _ _ _  h11 rfl he) ?_
      obtain ⟨_, h13, r4, I5, rfl, h14⟩ := T_X7_faultless_r1 Ln _ _ _ _ h12
      refine zS1 (fun r he => B_X7_put_r1_c1_58 Ln _ _ _ _ _  h13 rfl he) ?_
      exact ⟨_, B_X7_put_r1_c1_63_s1 Ln _ _ _ _ _ _ , _, _, _, rfl, h14⟩
    · refine zS1 (fun r he => B_X7_put_r1_c1_33_s1 Ln _ _ _ _ _  (fun n => absurd n h8) (fun _ => he)) ?_
      have h10 := h10 h8
      obtain ⟨_, h15, r6, I7, rfl, h16⟩ := T_X7_faulted_r1 Ln _ _ _ _ h10
      refine zS1 (fun r he => B_X7_put_r1_c1_40 Ln _ _ _ _ _  h15 rfl he) ?_
      exact ⟨_, B_X7_put_r1_c1_46_s1 Ln _ _ _ _ _ _ , _, _, _, rfl, h16⟩
  · refine zS1 (fun r he => B_X7_put_r1_c1_4_s1 Ln _ _ _ _ _  (fun n => absurd n h3) (fun _ => he)) ?_
    have h5 := h5 h3
    obtain ⟨_, h17, r8, I9, rfl, h18⟩ := T_X7_faultless_r1 Ln _ _ _ _ h5
    refine zS1 (fun r he => B_X7_put_r1_c1_7 Ln _ _ _ _  h17 rfl he) ?_
    exact ⟨_, B_X7_put_r1_c1_12_s1 Ln _ _ _ _ _ , _, _, _, rfl, h18⟩
def W_X7_put_r1_c2 (Ln : Nat) (I A : Nat → Nat → Int32) (v2 : Int32) (v3 : Int32) (Q : Int32 → (Nat → Nat → Int32) → (Nat → Nat → Int32) → Prop) : Prop := ((W_X7_isSheet Ln I A 2 (fun (r1 : Int32) => (((r1 : Int32) ≠ 0 → ((W_X4_faultOfCells_r7 Ln I A (I 7 2) v2 1 (fun (r2 : Int32) => (((r2 : Int32) = 0 → ((W_X4_write_r7 Ln I A v2 v3 (fun (A3 : Nat → Nat → Int32) => ((W_X7_faultless_r1 Ln I A3 1 (fun (r4 : Int32) (I5 : Nat → Nat → Int32) => (Q r4 I5 A3)))))))) ∧ (¬ ((r2 : Int32) = 0) → ((W_X7_faulted_r1 Ln I A r2 (fun (r6 : Int32) (I7 : Nat → Nat → Int32) => (Q r6 I7 A)))))))))) ∧ (¬ ((r1 : Int32) ≠ 0) → ((W_X7_faultless_r1 Ln I A (-1) (fun (r8 : Int32) (I9 : Nat → Nat → Int32) => (Q r8 I9 A)))))))))
set_option maxRecDepth 100000 in
theorem T_X7_put_r1_c2 (Ln : Nat) (I A : Nat → Nat → Int32) (v2 : Int32) (v3 : Int32) (Q : Int32 → (Nat → Nat → Int32) → (Nat → Nat → Int32) → Prop) (h0 : W_X7_put_r1_c2 Ln I A v2 v3 Q) : zSem 68 0 0 0 [some (.ref 1), some (.int 2), some (.int v2), some (.int v3), none] [] (zGs Ln I A) (fun r => ∃ x I1 A1, r = (some (.int x), zGs Ln I1 A1) ∧ Q x I1 A1) := by
  unfold W_X7_put_r1_c2 at h0
  obtain ⟨_, h1, r1, rfl, h2⟩ := T_X7_isSheet Ln _ _ _ _ h0
  refine zS1 (fun r he => B_X7_put_r1_c2_0 Ln _ _ _ _  h1 rfl he) ?_
  obtain ⟨h4, h5⟩ := h2
  by_cases h3 : (r1 : Int32) ≠ 0
  · refine zS1 (fun r he => B_X7_put_r1_c2_4_s1 Ln _ _ _ _ _  (fun _ => he) (fun n => absurd h3 n)) ?_
    have h4 := h4 h3
    obtain ⟨_, h6, r2, rfl, h7⟩ := T_X4_faultOfCells_r7 Ln _ _ _ _ _ _ h4
    refine zS1 (fun r he => B_X7_put_r1_c2_13 Ln _ _ _ _  h6 rfl he) ?_
    obtain ⟨h9, h10⟩ := h7
    by_cases h8 : (r2 : Int32) = 0
    · refine zS1 (fun r he => B_X7_put_r1_c2_33_s1 Ln _ _ _ _ _  (fun _ => he) (fun n => absurd h8 n)) ?_
      have h9 := h9 h8
      obtain ⟨_, h11, A3, rfl, h12⟩ := T_X4_write_r7 Ln _ _ _ _ _ h9
      refine zS1 (fun r he => B_X7_put_r1_c2_47 Ln _ _ _ _ _  h11 rfl he) ?_
      obtain ⟨_, h13, r4, I5, rfl, h14⟩ := T_X7_faultless_r1 Ln _ _ _ _ h12
      refine zS1 (fun r he => B_X7_put_r1_c2_58 Ln _ _ _ _ _  h13 rfl he) ?_
      exact ⟨_, B_X7_put_r1_c2_63_s1 Ln _ _ _ _ _ _ , _, _, _, rfl, h14⟩
    · refine zS1 (fun r he => B_X7_put_r1_c2_33_s1 Ln _ _ _ _ _  (fun n => absurd n h8) (fun _ => he)) ?_
      have h10 := h10 h8
      obtain ⟨_, h15, r6, I7, rfl, h16⟩ := T_X7_faulted_r1 Ln _ _ _ _ h10
      refine zS1 (fun r he => B_X7_put_r1_c2_40 Ln _ _ _ _ _  h15 rfl he) ?_
      exact ⟨_, B_X7_put_r1_c2_46_s1 Ln _ _ _ _ _ _ , _, _, _, rfl, h16⟩
  · refine zS1 (fun r he => B_X7_put_r1_c2_4_s1 Ln _ _ _ _ _  (fun n => absurd n h3) (fun _ => he)) ?_
    have h5 := h5 h3
    obtain ⟨_, h17, r8, I9, rfl, h18⟩ := T_X7_faultless_r1 Ln _ _ _ _ h5
    refine zS1 (fun r he => B_X7_put_r1_c2_7 Ln _ _ _ _  h17 rfl he) ?_
    exact ⟨_, B_X7_put_r1_c2_12_s1 Ln _ _ _ _ _ , _, _, _, rfl, h18⟩
