/-! what a method asks, by program (wip/whole/gen_wp.py) -/
def SL_X0_become_r11_r10_46 (Ln : Nat) (I : Nat → Nat → Int32) (v2 : Int32) (v3 : Int32) (Q : (Nat → Nat → Int32) → (Nat → Nat → Int32) → Prop) : Int32 × (Nat → Nat → Int32) → Prop
  | (v4, A) => ∀  (j5 : Option Int32), zSem 1 46 0 0 [some (.ref 11), some (.ref 10), some (.int v2), some (.int v3), some (.int v4), (Option.map Value.int j5)] [] (zGs Ln I A) (fun r => ∃ I1 A1, r = (none, zGs Ln I1 A1) ∧ Q I1 A1)
def L_X0_become_r11_r10_46 (Ln : Nat) (I : Nat → Nat → Int32) (v2 : Int32) (v3 : Int32) (Q : (Nat → Nat → Int32) → (Nat → Nat → Int32) → Prop) : Int32 × (Nat → Nat → Int32) → (Int32 × (Nat → Nat → Int32) → Prop) → Prop
  | (v4, A), K46 => ((((I 11 0) : Int32) ≤ v4 → ((W_X0_findComing_r11 Ln I A  (fun (A6 : Nat → Nat → Int32) => ((W_X0_findLoads_r11 Ln I A6  (fun (A7 : Nat → Nat → Int32) => (Q I A7)))))))) ∧ (¬ (((I 11 0) : Int32) ≤ v4) → ((zin (((v2 + 5) + (v4 * 6)) + 1) 60 = true) ∧ (W_X5_kindOf Ln I A (A 10 (((v2 + 5) + (v4 * 6)) + 1).toNatClampNeg) (fun (r8 : Int32) => (∀ x9 : Int32, x9 = (v2 + 5) + (v4 * 6) → ((zin v4 6 = true) ∧ (∀ A10 : Nat → Nat → Int32, A10 = zw A 12 ((v4).toNatClampNeg) r8 → (W_X5_digit_r10 Ln I A10 (x9 + 2) (fun (r11 : Int32) => ((zin v4 6 = true) ∧ (∀ A12 : Nat → Nat → Int32, A12 = zw A10 13 ((v4).toNatClampNeg) r11 → (W_X5_digit_r10 Ln I A12 (x9 + 3) (fun (r13 : Int32) => ((zin v4 6 = true) ∧ (∀ A14 : Nat → Nat → Int32, A14 = zw A12 14 ((v4).toNatClampNeg) r13 → (W_X5_twoDigits_r10 Ln I A14 (x9 + 4) (fun (r15 : Int32) => ((zin v4 6 = true) ∧ (K46 ((v4 + 1), (zw A14 15 ((v4).toNatClampNeg) r15))))))))))))))))))))))
set_option maxRecDepth 100000 in
theorem TL_X0_become_r11_r10_46 {Ln : Nat} {I : Nat → Nat → Int32} {v2 : Int32} {v3 : Int32} {Q : (Nat → Nat → Int32) → (Nat → Nat → Int32) → Prop} : ∀ p, zLoop (L_X0_become_r11_r10_46 Ln I v2 v3  Q) p → SL_X0_become_r11_r10_46 Ln I v2 v3 Q p := by
  refine zLoop.sound (Sem := SL_X0_become_r11_r10_46 Ln I v2 v3 Q) ?_
  rintro ⟨v4, A⟩ K46 hK46 h0
  intro j5
  show zSem 1 46 0 0 [some (.ref 11), some (.ref 10), some (.int v2), some (.int v3), some (.int v4), (Option.map Value.int j5)] [] (zGs Ln I A) (fun r => ∃ I1 A1, r = (none, zGs Ln I1 A1) ∧ Q I1 A1)
  change ((((I 11 0) : Int32) ≤ v4 → ((W_X0_findComing_r11 Ln I A  (fun (A6 : Nat → Nat → Int32) => ((W_X0_findLoads_r11 Ln I A6  (fun (A7 : Nat → Nat → Int32) => (Q I A7)))))))) ∧ (¬ (((I 11 0) : Int32) ≤ v4) → ((zin (((v2 + 5) + (v4 * 6)) + 1) 60 = true) ∧ (W_X5_kindOf Ln I A (A 10 (((v2 + 5) + (v4 * 6)) + 1).toNatClampNeg) (fun (r8 : Int32) => (∀ x9 : Int32, x9 = (v2 + 5) + (v4 * 6) → ((zin v4 6 = true) ∧ (∀ A10 : Nat → Nat → Int32, A10 = zw A 12 ((v4).toNatClampNeg) r8 → (W_X5_digit_r10 Ln I A10 (x9 + 2) (fun (r11 : Int32) => ((zin v4 6 = true) ∧ (∀ A12 : Nat → Nat → Int32, A12 = zw A10 13 ((v4).toNatClampNeg) r11 → (W_X5_digit_r10 Ln I A12 (x9 + 3) (fun (r13 : Int32) => ((zin v4 6 = true) ∧ (∀ A14 : Nat → Nat → Int32, A14 = zw A12 14 ((v4).toNatClampNeg) r13 → (W_X5_twoDigits_r10 Ln I A14 (x9 + 4) (fun (r15 : Int32) => ((zin v4 6 = true) ∧ (K46 ((v4 + 1), (zw A14 15 ((v4).toNatClampNeg) r15)))))))))))))))))))))) at h0
  obtain ⟨h2, h3⟩ := h0
  by_cases h1 : ((I 11 0) : Int32) ≤ v4
  · refine zS1 (fun r he => B_X0_become_r11_r10_46 Ln _ _ _ _ _ j5  (fun _ => he) (fun n => absurd h1 n)) ?_
    have h2 := h2 h1
    obtain ⟨_, h4, A6, rfl, h5⟩ := T_X0_findComing_r11 Ln _ _ _ h2
    refine zS1 (fun r he => B_X0_become_r11_r10_133 Ln _ _ _ _ _ j5  h4 rfl he) ?_
    obtain ⟨_, h6, A7, rfl, h7⟩ := T_X0_findLoads_r11 Ln _ _ _ h5
    refine zS1 (fun r he => B_X0_become_r11_r10_137 Ln _ _ _ _ _ j5  h6 rfl he) ?_
    exact ⟨_, B_X0_become_r11_r10_141 Ln _ _ _ _ _ j5 , _, _, rfl, h7⟩
  · refine zS1 (fun r he => B_X0_become_r11_r10_46 Ln _ _ _ _ _ j5  (fun n => absurd n h1) (fun _ => he)) ?_
    have h3 := h3 h1
    obtain ⟨h8, h9⟩ := h3
    obtain ⟨_, h10, r8, rfl, h11⟩ := T_X5_kindOf Ln _ _ _ _ h9
    refine zS1 (fun r he => B_X0_become_r11_r10_55 Ln _ _ _ _ _ j5 h8 h10 rfl he) ?_
    have h12 := h11 _ rfl
    obtain ⟨h13, h14⟩ := h12
    have h15 := h14 _ rfl
    obtain ⟨_, h16, r11, rfl, h17⟩ := T_X5_digit_r10 Ln _ _ _ _ h15
    refine zS1 (fun r he => B_X0_become_r11_r10_81_s3 Ln _ _ _ _ _ _ _ _ h13 h16 rfl he) ?_
    obtain ⟨h18, h19⟩ := h17
    have h20 := h19 _ rfl
    obtain ⟨_, h21, r13, rfl, h22⟩ := T_X5_digit_r10 Ln _ _ _ _ h20
    refine zS1 (fun r he => B_X0_become_r11_r10_96_s3 Ln _ _ _ _ _ _ _ _ h18 h21 rfl he) ?_
    obtain ⟨h23, h24⟩ := h22
    have h25 := h24 _ rfl
    obtain ⟨_, h26, r15, rfl, h27⟩ := T_X5_twoDigits_r10 Ln _ _ _ _ h25
    refine zS1 (fun r he => B_X0_become_r11_r10_111_s3 Ln _ _ _ _ _ _ _ _ h23 h26 rfl he) ?_
    obtain ⟨h28, h29⟩ := h27
    refine zS1 (fun r he => B_X0_become_r11_r10_126_s3 Ln _ _ _ _ _ _ _ _ h28 he) ?_
    have q := hK46 _ h29
    exact q (some _)
def W_X0_become_r11_r10 (Ln : Nat) (I A : Nat → Nat → Int32) (v2 : Int32) (v3 : Int32) (Q : (Nat → Nat → Int32) → (Nat → Nat → Int32) → Prop) : Prop := ((W_X5_digit_r10 Ln I A (v2 + 1) (fun (r1 : Int32) => ((∀ I2 : Nat → Nat → Int32, I2 = zp I 11 1 r1 → (W_X5_twoDigits_r10 Ln I2 A (v2 + 2) (fun (r3 : Int32) => ((∀ I4 : Nat → Nat → Int32, I4 = zp I2 11 2 r3 → (W_X5_digit_r10 Ln I4 A (v2 + 4) (fun (r5 : Int32) => ((zLoop (L_X0_become_r11_r10_46 Ln (zp (zp I4 11 3 r5) 11 0 ((v3 - 5) / 6)) v2 v3  Q) (0, A))))))))))))))
set_option maxRecDepth 100000 in
theorem T_X0_become_r11_r10 (Ln : Nat) (I A : Nat → Nat → Int32) (v2 : Int32) (v3 : Int32) (Q : (Nat → Nat → Int32) → (Nat → Nat → Int32) → Prop) (h0 : W_X0_become_r11_r10 Ln I A v2 v3 Q) : zSem 1 0 0 0 [some (.ref 11), some (.ref 10), some (.int v2), some (.int v3), none, none] [] (zGs Ln I A) (fun r => ∃ I1 A1, r = (none, zGs Ln I1 A1) ∧ Q I1 A1) := by
  unfold W_X0_become_r11_r10 at h0
  obtain ⟨_, h1, r1, rfl, h2⟩ := T_X5_digit_r10 Ln _ _ _ _ h0
  refine zS1 (fun r he => B_X0_become_r11_r10_0 Ln _ _ _ _  h1 rfl he) ?_
  have h3 := h2 _ rfl
  obtain ⟨_, h4, r3, rfl, h5⟩ := T_X5_twoDigits_r10 Ln _ _ _ _ h3
  refine zS1 (fun r he => B_X0_become_r11_r10_8_s2 Ln _ _ _ _ _  h4 rfl he) ?_
  have h6 := h5 _ rfl
  obtain ⟨_, h7, r5, rfl, h8⟩ := T_X5_digit_r10 Ln _ _ _ _ h6
  refine zS1 (fun r he => B_X0_become_r11_r10_19_s2 Ln _ _ _ _ _  h7 rfl he) ?_
  refine zS1 (fun r he => B_X0_become_r11_r10_30_s2 Ln _ _ _ _ _  he) ?_
  exact TL_X0_become_r11_r10_46  _ h8 none
def W_X4_renew_r3 (Ln : Nat) (I A : Nat → Nat → Int32) (v1 : Int32) (v2 : Int32) (Q : (Nat → Nat → Int32) → (Nat → Nat → Int32) → Prop) : Prop := ((∀ I1 : Nat → Nat → Int32, I1 = zp (zp (zp I 3 1 1) 3 2 v1) 3 3 v2 → (W_J7_fill_53178_r4 Ln I1 A 0 (fun (A2 : Nat → Nat → Int32) => (Q I1 A2)))))
set_option maxRecDepth 100000 in
theorem T_X4_renew_r3 (Ln : Nat) (I A : Nat → Nat → Int32) (v1 : Int32) (v2 : Int32) (Q : (Nat → Nat → Int32) → (Nat → Nat → Int32) → Prop) (h0 : W_X4_renew_r3 Ln I A v1 v2 Q) : zSem 22 0 0 0 [some (.ref 3), some (.int v1), some (.int v2)] [] (zGs Ln I A) (fun r => ∃ I1 A1, r = (none, zGs Ln I1 A1) ∧ Q I1 A1) := by
  unfold W_X4_renew_r3 at h0
  have h1 := h0 _ rfl
  obtain ⟨_, h2, A2, rfl, h3⟩ := T_J7_fill_53178_r4 Ln _ _ _ _ h1
  refine zS1 (fun r he => B_X4_renew_r3_0 Ln _ _ _ _  h2 rfl he) ?_
  exact ⟨_, B_X4_renew_r3_23 Ln _ _ _ _ , _, _, rfl, h3⟩
def W_X4_renew_r5 (Ln : Nat) (I A : Nat → Nat → Int32) (v1 : Int32) (v2 : Int32) (Q : (Nat → Nat → Int32) → (Nat → Nat → Int32) → Prop) : Prop := ((∀ I1 : Nat → Nat → Int32, I1 = zp (zp (zp I 5 1 1) 5 2 v1) 5 3 v2 → (W_J7_fill_53178_r6 Ln I1 A 0 (fun (A2 : Nat → Nat → Int32) => (Q I1 A2)))))
set_option maxRecDepth 100000 in
theorem T_X4_renew_r5 (Ln : Nat) (I A : Nat → Nat → Int32) (v1 : Int32) (v2 : Int32) (Q : (Nat → Nat → Int32) → (Nat → Nat → Int32) → Prop) (h0 : W_X4_renew_r5 Ln I A v1 v2 Q) : zSem 22 0 0 0 [some (.ref 5), some (.int v1), some (.int v2)] [] (zGs Ln I A) (fun r => ∃ I1 A1, r = (none, zGs Ln I1 A1) ∧ Q I1 A1) := by
  unfold W_X4_renew_r5 at h0
  have h1 := h0 _ rfl
  obtain ⟨_, h2, A2, rfl, h3⟩ := T_J7_fill_53178_r6 Ln _ _ _ _ h1
  refine zS1 (fun r he => B_X4_renew_r5_0 Ln _ _ _ _  h2 rfl he) ?_
  exact ⟨_, B_X4_renew_r5_23 Ln _ _ _ _ , _, _, rfl, h3⟩
def W_X4_renew_r7 (Ln : Nat) (I A : Nat → Nat → Int32) (v1 : Int32) (v2 : Int32) (Q : (Nat → Nat → Int32) → (Nat → Nat → Int32) → Prop) : Prop := ((∀ I1 : Nat → Nat → Int32, I1 = zp (zp (zp I 7 1 1) 7 2 v1) 7 3 v2 → (W_J7_fill_53178_r8 Ln I1 A 0 (fun (A2 : Nat → Nat → Int32) => (Q I1 A2)))))
set_option maxRecDepth 100000 in
theorem T_X4_renew_r7 (Ln : Nat) (I A : Nat → Nat → Int32) (v1 : Int32) (v2 : Int32) (Q : (Nat → Nat → Int32) → (Nat → Nat → Int32) → Prop) (h0 : W_X4_renew_r7 Ln I A v1 v2 Q) : zSem 22 0 0 0 [some (.ref 7), some (.int v1), some (.int v2)] [] (zGs Ln I A) (fun r => ∃ I1 A1, r = (none, zGs Ln I1 A1) ∧ Q I1 A1) := by
  unfold W_X4_renew_r7 at h0
  have h1 := h0 _ rfl
  obtain ⟨_, h2, A2, rfl, h3⟩ := T_J7_fill_53178_r8 Ln _ _ _ _ h1
  refine zS1 (fun r he => B_X4_renew_r7_0 Ln _ _ _ _  h2 rfl he) ?_
  exact ⟨_, B_X4_renew_r7_23 Ln _ _ _ _ , _, _, rfl, h3⟩
def W_X4_renew_r9 (Ln : Nat) (I A : Nat → Nat → Int32) (v1 : Int32) (v2 : Int32) (Q : (Nat → Nat → Int32) → (Nat → Nat → Int32) → Prop) : Prop := ((∀ I1 : Nat → Nat → Int32, I1 = zp (zp (zp I 9 1 1) 9 2 v1) 9 3 v2 → (W_J7_fill_53178_r10 Ln I1 A 0 (fun (A2 : Nat → Nat → Int32) => (Q I1 A2)))))
set_option maxRecDepth 100000 in
theorem T_X4_renew_r9 (Ln : Nat) (I A : Nat → Nat → Int32) (v1 : Int32) (v2 : Int32) (Q : (Nat → Nat → Int32) → (Nat → Nat → Int32) → Prop) (h0 : W_X4_renew_r9 Ln I A v1 v2 Q) : zSem 22 0 0 0 [some (.ref 9), some (.int v1), some (.int v2)] [] (zGs Ln I A) (fun r => ∃ I1 A1, r = (none, zGs Ln I1 A1) ∧ Q I1 A1) := by
  unfold W_X4_renew_r9 at h0
  have h1 := h0 _ rfl
  obtain ⟨_, h2, A2, rfl, h3⟩ := T_J7_fill_53178_r10 Ln _ _ _ _ h1
  refine zS1 (fun r he => B_X4_renew_r9_0 Ln _ _ _ _  h2 rfl he) ?_
  exact ⟨_, B_X4_renew_r9_23 Ln _ _ _ _ , _, _, rfl, h3⟩
def W_X0_carries_r11 (Ln : Nat) (I A : Nat → Nat → Int32) (v1 : Int32) (Q : Int32 → Prop) : Prop := ((W_J6_bitCount_0f7a4 Ln I A v1 (fun (r1 : Int32) => ((((I 11 1) : Int32) < r1 → ((Q 0))) ∧ (¬ (((I 11 1) : Int32) < r1) → ((zin v1 64 = true) ∧ (((I 11 2) : Int32) < (A 17 (v1).toNatClampNeg) → ((Q 0))) ∧ (¬ (((I 11 2) : Int32) < (A 17 (v1).toNatClampNeg)) → ((Q 1)))))))))
set_option maxRecDepth 100000 in
theorem T_X0_carries_r11 (Ln : Nat) (I A : Nat → Nat → Int32) (v1 : Int32) (Q : Int32 → Prop) (h0 : W_X0_carries_r11 Ln I A v1 Q) : zSem 8 0 0 0 [some (.ref 11), some (.int v1)] [] (zGs Ln I A) (fun r => ∃ x, r = (some (.int x), zGs Ln I A) ∧ Q x) := by
  unfold W_X0_carries_r11 at h0
  obtain ⟨_, h1, r1, rfl, h2⟩ := T_J6_bitCount_0f7a4 Ln _ _ _ _ h0
  refine zS1 (fun r he => B_X0_carries_r11_0 Ln _ _ _  h1 rfl he) ?_
  obtain ⟨h4, h5⟩ := h2
  by_cases h3 : ((I 11 1) : Int32) < r1
  · refine zS1 (fun r he => B_X0_carries_r11_4_s1 Ln _ _ _ _  (fun _ => he) (fun n => absurd h3 n)) ?_
    have h4 := h4 h3
    refine zS1 (fun r he => B_X0_carries_r11_28 Ln _ _ _  he) ?_
    exact ⟨_, B_X0_carries_r11_29_s1 Ln _ _ _ _  (by decide), _, rfl, h4⟩
  · refine zS1 (fun r he => B_X0_carries_r11_4_s1 Ln _ _ _ _  (fun n => absurd n h3) (fun _ => he)) ?_
    have h5 := h5 h3
    obtain ⟨h6, h7⟩ := h5
    obtain ⟨h9, h10⟩ := h7
    by_cases h8 : ((I 11 2) : Int32) < (A 17 (v1).toNatClampNeg)
    · refine zS1 (fun r he => B_X0_carries_r11_11 Ln _ _ _ h6 (fun _ => he) (fun n => absurd h8 n)) ?_
      have h9 := h9 h8
      refine zS1 (fun r he => B_X0_carries_r11_28 Ln _ _ _  he) ?_
      exact ⟨_, B_X0_carries_r11_29_s1 Ln _ _ _ _  (by decide), _, rfl, h9⟩
    · refine zS1 (fun r he => B_X0_carries_r11_11 Ln _ _ _ h6 (fun n => absurd n h8) (fun _ => he)) ?_
      have h10 := h10 h8
      refine zS1 (fun r he => B_X0_carries_r11_24 Ln _ _ _  he) ?_
      exact ⟨_, B_X0_carries_r11_29_s1 Ln _ _ _ _  (by decide), _, rfl, h10⟩
def SL_X1_cross_r26_3 (Ln : Nat) (I : Nat → Nat → Int32) (v1 : Int32) (v2 : Int32) (Q : (Nat → Nat → Int32) → Prop) : Int32 × (Nat → Nat → Int32) → Prop
  | (v3, A) => ∀  (j4 : Option Int32) (j5 : Option Int32) (j6 : Option Int32) (j7 : Option Int32) (j8 : Option Int32), zSem 12 3 0 0 [some (.ref 26), some (.int v1), some (.int v2), some (.int v3), (Option.map Value.int j4), (Option.map Value.int j5), (Option.map Value.int j6), (Option.map Value.int j7), (Option.map Value.int j8)] [] (zGs Ln I A) (fun r => ∃ A1, r = (none, zGs Ln I A1) ∧ Q A1)
def SL_X1_cross_r26_60 (Ln : Nat) (I : Nat → Nat → Int32) (v1 : Int32) (v2 : Int32) (v3 : Int32) (v4 : Int32) (v5 : Int32) (v6 : Int32) (Q : (Nat → Nat → Int32) → Prop) : Int32 × (Nat → Nat → Int32) → Prop
  | (v7, A) => ∀  (j8 : Option Int32), zSem 12 60 0 0 [some (.ref 26), some (.int v1), some (.int v2), some (.int v3), some (.int v4), some (.int v5), some (.int v6), some (.int v7), (Option.map Value.int j8)] [] (zGs Ln I A) (fun r => ∃ A1, r = (none, zGs Ln I A1) ∧ Q A1)
def L_X1_cross_r26_60 (Ln : Nat) (I : Nat → Nat → Int32) (v1 : Int32) (v2 : Int32) (v3 : Int32) (v4 : Int32) (v5 : Int32) (v6 : Int32) (K3 : Int32 × (Nat → Nat → Int32) → Prop) (Q : (Nat → Nat → Int32) → Prop) : Int32 × (Nat → Nat → Int32) → (Int32 × (Nat → Nat → Int32) → Prop) → Prop
  | (v7, A), K60 => (((v6 : Int32) < v7 → ((K3 ((v3 + (Int32.ofInt (-1))), A)))) ∧ (¬ ((v6 : Int32) < v7) → ((((v7 &&& (v6 ^^^ ((-1)))) : Int32) ≠ 0 → ((K60 ((v7 + 1), A)))) ∧ (¬ (((v7 &&& (v6 ^^^ ((-1)))) : Int32) ≠ 0) → ((W_X0_carries_r11 Ln I A v7 (fun (r5 : Int32) => (((r5 : Int32) ≠ 0 → ((W_J6_bitCount_0f7a4 Ln I A (v5 &&& (v7 ^^^ ((-1)))) (fun (r6 : Int32) => ((zin (v3 ||| v7) 64 = true) ∧ (zin (v3 ||| v7) 64 = true) ∧ ((K60 ((v7 + 1), (zw A 27 ((v3 ||| v7).toNatClampNeg) (if v4 + r6 < A 27 (v3 ||| v7).toNatClampNeg then v4 + r6 else A 27 (v3 ||| v7).toNatClampNeg)))))))))) ∧ (¬ ((r5 : Int32) ≠ 0) → (((K60 ((v7 + 1), A)))))))))))))
set_option maxRecDepth 100000 in
theorem TL_X1_cross_r26_60 {Ln : Nat} {I : Nat → Nat → Int32} {v1 : Int32} {v2 : Int32} {v3 : Int32} {v4 : Int32} {v5 : Int32} {v6 : Int32} {K3 : Int32 × (Nat → Nat → Int32) → Prop} {Q : (Nat → Nat → Int32) → Prop} (hK3 : ∀ p, K3 p → SL_X1_cross_r26_3 Ln I v1 v2 Q p) : ∀ p, zLoop (L_X1_cross_r26_60 Ln I v1 v2 v3 v4 v5 v6 K3 Q) p → SL_X1_cross_r26_60 Ln I v1 v2 v3 v4 v5 v6 Q p := by
  refine zLoop.sound (Sem := SL_X1_cross_r26_60 Ln I v1 v2 v3 v4 v5 v6 Q) ?_
  rintro ⟨v7, A⟩ K60 hK60 h0
  intro j8
  show zSem 12 60 0 0 [some (.ref 26), some (.int v1), some (.int v2), some (.int v3), some (.int v4), some (.int v5), some (.int v6), some (.int v7), (Option.map Value.int j8)] [] (zGs Ln I A) (fun r => ∃ A1, r = (none, zGs Ln I A1) ∧ Q A1)
  change (((v6 : Int32) < v7 → ((K3 ((v3 + (Int32.ofInt (-1))), A)))) ∧ (¬ ((v6 : Int32) < v7) → ((((v7 &&& (v6 ^^^ ((-1)))) : Int32) ≠ 0 → ((K60 ((v7 + 1), A)))) ∧ (¬ (((v7 &&& (v6 ^^^ ((-1)))) : Int32) ≠ 0) → ((W_X0_carries_r11 Ln I A v7 (fun (r5 : Int32) => (((r5 : Int32) ≠ 0 → ((W_J6_bitCount_0f7a4 Ln I A (v5 &&& (v7 ^^^ ((-1)))) (fun (r6 : Int32) => ((zin (v3 ||| v7) 64 = true) ∧ (zin (v3 ||| v7) 64 = true) ∧ ((K60 ((v7 + 1), (zw A 27 ((v3 ||| v7).toNatClampNeg) (if v4 + r6 < A 27 (v3 ||| v7).toNatClampNeg then v4 + r6 else A 27 (v3 ||| v7).toNatClampNeg)))))))))) ∧ (¬ ((r5 : Int32) ≠ 0) → (((K60 ((v7 + 1), A))))))))))))) at h0
  obtain ⟨h2, h3⟩ := h0
  by_cases h1 : (v6 : Int32) < v7
  · refine zS1 (fun r he => B_X1_cross_r26_60 Ln _ _ _ _ _ _ _ _ _ j8  (fun _ => he) (fun n => absurd h1 n)) ?_
    have h2 := h2 h1
    refine zS1 (fun r he => B_X1_cross_r26_136 Ln _ _ _ _ _ _ (some _) (some _) (some _) j8  he) ?_
    have q := hK3 _ h2
    exact q (some _) (some _) (some _) (some _) j8
  · refine zS1 (fun r he => B_X1_cross_r26_60 Ln _ _ _ _ _ _ _ _ _ j8  (fun n => absurd n h1) (fun _ => he)) ?_
    have h3 := h3 h1
    obtain ⟨h5, h6⟩ := h3
    by_cases h4 : ((v7 &&& (v6 ^^^ ((-1)))) : Int32) ≠ 0
    · refine zS1 (fun r he => B_X1_cross_r26_67 Ln _ _ _ _ _ _ _ _ _ j8  (fun _ => he) (fun n => absurd h4 n)) ?_
      have h5 := h5 h4
      refine zS1 (fun r he => B_X1_cross_r26_130 Ln _ _ _ _ _ _ _ _ _ j8  he) ?_
      have q := hK60 _ h5
      exact q j8
    · refine zS1 (fun r he => B_X1_cross_r26_67 Ln _ _ _ _ _ _ _ _ _ j8  (fun n => absurd n h4) (fun _ => he)) ?_
      have h6 := h6 h4
      obtain ⟨_, h7, r5, rfl, h8⟩ := T_X0_carries_r11 Ln _ _ _ _ h6
      refine zS1 (fun r he => B_X1_cross_r26_77 Ln _ _ _ _ _ _ _ _ _ j8  h7 rfl he) ?_
      obtain ⟨h10, h11⟩ := h8
      by_cases h9 : (r5 : Int32) ≠ 0
      · refine zS1 (fun r he => B_X1_cross_r26_86_s1 Ln _ _ _ _ _ _ _ _ _ j8 _  (fun _ => he) (fun n => absurd h9 n)) ?_
        have h10 := h10 h9
        obtain ⟨_, h12, r6, rfl, h13⟩ := T_J6_bitCount_0f7a4 Ln _ _ _ _ h10
        refine zS1 (fun r he => B_X1_cross_r26_92 Ln _ _ _ _ _ _ _ _ _ j8  h12 rfl he) ?_
        obtain ⟨h14, h15⟩ := h13
        obtain ⟨h16, h17⟩ := h15
        refine zS1 (fun r he => B_X1_cross_r26_104_s2 Ln _ _ _ _ _ _ _ _ _ j8 _ _ h14 h16 he) ?_
        refine zS1 (fun r he => B_X1_cross_r26_130 Ln _ _ _ _ _ _ _ _ _ (some _)  he) ?_
        have q := hK60 _ h17
        exact q (some _)
      · refine zS1 (fun r he => B_X1_cross_r26_86_s1 Ln _ _ _ _ _ _ _ _ _ j8 _  (fun n => absurd n h9) (fun _ => he)) ?_
        have h11 := h11 h9
        refine zS1 (fun r he => B_X1_cross_r26_89 Ln _ _ _ _ _ _ _ _ _ j8  he) ?_
        refine zS1 (fun r he => B_X1_cross_r26_130 Ln _ _ _ _ _ _ _ _ _ j8  he) ?_
        have q := hK60 _ h11
        exact q j8
def L_X1_cross_r26_3 (Ln : Nat) (I : Nat → Nat → Int32) (v1 : Int32) (v2 : Int32) (Q : (Nat → Nat → Int32) → Prop) : Int32 × (Nat → Nat → Int32) → (Int32 × (Nat → Nat → Int32) → Prop) → Prop
  | (v3, A), K3 => (((v3 : Int32) < 0 → (Q A)) ∧ (¬ ((v3 : Int32) < 0) → ((zin v3 64 = true) ∧ (((A 27 (v3).toNatClampNeg) : Int32) ≠ 1000 → (∀ x1 : Int32, x1 = A 27 (v3).toNatClampNeg → ((zin v3 64 = true) ∧ ((((v1 &&& (v3 ^^^ ((-1)))) &&& v2) : Int32) ≠ 0 → (∀ x2 : Int32, x2 = v1 &&& (v3 ^^^ ((-1))) → (∀ x3 : Int32, x3 = (v1 &&& (v3 ^^^ ((-1)))) &&& v2 → (∀ A4 : Nat → Nat → Int32, A4 = zw A 27 ((v3).toNatClampNeg) 1000 → (((zLoop (L_X1_cross_r26_60 Ln I v1 v2 v3 x1 x2 x3 K3 Q) (1, A4)))))))) ∧ (¬ ((((v1 &&& (v3 ^^^ ((-1)))) &&& v2) : Int32) ≠ 0) → (∀ x7 : Int32, x7 = v1 &&& (v3 ^^^ ((-1))) → (∀ x8 : Int32, x8 = (v1 &&& (v3 ^^^ ((-1)))) &&& v2 → (∀ A9 : Nat → Nat → Int32, A9 = zw A 27 ((v3).toNatClampNeg) 1000 → (((zLoop (L_X1_cross_r26_60 Ln I v1 v2 v3 x1 x7 x8 K3 Q) (0, A9))))))))))) ∧ (¬ (((A 27 (v3).toNatClampNeg) : Int32) ≠ 1000) → (∀ x10 : Int32, x10 = A 27 (v3).toNatClampNeg → (((K3 ((v3 + (Int32.ofInt (-1))), A)))))))))
set_option maxRecDepth 100000 in
theorem TL_X1_cross_r26_3 {Ln : Nat} {I : Nat → Nat → Int32} {v1 : Int32} {v2 : Int32} {Q : (Nat → Nat → Int32) → Prop} : ∀ p, zLoop (L_X1_cross_r26_3 Ln I v1 v2  Q) p → SL_X1_cross_r26_3 Ln I v1 v2 Q p := by
  refine zLoop.sound (Sem := SL_X1_cross_r26_3 Ln I v1 v2 Q) ?_
  rintro ⟨v3, A⟩ K3 hK3 h0
  intro j4 j5 j6 j7 j8
  show zSem 12 3 0 0 [some (.ref 26), some (.int v1), some (.int v2), some (.int v3), (Option.map Value.int j4), (Option.map Value.int j5), (Option.map Value.int j6), (Option.map Value.int j7), (Option.map Value.int j8)] [] (zGs Ln I A) (fun r => ∃ A1, r = (none, zGs Ln I A1) ∧ Q A1)
  change (((v3 : Int32) < 0 → (Q A)) ∧ (¬ ((v3 : Int32) < 0) → ((zin v3 64 = true) ∧ (((A 27 (v3).toNatClampNeg) : Int32) ≠ 1000 → (∀ x1 : Int32, x1 = A 27 (v3).toNatClampNeg → ((zin v3 64 = true) ∧ ((((v1 &&& (v3 ^^^ ((-1)))) &&& v2) : Int32) ≠ 0 → (∀ x2 : Int32, x2 = v1 &&& (v3 ^^^ ((-1))) → (∀ x3 : Int32, x3 = (v1 &&& (v3 ^^^ ((-1)))) &&& v2 → (∀ A4 : Nat → Nat → Int32, A4 = zw A 27 ((v3).toNatClampNeg) 1000 → (((zLoop (L_X1_cross_r26_60 Ln I v1 v2 v3 x1 x2 x3 K3 Q) (1, A4)))))))) ∧ (¬ ((((v1 &&& (v3 ^^^ ((-1)))) &&& v2) : Int32) ≠ 0) → (∀ x7 : Int32, x7 = v1 &&& (v3 ^^^ ((-1))) → (∀ x8 : Int32, x8 = (v1 &&& (v3 ^^^ ((-1)))) &&& v2 → (∀ A9 : Nat → Nat → Int32, A9 = zw A 27 ((v3).toNatClampNeg) 1000 → (((zLoop (L_X1_cross_r26_60 Ln I v1 v2 v3 x1 x7 x8 K3 Q) (0, A9))))))))))) ∧ (¬ (((A 27 (v3).toNatClampNeg) : Int32) ≠ 1000) → (∀ x10 : Int32, x10 = A 27 (v3).toNatClampNeg → (((K3 ((v3 + (Int32.ofInt (-1))), A))))))))) at h0
  obtain ⟨h2, h3⟩ := h0
  by_cases h1 : (v3 : Int32) < 0
  · refine zS1 (fun r he => B_X1_cross_r26_3 Ln _ _ _ _ _ j4 j5 j6 j7 j8  (fun _ => he) (fun n => absurd h1 n)) ?_
    have h2 := h2 h1
    exact ⟨_, B_X1_cross_r26_142 Ln _ _ _ _ _ j4 j5 j6 j7 j8 , _, rfl, h2⟩
  · refine zS1 (fun r he => B_X1_cross_r26_3 Ln _ _ _ _ _ j4 j5 j6 j7 j8  (fun n => absurd n h1) (fun _ => he)) ?_
    have h3 := h3 h1
    obtain ⟨h4, h5⟩ := h3
    obtain ⟨h7, h8⟩ := h5
    by_cases h6 : ((A 27 (v3).toNatClampNeg) : Int32) ≠ 1000
    · refine zS1 (fun r he => B_X1_cross_r26_7 Ln _ _ _ _ _ j4 j5 j6 j7 j8 h4 (fun _ => he) (fun n => absurd h6 n)) ?_
      have h7 := h7 h6
      have h9 := h7 _ rfl
      obtain ⟨h10, h11⟩ := h9
      obtain ⟨h13, h14⟩ := h11
      by_cases h12 : (((v1 &&& (v3 ^^^ ((-1)))) &&& v2) : Int32) ≠ 0
      · refine zS1 (fun r he => B_X1_cross_r26_26 Ln _ _ _ _ _ _ j5 j6 j7 j8 h10 (fun _ => he) (fun n => absurd h12 n)) ?_
        have h13 := h13 h12
        have h15 := h13 _ rfl
        have h16 := h15 _ rfl
        have h17 := h16 _ rfl
        refine zS1 (fun r he => B_X1_cross_r26_57 Ln _ _ _ _ _ _ _ _ j7 j8  he) ?_
        refine zS1 (fun r he => B_X1_cross_r26_58_s1 Ln _ _ _ _ _ _ _ _ j7 j8 _  he) ?_
        exact TL_X1_cross_r26_60 hK3 _ h17 j8
      · refine zS1 (fun r he => B_X1_cross_r26_26 Ln _ _ _ _ _ _ j5 j6 j7 j8 h10 (fun n => absurd n h12) (fun _ => he)) ?_
        have h14 := h14 h12
        have h18 := h14 _ rfl
        have h19 := h18 _ rfl
        have h20 := h19 _ rfl
        refine zS1 (fun r he => B_X1_cross_r26_53 Ln _ _ _ _ _ _ _ _ j7 j8  he) ?_
        refine zS1 (fun r he => B_X1_cross_r26_58_s1 Ln _ _ _ _ _ _ _ _ j7 j8 _  he) ?_
        exact TL_X1_cross_r26_60 hK3 _ h20 j8
    · refine zS1 (fun r he => B_X1_cross_r26_7 Ln _ _ _ _ _ j4 j5 j6 j7 j8 h4 (fun n => absurd n h6) (fun _ => he)) ?_
      have h8 := h8 h6
      have h21 := h8 _ rfl
      refine zS1 (fun r he => B_X1_cross_r26_23 Ln _ _ _ _ _ _ j5 j6 j7 j8  he) ?_
      refine zS1 (fun r he => B_X1_cross_r26_136 Ln _ _ _ _ _ _ j5 j6 j7 j8  he) ?_
      have q := hK3 _ h21
      exact q (some _) j5 j6 j7 j8
def W_X1_cross_r26 (Ln : Nat) (I A : Nat → Nat → Int32) (v1 : Int32) (v2 : Int32) (Q : (Nat → Nat → Int32) → Prop) : Prop := ((zLoop (L_X1_cross_r26_3 Ln I v1 v2  Q) (63, A)))
set_option maxRecDepth 100000 in
theorem T_X1_cross_r26 (Ln : Nat) (I A : Nat → Nat → Int32) (v1 : Int32) (v2 : Int32) (Q : (Nat → Nat → Int32) → Prop) (h0 : W_X1_cross_r26 Ln I A v1 v2 Q) : zSem 12 0 0 0 [some (.ref 26), some (.int v1), some (.int v2), none, none, none, none, none, none] [] (zGs Ln I A) (fun r => ∃ A1, r = (none, zGs Ln I A1) ∧ Q A1) := by
  unfold W_X1_cross_r26 at h0
  refine zS1 (fun r he => B_X1_cross_r26_0 Ln _ _ _ _  he) ?_
  exact TL_X1_cross_r26_3  _ h0 none none none none none
def SL_X6_lineUp_r35_r42_2 (Ln : Nat) (I : Nat → Nat → Int32) (v2 : Int32) (Q : (Nat → Nat → Int32) → Prop) : Int32 × (Nat → Nat → Int32) → Prop
  | (v3, A) => ∀  (j4 : Option Int32), zSem 36 2 0 0 [some (.ref 35), some (.ref 42), some (.int v2), some (.int v3), (Option.map Value.int j4)] [] (zGs Ln I A) (fun r => ∃ A1, r = (none, zGs Ln I A1) ∧ Q A1)
def SL_X6_lineUp_r35_r42_16 (Ln : Nat) (I : Nat → Nat → Int32) (v2 : Int32) (v3 : Int32) (Q : (Nat → Nat → Int32) → Prop) : Int32 × (Nat → Nat → Int32) → Prop
  | (v4, A) => zSem 36 16 0 0 [some (.ref 35), some (.ref 42), some (.int v2), some (.int v3), some (.int v4)] [] (zGs Ln I A) (fun r => ∃ A1, r = (none, zGs Ln I A1) ∧ Q A1)
def L_X6_lineUp_r35_r42_16 (Ln : Nat) (I : Nat → Nat → Int32) (v2 : Int32) (v3 : Int32) (K2 : Int32 × (Nat → Nat → Int32) → Prop) (Q : (Nat → Nat → Int32) → Prop) : Int32 × (Nat → Nat → Int32) → (Int32 × (Nat → Nat → Int32) → Prop) → Prop
  | (v4, A), K16 => (((v4 : Int32) ≤ 0 → ((zin v4 6 = true) ∧ (K2 ((v3 + 1), (zw A 40 ((v4).toNatClampNeg) v3))))) ∧ (¬ ((v4 : Int32) ≤ 0) → ((zin (v4 - 1) 6 = true) ∧ (W_X6_rank_r35_r42 Ln I A (A 40 (v4 - 1).toNatClampNeg) v2 (fun (r1 : Int32) => ((W_X6_rank_r35_r42 Ln I A v3 v2 (fun (r2 : Int32) => (((r1 : Int32) ≤ r2 → ((zin v4 6 = true) ∧ (K2 ((v3 + 1), (zw A 40 ((v4).toNatClampNeg) v3))))) ∧ (¬ ((r1 : Int32) ≤ r2) → ((zin (v4 - 1) 6 = true) ∧ (zin v4 6 = true) ∧ (K16 ((v4 + (Int32.ofInt (-1))), (zw A 40 ((v4).toNatClampNeg) (A 40 (v4 - 1).toNatClampNeg)))))))))))))))
set_option maxRecDepth 100000 in
theorem TL_X6_lineUp_r35_r42_16 {Ln : Nat} {I : Nat → Nat → Int32} {v2 : Int32} {v3 : Int32} {K2 : Int32 × (Nat → Nat → Int32) → Prop} {Q : (Nat → Nat → Int32) → Prop} (hK2 : ∀ p, K2 p → SL_X6_lineUp_r35_r42_2 Ln I v2 Q p) : ∀ p, zLoop (L_X6_lineUp_r35_r42_16 Ln I v2 v3 K2 Q) p → SL_X6_lineUp_r35_r42_16 Ln I v2 v3 Q p := by
  refine zLoop.sound (Sem := SL_X6_lineUp_r35_r42_16 Ln I v2 v3 Q) ?_
  rintro ⟨v4, A⟩ K16 hK16 h0
  show zSem 36 16 0 0 [some (.ref 35), some (.ref 42), some (.int v2), some (.int v3), some (.int v4)] [] (zGs Ln I A) (fun r => ∃ A1, r = (none, zGs Ln I A1) ∧ Q A1)
  change (((v4 : Int32) ≤ 0 → ((zin v4 6 = true) ∧ (K2 ((v3 + 1), (zw A 40 ((v4).toNatClampNeg) v3))))) ∧ (¬ ((v4 : Int32) ≤ 0) → ((zin (v4 - 1) 6 = true) ∧ (W_X6_rank_r35_r42 Ln I A (A 40 (v4 - 1).toNatClampNeg) v2 (fun (r1 : Int32) => ((W_X6_rank_r35_r42 Ln I A v3 v2 (fun (r2 : Int32) => (((r1 : Int32) ≤ r2 → ((zin v4 6 = true) ∧ (K2 ((v3 + 1), (zw A 40 ((v4).toNatClampNeg) v3))))) ∧ (¬ ((r1 : Int32) ≤ r2) → ((zin (v4 - 1) 6 = true) ∧ (zin v4 6 = true) ∧ (K16 ((v4 + (Int32.ofInt (-1))), (zw A 40 ((v4).toNatClampNeg) (A 40 (v4 - 1).toNatClampNeg))))))))))))))) at h0
  obtain ⟨h2, h3⟩ := h0
  by_cases h1 : (v4 : Int32) ≤ 0
  · refine zS1 (fun r he => B_X6_lineUp_r35_r42_16 Ln _ _ _ _ _  (fun _ => he) (fun n => absurd h1 n)) ?_
    have h2 := h2 h1
    obtain ⟨h4, h5⟩ := h2
    refine zS1 (fun r he => B_X6_lineUp_r35_r42_68 Ln _ _ _ _ _ h4 he) ?_
    have q := hK2 _ h5
    exact q (some _)
  · refine zS1 (fun r he => B_X6_lineUp_r35_r42_16 Ln _ _ _ _ _  (fun n => absurd n h1) (fun _ => he)) ?_
    have h3 := h3 h1
    obtain ⟨h6, h7⟩ := h3
    obtain ⟨_, h8, r1, rfl, h9⟩ := T_X6_rank_r35_r42 Ln _ _ _ _ _ h7
    refine zS1 (fun r he => B_X6_lineUp_r35_r42_21 Ln _ _ _ _ _ h6 h8 rfl he) ?_
    obtain ⟨_, h10, r2, rfl, h11⟩ := T_X6_rank_r35_r42 Ln _ _ _ _ _ h9
    refine zS1 (fun r he => B_X6_lineUp_r35_r42_36_s1 Ln _ _ _ _ _ _  h10 rfl he) ?_
    obtain ⟨h13, h14⟩ := h11
    by_cases h12 : (r1 : Int32) ≤ r2
    · refine zS1 (fun r he => B_X6_lineUp_r35_r42_43_s2 Ln _ _ _ _ _ _ _  (fun _ => he) (fun n => absurd h12 n)) ?_
      have h13 := h13 h12
      obtain ⟨h15, h16⟩ := h13
      refine zS1 (fun r he => B_X6_lineUp_r35_r42_68 Ln _ _ _ _ _ h15 he) ?_
      have q := hK2 _ h16
      exact q (some _)
    · refine zS1 (fun r he => B_X6_lineUp_r35_r42_43_s2 Ln _ _ _ _ _ _ _  (fun n => absurd n h12) (fun _ => he)) ?_
      have h14 := h14 h12
      obtain ⟨h17, h18⟩ := h14
      obtain ⟨h19, h20⟩ := h18
      refine zS1 (fun r he => B_X6_lineUp_r35_r42_46 Ln _ _ _ _ _ h17 h19 he) ?_
      have q := hK16 _ h20
      exact q
def L_X6_lineUp_r35_r42_2 (Ln : Nat) (I : Nat → Nat → Int32) (v2 : Int32) (Q : (Nat → Nat → Int32) → Prop) : Int32 × (Nat → Nat → Int32) → (Int32 × (Nat → Nat → Int32) → Prop) → Prop
  | (v3, A), K2 => ((((I 11 0) : Int32) ≤ v3 → (Q A)) ∧ (¬ (((I 11 0) : Int32) ≤ v3) → ((zLoop (L_X6_lineUp_r35_r42_16 Ln I v2 v3 K2 Q) (v3, A)))))
set_option maxRecDepth 100000 in
theorem TL_X6_lineUp_r35_r42_2 {Ln : Nat} {I : Nat → Nat → Int32} {v2 : Int32} {Q : (Nat → Nat → Int32) → Prop} : ∀ p, zLoop (L_X6_lineUp_r35_r42_2 Ln I v2  Q) p → SL_X6_lineUp_r35_r42_2 Ln I v2 Q p := by
  refine zLoop.sound (Sem := SL_X6_lineUp_r35_r42_2 Ln I v2 Q) ?_
  rintro ⟨v3, A⟩ K2 hK2 h0
  intro j4
  show zSem 36 2 0 0 [some (.ref 35), some (.ref 42), some (.int v2), some (.int v3), (Option.map Value.int j4)] [] (zGs Ln I A) (fun r => ∃ A1, r = (none, zGs Ln I A1) ∧ Q A1)
  change ((((I 11 0) : Int32) ≤ v3 → (Q A)) ∧ (¬ (((I 11 0) : Int32) ≤ v3) → ((zLoop (L_X6_lineUp_r35_r42_16 Ln I v2 v3 K2 Q) (v3, A))))) at h0
  obtain ⟨h2, h3⟩ := h0
  by_cases h1 : ((I 11 0) : Int32) ≤ v3
  · refine zS1 (fun r he => B_X6_lineUp_r35_r42_2 Ln _ _ _ _ j4  (fun _ => he) (fun n => absurd h1 n)) ?_
    have h2 := h2 h1
    exact ⟨_, B_X6_lineUp_r35_r42_82 Ln _ _ _ _ j4 , _, rfl, h2⟩
  · refine zS1 (fun r he => B_X6_lineUp_r35_r42_2 Ln _ _ _ _ j4  (fun n => absurd n h1) (fun _ => he)) ?_
    have h3 := h3 h1
    refine zS1 (fun r he => B_X6_lineUp_r35_r42_13 Ln _ _ _ _ j4  he) ?_
    exact TL_X6_lineUp_r35_r42_16 hK2 _ h3
def W_X6_lineUp_r35_r42 (Ln : Nat) (I A : Nat → Nat → Int32) (v2 : Int32) (Q : (Nat → Nat → Int32) → Prop) : Prop := ((zLoop (L_X6_lineUp_r35_r42_2 Ln I v2  Q) (0, A)))
set_option maxRecDepth 100000 in
theorem T_X6_lineUp_r35_r42 (Ln : Nat) (I A : Nat → Nat → Int32) (v2 : Int32) (Q : (Nat → Nat → Int32) → Prop) (h0 : W_X6_lineUp_r35_r42 Ln I A v2 Q) : zSem 36 0 0 0 [some (.ref 35), some (.ref 42), some (.int v2), none, none] [] (zGs Ln I A) (fun r => ∃ A1, r = (none, zGs Ln I A1) ∧ Q A1) := by
  unfold W_X6_lineUp_r35_r42 at h0
  refine zS1 (fun r he => B_X6_lineUp_r35_r42_0 Ln _ _ _  he) ?_
  exact TL_X6_lineUp_r35_r42_2  _ h0 none
def SL_X6_seat_r35_4 (Ln : Nat) (I A : Nat → Nat → Int32) (v1 : Int32) (Q : Int32 → Prop) : Int32 × Int32 → Prop
  | (v2, v3) => ∀  (j4 : Option Int32), zSem 39 4 0 0 [some (.ref 35), some (.int v1), some (.int v2), some (.int v3), (Option.map Value.int j4)] [] (zGs Ln I A) (fun r => ∃ x, r = (some (.int x), zGs Ln I A) ∧ Q x)
def L_X6_seat_r35_4 (Ln : Nat) (I A : Nat → Nat → Int32) (v1 : Int32) (Q : Int32 → Prop) : Int32 × Int32 → (Int32 × Int32 → Prop) → Prop
  | (v2, v3), K4 => ((((I 11 0) : Int32) ≤ v3 → (Q v2)) ∧ (¬ (((I 11 0) : Int32) ≤ v3) → ((zin v3 6 = true) ∧ (W_X0_carries_r11 Ln I A (v2 ||| (v1 &&& (1 <<< ((A 40 (v3).toNatClampNeg) &&& 31)))) (fun (r1 : Int32) => (∀ x2 : Int32, x2 = v1 &&& (1 <<< ((A 40 (v3).toNatClampNeg) &&& 31)) → (((r1 : Int32) = 0 → ((K4 (v2, (v3 + 1))))) ∧ (¬ ((r1 : Int32) = 0) → (((K4 ((v2 ||| x2), (v3 + 1)))))))))))))
set_option maxRecDepth 100000 in
theorem TL_X6_seat_r35_4 {Ln : Nat} {I A : Nat → Nat → Int32} {v1 : Int32} {Q : Int32 → Prop} : ∀ p, zLoop (L_X6_seat_r35_4 Ln I A v1  Q) p → SL_X6_seat_r35_4 Ln I A v1 Q p := by
  refine zLoop.sound (Sem := SL_X6_seat_r35_4 Ln I A v1 Q) ?_
  rintro ⟨v2, v3⟩ K4 hK4 h0
  intro j4
  show zSem 39 4 0 0 [some (.ref 35), some (.int v1), some (.int v2), some (.int v3), (Option.map Value.int j4)] [] (zGs Ln I A) (fun r => ∃ x, r = (some (.int x), zGs Ln I A) ∧ Q x)
  change ((((I 11 0) : Int32) ≤ v3 → (Q v2)) ∧ (¬ (((I 11 0) : Int32) ≤ v3) → ((zin v3 6 = true) ∧ (W_X0_carries_r11 Ln I A (v2 ||| (v1 &&& (1 <<< ((A 40 (v3).toNatClampNeg) &&& 31)))) (fun (r1 : Int32) => (∀ x2 : Int32, x2 = v1 &&& (1 <<< ((A 40 (v3).toNatClampNeg) &&& 31)) → (((r1 : Int32) = 0 → ((K4 (v2, (v3 + 1))))) ∧ (¬ ((r1 : Int32) = 0) → (((K4 ((v2 ||| x2), (v3 + 1))))))))))))) at h0
  obtain ⟨h2, h3⟩ := h0
  by_cases h1 : ((I 11 0) : Int32) ≤ v3
  · refine zS1 (fun r he => B_X6_seat_r35_4 Ln _ _ _ _ _ j4  (fun _ => he) (fun n => absurd h1 n)) ?_
    have h2 := h2 h1
    exact ⟨_, B_X6_seat_r35_52 Ln _ _ _ _ _ j4 , _, rfl, h2⟩
  · refine zS1 (fun r he => B_X6_seat_r35_4 Ln _ _ _ _ _ j4  (fun n => absurd n h1) (fun _ => he)) ?_
    have h3 := h3 h1
    obtain ⟨h4, h5⟩ := h3
    obtain ⟨_, h6, r1, rfl, h7⟩ := T_X0_carries_r11 Ln _ _ _ _ h5
    refine zS1 (fun r he => B_X6_seat_r35_15 Ln _ _ _ _ _ j4 h4 h6 rfl he) ?_
    have h8 := h7 _ rfl
    obtain ⟨h10, h11⟩ := h8
    by_cases h9 : (r1 : Int32) = 0
    · refine zS1 (fun r he => B_X6_seat_r35_38_s1 Ln _ _ _ _ _ _ _  (fun _ => he) (fun n => absurd h9 n)) ?_
      have h10 := h10 h9
      refine zS1 (fun r he => B_X6_seat_r35_46 Ln _ _ _ _ _ _  he) ?_
      have q := hK4 _ h10
      exact q (some _)
    · refine zS1 (fun r he => B_X6_seat_r35_38_s1 Ln _ _ _ _ _ _ _  (fun n => absurd n h9) (fun _ => he)) ?_
      have h11 := h11 h9
      refine zS1 (fun r he => B_X6_seat_r35_41 Ln _ _ _ _ _ _  he) ?_
      refine zS1 (fun r he => B_X6_seat_r35_46 Ln _ _ _ _ _ _  he) ?_
      have q := hK4 _ h11
      exact q (some _)
def W_X6_seat_r35 (Ln : Nat) (I A : Nat → Nat → Int32) (v1 : Int32) (Q : Int32 → Prop) : Prop := ((zLoop (L_X6_seat_r35_4 Ln I A v1  Q) (0, 0)))
set_option maxRecDepth 100000 in
theorem T_X6_seat_r35 (Ln : Nat) (I A : Nat → Nat → Int32) (v1 : Int32) (Q : Int32 → Prop) (h0 : W_X6_seat_r35 Ln I A v1 Q) : zSem 39 0 0 0 [some (.ref 35), some (.int v1), none, none, none] [] (zGs Ln I A) (fun r => ∃ x, r = (some (.int x), zGs Ln I A) ∧ Q x) := by
  unfold W_X6_seat_r35 at h0
  refine zS1 (fun r he => B_X6_seat_r35_0 Ln _ _ _  he) ?_
  exact TL_X6_seat_r35_4  _ h0 none
def SL_X6_lineUp_r35_r43_2 (Ln : Nat) (I : Nat → Nat → Int32) (v2 : Int32) (Q : (Nat → Nat → Int32) → Prop) : Int32 × (Nat → Nat → Int32) → Prop
  | (v3, A) => ∀  (j4 : Option Int32), zSem 36 2 0 0 [some (.ref 35), some (.ref 43), some (.int v2), some (.int v3), (Option.map Value.int j4)] [] (zGs Ln I A) (fun r => ∃ A1, r = (none, zGs Ln I A1) ∧ Q A1)
def SL_X6_lineUp_r35_r43_16 (Ln : Nat) (I : Nat → Nat → Int32) (v2 : Int32) (v3 : Int32) (Q : (Nat → Nat → Int32) → Prop) : Int32 × (Nat → Nat → Int32) → Prop
  | (v4, A) => zSem 36 16 0 0 [some (.ref 35), some (.ref 43), some (.int v2), some (.int v3), some (.int v4)] [] (zGs Ln I A) (fun r => ∃ A1, r = (none, zGs Ln I A1) ∧ Q A1)
def L_X6_lineUp_r35_r43_16 (Ln : Nat) (I : Nat → Nat → Int32) (v2 : Int32) (v3 : Int32) (K2 : Int32 × (Nat → Nat → Int32) → Prop) (Q : (Nat → Nat → Int32) → Prop) : Int32 × (Nat → Nat → Int32) → (Int32 × (Nat → Nat → Int32) → Prop) → Prop
  | (v4, A), K16 => (((v4 : Int32) ≤ 0 → ((zin v4 6 = true) ∧ (K2 ((v3 + 1), (zw A 40 ((v4).toNatClampNeg) v3))))) ∧ (¬ ((v4 : Int32) ≤ 0) → ((zin (v4 - 1) 6 = true) ∧ (W_X6_rank_r35_r43 Ln I A (A 40 (v4 - 1).toNatClampNeg) v2 (fun (r1 : Int32) => ((W_X6_rank_r35_r43 Ln I A v3 v2 (fun (r2 : Int32) => (((r1 : Int32) ≤ r2 → ((zin v4 6 = true) ∧ (K2 ((v3 + 1), (zw A 40 ((v4).toNatClampNeg) v3))))) ∧ (¬ ((r1 : Int32) ≤ r2) → ((zin (v4 - 1) 6 = true) ∧ (zin v4 6 = true) ∧ (K16 ((v4 + (Int32.ofInt (-1))), (zw A 40 ((v4).toNatClampNeg) (A 40 (v4 - 1).toNatClampNeg)))))))))))))))
set_option maxRecDepth 100000 in
theorem TL_X6_lineUp_r35_r43_16 {Ln : Nat} {I : Nat → Nat → Int32} {v2 : Int32} {v3 : Int32} {K2 : Int32 × (Nat → Nat → Int32) → Prop} {Q : (Nat → Nat → Int32) → Prop} (hK2 : ∀ p, K2 p → SL_X6_lineUp_r35_r43_2 Ln I v2 Q p) : ∀ p, zLoop (L_X6_lineUp_r35_r43_16 Ln I v2 v3 K2 Q) p → SL_X6_lineUp_r35_r43_16 Ln I v2 v3 Q p := by
  refine zLoop.sound (Sem := SL_X6_lineUp_r35_r43_16 Ln I v2 v3 Q) ?_
  rintro ⟨v4, A⟩ K16 hK16 h0
  show zSem 36 16 0 0 [some (.ref 35), some (.ref 43), some (.int v2), some (.int v3), some (.int v4)] [] (zGs Ln I A) (fun r => ∃ A1, r = (none, zGs Ln I A1) ∧ Q A1)
  change (((v4 : Int32) ≤ 0 → ((zin v4 6 = true) ∧ (K2 ((v3 + 1), (zw A 40 ((v4).toNatClampNeg) v3))))) ∧ (¬ ((v4 : Int32) ≤ 0) → ((zin (v4 - 1) 6 = true) ∧ (W_X6_rank_r35_r43 Ln I A (A 40 (v4 - 1).toNatClampNeg) v2 (fun (r1 : Int32) => ((W_X6_rank_r35_r43 Ln I A v3 v2 (fun (r2 : Int32) => (((r1 : Int32) ≤ r2 → ((zin v4 6 = true) ∧ (K2 ((v3 + 1), (zw A 40 ((v4).toNatClampNeg) v3))))) ∧ (¬ ((r1 : Int32) ≤ r2) → ((zin (v4 - 1) 6 = true) ∧ (zin v4 6 = true) ∧ (K16 ((v4 + (Int32.ofInt (-1))), (zw A 40 ((v4).toNatClampNeg) (A 40 (v4 - 1).toNatClampNeg))))))))))))))) at h0
  obtain ⟨h2, h3⟩ := h0
  by_cases h1 : (v4 : Int32) ≤ 0
  · refine zS1 (fun r he => B_X6_lineUp_r35_r43_16 Ln _ _ _ _ _  (fun _ => he) (fun n => absurd h1 n)) ?_
    have h2 := h2 h1
    obtain ⟨h4, h5⟩ := h2
    refine zS1 (fun r he => B_X6_lineUp_r35_r43_68 Ln _ _ _ _ _ h4 he) ?_
    have q := hK2 _ h5
    exact q (some _)
  · refine zS1 (fun r he => B_X6_lineUp_r35_r43_16 Ln _ _ _ _ _  (fun n => absurd n h1) (fun _ => he)) ?_
    have h3 := h3 h1
    obtain ⟨h6, h7⟩ := h3
    obtain ⟨_, h8, r1, rfl, h9⟩ := T_X6_rank_r35_r43 Ln _ _ _ _ _ h7
    refine zS1 (fun r he => B_X6_lineUp_r35_r43_21 Ln _ _ _ _ _ h6 h8 rfl he) ?_
    obtain ⟨_, h10, r2, rfl, h11⟩ := T_X6_rank_r35_r43 Ln _ _ _ _ _ h9
    refine zS1 (fun r he => B_X6_lineUp_r35_r43_36_s1 Ln _ _ _ _ _ _  h10 rfl he) ?_
    obtain ⟨h13, h14⟩ := h11
    by_cases h12 : (r1 : Int32) ≤ r2
    · refine zS1 (fun r he => B_X6_lineUp_r35_r43_43_s2 Ln _ _ _ _ _ _ _  (fun _ => he) (fun n => absurd h12 n)) ?_
      have h13 := h13 h12
      obtain ⟨h15, h16⟩ := h13
      refine zS1 (fun r he => B_X6_lineUp_r35_r43_68 Ln _ _ _ _ _ h15 he) ?_
      have q := hK2 _ h16
      exact q (some _)
    · refine zS1 (fun r he => B_X6_lineUp_r35_r43_43_s2 Ln _ _ _ _ _ _ _  (fun n => absurd n h12) (fun _ => he)) ?_
      have h14 := h14 h12
      obtain ⟨h17, h18⟩ := h14
      obtain ⟨h19, h20⟩ := h18
      refine zS1 (fun r he => B_X6_lineUp_r35_r43_46 Ln _ _ _ _ _ h17 h19 he) ?_
      have q := hK16 _ h20
      exact q
def L_X6_lineUp_r35_r43_2 (Ln : Nat) (I : Nat → Nat → Int32) (v2 : Int32) (Q : (Nat → Nat → Int32) → Prop) : Int32 × (Nat → Nat → Int32) → (Int32 × (Nat → Nat → Int32) → Prop) → Prop
  | (v3, A), K2 => ((((I 11 0) : Int32) ≤ v3 → (Q A)) ∧ (¬ (((I 11 0) : Int32) ≤ v3) → ((zLoop (L_X6_lineUp_r35_r43_16 Ln I v2 v3 K2 Q) (v3, A)))))
set_option maxRecDepth 100000 in
theorem TL_X6_lineUp_r35_r43_2 {Ln : Nat} {I : Nat → Nat → Int32} {v2 : Int32} {Q : (Nat → Nat → Int32) → Prop} : ∀ p, zLoop (L_X6_lineUp_r35_r43_2 Ln I v2  Q) p → SL_X6_lineUp_r35_r43_2 Ln I v2 Q p := by
  refine zLoop.sound (Sem := SL_X6_lineUp_r35_r43_2 Ln I v2 Q) ?_
  rintro ⟨v3, A⟩ K2 hK2 h0
  intro j4
  show zSem 36 2 0 0 [some (.ref 35), some (.ref 43), some (.int v2), some (.int v3), (Option.map Value.int j4)] [] (zGs Ln I A) (fun r => ∃ A1, r = (none, zGs Ln I A1) ∧ Q A1)
  change ((((I 11 0) : Int32) ≤ v3 → (Q A)) ∧ (¬ (((I 11 0) : Int32) ≤ v3) → ((zLoop (L_X6_lineUp_r35_r43_16 Ln I v2 v3 K2 Q) (v3, A))))) at h0
  obtain ⟨h2, h3⟩ := h0
  by_cases h1 : ((I 11 0) : Int32) ≤ v3
  · refine zS1 (fun r he => B_X6_lineUp_r35_r43_2 Ln _ _ _ _ j4  (fun _ => he) (fun n => absurd h1 n)) ?_
    have h2 := h2 h1
    exact ⟨_, B_X6_lineUp_r35_r43_82 Ln _ _ _ _ j4 , _, rfl, h2⟩
  · refine zS1 (fun r he => B_X6_lineUp_r35_r43_2 Ln _ _ _ _ j4  (fun n => absurd n h1) (fun _ => he)) ?_
    have h3 := h3 h1
    refine zS1 (fun r he => B_X6_lineUp_r35_r43_13 Ln _ _ _ _ j4  he) ?_
    exact TL_X6_lineUp_r35_r43_16 hK2 _ h3
def W_X6_lineUp_r35_r43 (Ln : Nat) (I A : Nat → Nat → Int32) (v2 : Int32) (Q : (Nat → Nat → Int32) → Prop) : Prop := ((zLoop (L_X6_lineUp_r35_r43_2 Ln I v2  Q) (0, A)))
set_option maxRecDepth 100000 in
theorem T_X6_lineUp_r35_r43 (Ln : Nat) (I A : Nat → Nat → Int32) (v2 : Int32) (Q : (Nat → Nat → Int32) → Prop) (h0 : W_X6_lineUp_r35_r43 Ln I A v2 Q) : zSem 36 0 0 0 [some (.ref 35), some (.ref 43), some (.int v2), none, none] [] (zGs Ln I A) (fun r => ∃ A1, r = (none, zGs Ln I A1) ∧ Q A1) := by
  unfold W_X6_lineUp_r35_r43 at h0
  refine zS1 (fun r he => B_X6_lineUp_r35_r43_0 Ln _ _ _  he) ?_
  exact TL_X6_lineUp_r35_r43_2  _ h0 none
