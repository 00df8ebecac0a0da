/-! what a method asks, by program (wip/whole/gen_wp.py) -/
def W_X8_many_r44 (Ln : Nat) (I A : Nat → Nat → Int32) (v1 : Int32) (Q : Int32 → Prop) : Prop := (((v1 : Int32).toInt = 0 → (Q (I 44 4))) ∧ ((v1 : Int32).toInt = 1 → (Q (I 44 1))) ∧ ((v1 : Int32).toInt = 2 → (Q (I 44 2))) ∧ ((v1 : Int32).toInt = 3 → (Q (I 44 3))) ∧ ((v1 : Int32).toInt = 4 → (Q (I 44 20))) ∧ ((v1 : Int32).toInt = 5 → (Q (I 44 31))) ∧ ((v1 : Int32).toInt = 6 → (Q (I 44 10))) ∧ (¬ ((v1 : Int32).toInt = 0) → ¬ ((v1 : Int32).toInt = 1) → ¬ ((v1 : Int32).toInt = 2) → ¬ ((v1 : Int32).toInt = 3) → ¬ ((v1 : Int32).toInt = 4) → ¬ ((v1 : Int32).toInt = 5) → ¬ ((v1 : Int32).toInt = 6) → (Q (-2))))
set_option maxRecDepth 100000 in
theorem T_X8_many_r44 (Ln : Nat) (I A : Nat → Nat → Int32) (v1 : Int32) (Q : Int32 → Prop) (h0 : W_X8_many_r44 Ln I A v1 Q) : zSem 161 0 0 0 [some (.ref 44), some (.int v1)] [] (zGs Ln I A) (fun r => ∃ x, r = (some (.int x), zGs Ln I A) ∧ Q x) := by
  unfold W_X8_many_r44 at h0
  obtain ⟨h1, h2, h3, h4, h5, h6, h7, h8⟩ := h0
  by_cases h9 : (v1 : Int32).toInt = 0
  · refine zS1 (fun r he => B_X8_many_r44_0 Ln _ _ _  (fun _ => he) (fun q => absurd (q.symm.trans h9) (by decide)) (fun q => absurd (q.symm.trans h9) (by decide)) (fun q => absurd (q.symm.trans h9) (by decide)) (fun q => absurd (q.symm.trans h9) (by decide)) (fun q => absurd (q.symm.trans h9) (by decide)) (fun q => absurd (q.symm.trans h9) (by decide)) (fun n0 n1 n2 n3 n4 n5 n6 => absurd h9 n0)) ?_
    have h1 := h1 h9
    exact ⟨_, B_X8_many_r44_44 Ln _ _ _ , _, rfl, h1⟩
  by_cases h10 : (v1 : Int32).toInt = 1
  · refine zS1 (fun r he => B_X8_many_r44_0 Ln _ _ _  (fun q => absurd (q.symm.trans h10) (by decide)) (fun _ => he) (fun q => absurd (q.symm.trans h10) (by decide)) (fun q => absurd (q.symm.trans h10) (by decide)) (fun q => absurd (q.symm.trans h10) (by decide)) (fun q => absurd (q.symm.trans h10) (by decide)) (fun q => absurd (q.symm.trans h10) (by decide)) (fun n0 n1 n2 n3 n4 n5 n6 => absurd h10 n1)) ?_
    have h2 := h2 h10
    exact ⟨_, B_X8_many_r44_49 Ln _ _ _ , _, rfl, h2⟩
  by_cases h11 : (v1 : Int32).toInt = 2
  · refine zS1 (fun r he => B_X8_many_r44_0 Ln _ _ _  (fun q => absurd (q.symm.trans h11) (by decide)) (fun q => absurd (q.symm.trans h11) (by decide)) (fun _ => he) (fun q => absurd (q.symm.trans h11) (by decide)) (fun q => absurd (q.symm.trans h11) (by decide)) (fun q => absurd (q.symm.trans h11) (by decide)) (fun q => absurd (q.symm.trans h11) (by decide)) (fun n0 n1 n2 n3 n4 n5 n6 => absurd h11 n2)) ?_
    have h3 := h3 h11
    exact ⟨_, B_X8_many_r44_54 Ln _ _ _ , _, rfl, h3⟩
  by_cases h12 : (v1 : Int32).toInt = 3
  · refine zS1 (fun r he => B_X8_many_r44_0 Ln _ _ _  (fun q => absurd (q.symm.trans h12) (by decide)) (fun q => absurd (q.symm.trans h12) (by decide)) (fun q => absurd (q.symm.trans h12) (by decide)) (fun _ => he) (fun q => absurd (q.symm.trans h12) (by decide)) (fun q => absurd (q.symm.trans h12) (by decide)) (fun q => absurd (q.symm.trans h12) (by decide)) (fun n0 n1 n2 n3 n4 n5 n6 => absurd h12 n3)) ?_
    have h4 := h4 h12
    exact ⟨_, B_X8_many_r44_59 Ln _ _ _ , _, rfl, h4⟩
  by_cases h13 : (v1 : Int32).toInt = 4
  · refine zS1 (fun r he => B_X8_many_r44_0 Ln _ _ _  (fun q => absurd (q.symm.trans h13) (by decide)) (fun q => absurd (q.symm.trans h13) (by decide)) (fun q => absurd (q.symm.trans h13) (by decide)) (fun q => absurd (q.symm.trans h13) (by decide)) (fun _ => he) (fun q => absurd (q.symm.trans h13) (by decide)) (fun q => absurd (q.symm.trans h13) (by decide)) (fun n0 n1 n2 n3 n4 n5 n6 => absurd h13 n4)) ?_
    have h5 := h5 h13
    exact ⟨_, B_X8_many_r44_64 Ln _ _ _ , _, rfl, h5⟩
  by_cases h14 : (v1 : Int32).toInt = 5
  · refine zS1 (fun r he => B_X8_many_r44_0 Ln _ _ _  (fun q => absurd (q.symm.trans h14) (by decide)) (fun q => absurd (q.symm.trans h14) (by decide)) (fun q => absurd (q.symm.trans h14) (by decide)) (fun q => absurd (q.symm.trans h14) (by decide)) (fun q => absurd (q.symm.trans h14) (by decide)) (fun _ => he) (fun q => absurd (q.symm.trans h14) (by decide)) (fun n0 n1 n2 n3 n4 n5 n6 => absurd h14 n5)) ?_
    have h6 := h6 h14
    exact ⟨_, B_X8_many_r44_69 Ln _ _ _ , _, rfl, h6⟩
  by_cases h15 : (v1 : Int32).toInt = 6
  · refine zS1 (fun r he => B_X8_many_r44_0 Ln _ _ _  (fun q => absurd (q.symm.trans h15) (by decide)) (fun q => absurd (q.symm.trans h15) (by decide)) (fun q => absurd (q.symm.trans h15) (by decide)) (fun q => absurd (q.symm.trans h15) (by decide)) (fun q => absurd (q.symm.trans h15) (by decide)) (fun q => absurd (q.symm.trans h15) (by decide)) (fun _ => he) (fun n0 n1 n2 n3 n4 n5 n6 => absurd h15 n6)) ?_
    have h7 := h7 h15
    exact ⟨_, B_X8_many_r44_74 Ln _ _ _ , _, rfl, h7⟩
  refine zS1 (fun r he => B_X8_many_r44_0 Ln _ _ _  (fun q => absurd q h9) (fun q => absurd q h10) (fun q => absurd q h11) (fun q => absurd q h12) (fun q => absurd q h13) (fun q => absurd q h14) (fun q => absurd q h15) (fun _ _ _ _ _ _ _ => he)) ?_
  have h8 := h8 h9 h10 h11 h12 h13 h14 h15
  exact ⟨_, B_X8_many_r44_79 Ln _ _ _ , _, rfl, h8⟩
def W_X7_isSheet (Ln : Nat) (I A : Nat → Nat → Int32) (v0 : Int32) (Q : Int32 → Prop) : Prop := (((v0 : Int32) < 0 → ((Q 0))) ∧ (¬ ((v0 : Int32) < 0) → (((4 : Int32) ≤ v0 → ((Q 0))) ∧ (¬ ((4 : Int32) ≤ v0) → ((Q 1))))))
set_option maxRecDepth 100000 in
theorem T_X7_isSheet (Ln : Nat) (I A : Nat → Nat → Int32) (v0 : Int32) (Q : Int32 → Prop) (h0 : W_X7_isSheet Ln I A v0 Q) : zSem 80 0 0 0 [some (.int v0)] [] (zGs Ln I A) (fun r => ∃ x, r = (some (.int x), zGs Ln I A) ∧ Q x) := by
  unfold W_X7_isSheet at h0
  obtain ⟨h2, h3⟩ := h0
  by_cases h1 : (v0 : Int32) < 0
  · refine zS1 (fun r he => B_X7_isSheet_0 Ln _ _ _  (fun _ => he) (fun n => absurd h1 n)) ?_
    have h2 := h2 h1
    refine zS1 (fun r he => B_X7_isSheet_13 Ln _ _ _  he) ?_
    exact ⟨_, B_X7_isSheet_14_s1 Ln _ _ _ _  (by decide), _, rfl, h2⟩
  · refine zS1 (fun r he => B_X7_isSheet_0 Ln _ _ _  (fun n => absurd n h1) (fun _ => he)) ?_
    have h3 := h3 h1
    obtain ⟨h5, h6⟩ := h3
    by_cases h4 : (4 : Int32) ≤ v0
    · refine zS1 (fun r he => B_X7_isSheet_4 Ln _ _ _  (fun _ => he) (fun n => absurd h4 n)) ?_
      have h5 := h5 h4
      refine zS1 (fun r he => B_X7_isSheet_13 Ln _ _ _  he) ?_
      exact ⟨_, B_X7_isSheet_14_s1 Ln _ _ _ _  (by decide), _, rfl, h5⟩
    · refine zS1 (fun r he => B_X7_isSheet_4 Ln _ _ _  (fun n => absurd n h4) (fun _ => he)) ?_
      have h6 := h6 h4
      refine zS1 (fun r he => B_X7_isSheet_9 Ln _ _ _  he) ?_
      exact ⟨_, B_X7_isSheet_14_s1 Ln _ _ _ _  (by decide), _, rfl, h6⟩
def W_X7_isLane (Ln : Nat) (I A : Nat → Nat → Int32) (v0 : Int32) (Q : Int32 → Prop) : Prop := (((v0 : Int32) < 0 → ((Q 0))) ∧ (¬ ((v0 : Int32) < 0) → (((3 : Int32) ≤ v0 → ((Q 0))) ∧ (¬ ((3 : Int32) ≤ v0) → ((Q 1))))))
set_option maxRecDepth 100000 in
theorem T_X7_isLane (Ln : Nat) (I A : Nat → Nat → Int32) (v0 : Int32) (Q : Int32 → Prop) (h0 : W_X7_isLane Ln I A v0 Q) : zSem 81 0 0 0 [some (.int v0)] [] (zGs Ln I A) (fun r => ∃ x, r = (some (.int x), zGs Ln I A) ∧ Q x) := by
  unfold W_X7_isLane at h0
  obtain ⟨h2, h3⟩ := h0
  by_cases h1 : (v0 : Int32) < 0
  · refine zS1 (fun r he => B_X7_isLane_0 Ln _ _ _  (fun _ => he) (fun n => absurd h1 n)) ?_
    have h2 := h2 h1
    refine zS1 (fun r he => B_X7_isLane_13 Ln _ _ _  he) ?_
    exact ⟨_, B_X7_isLane_14_s1 Ln _ _ _ _  (by decide), _, rfl, h2⟩
  · refine zS1 (fun r he => B_X7_isLane_0 Ln _ _ _  (fun n => absurd n h1) (fun _ => he)) ?_
    have h3 := h3 h1
    obtain ⟨h5, h6⟩ := h3
    by_cases h4 : (3 : Int32) ≤ v0
    · refine zS1 (fun r he => B_X7_isLane_4 Ln _ _ _  (fun _ => he) (fun n => absurd h4 n)) ?_
      have h5 := h5 h4
      refine zS1 (fun r he => B_X7_isLane_13 Ln _ _ _  he) ?_
      exact ⟨_, B_X7_isLane_14_s1 Ln _ _ _ _  (by decide), _, rfl, h5⟩
    · refine zS1 (fun r he => B_X7_isLane_4 Ln _ _ _  (fun n => absurd n h4) (fun _ => he)) ?_
      have h6 := h6 h4
      refine zS1 (fun r he => B_X7_isLane_9 Ln _ _ _  he) ?_
      exact ⟨_, B_X7_isLane_14_s1 Ln _ _ _ _  (by decide), _, rfl, h6⟩
def W_X0_heavy_r11 (Ln : Nat) (I A : Nat → Nat → Int32) (v1 : Int32) (Q : Int32 → Prop) : Prop := ((zin v1 6 = true) ∧ ((A 12 (v1).toNatClampNeg : Int32).toInt = 1 → ((zin v1 6 = true) ∧ Q ((A 14 (v1).toNatClampNeg) + 2))) ∧ ((A 12 (v1).toNatClampNeg : Int32).toInt = 2 → ((zin v1 6 = true) ∧ Q (2 * ((A 14 (v1).toNatClampNeg) + 2)))) ∧ (¬ ((A 12 (v1).toNatClampNeg : Int32).toInt = 1) → ¬ ((A 12 (v1).toNatClampNeg : Int32).toInt = 2) → ((zin v1 6 = true) ∧ Q (A 14 (v1).toNatClampNeg))))
set_option maxRecDepth 100000 in
theorem T_X0_heavy_r11 (Ln : Nat) (I A : Nat → Nat → Int32) (v1 : Int32) (Q : Int32 → Prop) (h0 : W_X0_heavy_r11 Ln I A v1 Q) : zSem 5 0 0 0 [some (.ref 11), some (.int v1)] [] (zGs Ln I A) (fun r => ∃ x, r = (some (.int x), zGs Ln I A) ∧ Q x) := by
  unfold W_X0_heavy_r11 at h0
  obtain ⟨h1, h2⟩ := h0
  obtain ⟨h3, h4, h5⟩ := h2
  by_cases h6 : (A 12 (v1).toNatClampNeg : Int32).toInt = 1
  · refine zS1 (fun r he => B_X0_heavy_r11_0 Ln _ _ _ h1 (fun _ => he) (fun q => absurd (q.symm.trans h6) (by decide)) (fun n0 n1 => absurd h6 n0)) ?_
    have h3 := h3 h6
    obtain ⟨h8, h9⟩ := h3
    exact ⟨_, B_X0_heavy_r11_43 Ln _ _ _ h8, _, rfl, h9⟩
  by_cases h7 : (A 12 (v1).toNatClampNeg : Int32).toInt = 2
  · refine zS1 (fun r he => B_X0_heavy_r11_0 Ln _ _ _ h1 (fun q => absurd (q.symm.trans h7) (by decide)) (fun _ => he) (fun n0 n1 => absurd h7 n1)) ?_
    have h4 := h4 h7
    obtain ⟨h10, h11⟩ := h4
    exact ⟨_, B_X0_heavy_r11_32 Ln _ _ _ h10, _, rfl, h11⟩
  refine zS1 (fun r he => B_X0_heavy_r11_0 Ln _ _ _ h1 (fun q => absurd q h6) (fun q => absurd q h7) (fun _ _ => he)) ?_
  have h5 := h5 h6 h7
  obtain ⟨h12, h13⟩ := h5
  exact ⟨_, B_X0_heavy_r11_52 Ln _ _ _ h12, _, rfl, h13⟩
def W_X0_price_r11 (Ln : Nat) (I A : Nat → Nat → Int32) (v1 : Int32) (Q : Int32 → Prop) : Prop := ((zin v1 6 = true) ∧ ((A 12 (v1).toNatClampNeg : Int32).toInt = 1 → (Q 2)) ∧ ((A 12 (v1).toNatClampNeg : Int32).toInt = 2 → (Q 3)) ∧ (¬ ((A 12 (v1).toNatClampNeg : Int32).toInt = 1) → ¬ ((A 12 (v1).toNatClampNeg : Int32).toInt = 2) → (Q 1)))
set_option maxRecDepth 100000 in
theorem T_X0_price_r11 (Ln : Nat) (I A : Nat → Nat → Int32) (v1 : Int32) (Q : Int32 → Prop) (h0 : W_X0_price_r11 Ln I A v1 Q) : zSem 4 0 0 0 [some (.ref 11), some (.int v1)] [] (zGs Ln I A) (fun r => ∃ x, r = (some (.int x), zGs Ln I A) ∧ Q x) := by
  unfold W_X0_price_r11 at h0
  obtain ⟨h1, h2⟩ := h0
  obtain ⟨h3, h4, h5⟩ := h2
  by_cases h6 : (A 12 (v1).toNatClampNeg : Int32).toInt = 1
  · refine zS1 (fun r he => B_X0_price_r11_0 Ln _ _ _ h1 (fun _ => he) (fun q => absurd (q.symm.trans h6) (by decide)) (fun n0 n1 => absurd h6 n0)) ?_
    have h3 := h3 h6
    exact ⟨_, B_X0_price_r11_34 Ln _ _ _ , _, rfl, h3⟩
  by_cases h7 : (A 12 (v1).toNatClampNeg : Int32).toInt = 2
  · refine zS1 (fun r he => B_X0_price_r11_0 Ln _ _ _ h1 (fun q => absurd (q.symm.trans h7) (by decide)) (fun _ => he) (fun n0 n1 => absurd h7 n1)) ?_
    have h4 := h4 h7
    exact ⟨_, B_X0_price_r11_32 Ln _ _ _ , _, rfl, h4⟩
  refine zS1 (fun r he => B_X0_price_r11_0 Ln _ _ _ h1 (fun q => absurd q h6) (fun q => absurd q h7) (fun _ _ => he)) ?_
  have h5 := h5 h6 h7
  exact ⟨_, B_X0_price_r11_36 Ln _ _ _ , _, rfl, h5⟩
def W_X2_add_r18 (Ln : Nat) (I A : Nat → Nat → Int32) (v1 : Int32) (v2 : Int32) (v3 : Int32) (Q : Int32 → (Nat → Nat → Int32) → (Nat → Nat → Int32) → Prop) : Prop := ((zin (I 18 3) 6 = true) ∧ (zin (I 18 3) 6 = true) ∧ (zin (I 18 3) 6 = true) ∧ Q (((I 18 3) + 1) - 1) (zp I 18 3 ((I 18 3) + 1)) (zw (zw (zw A 19 ((I 18 3).toNatClampNeg) v1) 20 ((I 18 3).toNatClampNeg) v2) 21 ((I 18 3).toNatClampNeg) v3))
set_option maxRecDepth 100000 in
theorem T_X2_add_r18 (Ln : Nat) (I A : Nat → Nat → Int32) (v1 : Int32) (v2 : Int32) (v3 : Int32) (Q : Int32 → (Nat → Nat → Int32) → (Nat → Nat → Int32) → Prop) (h0 : W_X2_add_r18 Ln I A v1 v2 v3 Q) : zSem 14 0 0 0 [some (.ref 18), some (.int v1), some (.int v2), some (.int v3)] [] (zGs Ln I A) (fun r => ∃ x I1 A1, r = (some (.int x), zGs Ln I1 A1) ∧ Q x I1 A1) := by
  unfold W_X2_add_r18 at h0
  obtain ⟨h1, h2⟩ := h0
  obtain ⟨h3, h4⟩ := h2
  obtain ⟨h5, h6⟩ := h4
  exact ⟨_, B_X2_add_r18_0 Ln _ _ _ _ _ h1 h3 h5, _, _, _, rfl, h6⟩
def W_X6_waitOf_r28 (Ln : Nat) (I A : Nat → Nat → Int32) (v1 : Int32) (Q : Int32 → Prop) : Prop := ((zin v1 6 = true) ∧ (((A 29 (v1).toNatClampNeg) : Int32) ≠ (-9) → ((zin v1 6 = true) ∧ ((zin v1 6 = true) ∧ Q ((A 29 (v1).toNatClampNeg) - (A 15 (v1).toNatClampNeg))))) ∧ (¬ (((A 29 (v1).toNatClampNeg) : Int32) ≠ (-9)) → (((zin v1 6 = true) ∧ Q (60 - (A 15 (v1).toNatClampNeg))))))
set_option maxRecDepth 100000 in
theorem T_X6_waitOf_r28 (Ln : Nat) (I A : Nat → Nat → Int32) (v1 : Int32) (Q : Int32 → Prop) (h0 : W_X6_waitOf_r28 Ln I A v1 Q) : zSem 42 0 0 0 [some (.ref 28), some (.int v1), none] [] (zGs Ln I A) (fun r => ∃ x, r = (some (.int x), zGs Ln I A) ∧ Q x) := by
  unfold W_X6_waitOf_r28 at h0
  obtain ⟨h1, h2⟩ := h0
  obtain ⟨h4, h5⟩ := h2
  by_cases h3 : ((A 29 (v1).toNatClampNeg) : Int32) ≠ (-9)
  · refine zS1 (fun r he => B_X6_waitOf_r28_0 Ln _ _ _ h1 (fun _ => he) (fun n => absurd h3 n)) ?_
    have h4 := h4 h3
    obtain ⟨h6, h7⟩ := h4
    refine zS1 (fun r he => B_X6_waitOf_r28_16 Ln _ _ _ h6 he) ?_
    obtain ⟨h8, h9⟩ := h7
    exact ⟨_, B_X6_waitOf_r28_22_s1 Ln _ _ _ _ h8, _, rfl, h9⟩
  · refine zS1 (fun r he => B_X6_waitOf_r28_0 Ln _ _ _ h1 (fun n => absurd n h3) (fun _ => he)) ?_
    have h5 := h5 h3
    refine zS1 (fun r he => B_X6_waitOf_r28_11 Ln _ _ _  he) ?_
    obtain ⟨h10, h11⟩ := h5
    exact ⟨_, B_X6_waitOf_r28_22_s1 Ln _ _ _ _ h10, _, rfl, h11⟩
def SL_X6_waitOfAll_r28_4 (Ln : Nat) (I A : Nat → Nat → Int32) (Q : Int32 → Prop) : Int32 × Int32 → Prop
  | (v1, v2) => zSem 43 4 0 0 [some (.ref 28), some (.int v1), some (.int v2)] [] (zGs Ln I A) (fun r => ∃ x, r = (some (.int x), zGs Ln I A) ∧ Q x)
def L_X6_waitOfAll_r28_4 (Ln : Nat) (I A : Nat → Nat → Int32) (Q : Int32 → Prop) : Int32 × Int32 → (Int32 × Int32 → Prop) → Prop
  | (v1, v2), K4 => ((((I 11 0) : Int32) ≤ v2 → (Q v1)) ∧ (¬ (((I 11 0) : Int32) ≤ v2) → ((W_X6_waitOf_r28 Ln I A v2 (fun (r1 : Int32) => ((K4 ((v1 + r1), (v2 + 1)))))))))
set_option maxRecDepth 100000 in
theorem TL_X6_waitOfAll_r28_4 {Ln : Nat} {I A : Nat → Nat → Int32} {Q : Int32 → Prop} : ∀ p, zLoop (L_X6_waitOfAll_r28_4 Ln I A   Q) p → SL_X6_waitOfAll_r28_4 Ln I A  Q p := by
  refine zLoop.sound (Sem := SL_X6_waitOfAll_r28_4 Ln I A  Q) ?_
  rintro ⟨v1, v2⟩ K4 hK4 h0
  show zSem 43 4 0 0 [some (.ref 28), some (.int v1), some (.int v2)] [] (zGs Ln I A) (fun r => ∃ x, r = (some (.int x), zGs Ln I A) ∧ Q x)
  change ((((I 11 0) : Int32) ≤ v2 → (Q v1)) ∧ (¬ (((I 11 0) : Int32) ≤ v2) → ((W_X6_waitOf_r28 Ln I A v2 (fun (r1 : Int32) => ((K4 ((v1 + r1), (v2 + 1))))))))) at h0
  obtain ⟨h2, h3⟩ := h0
  by_cases h1 : ((I 11 0) : Int32) ≤ v2
  · refine zS1 (fun r he => B_X6_waitOfAll_r28_4 Ln _ _ _ _  (fun _ => he) (fun n => absurd h1 n)) ?_
    have h2 := h2 h1
    exact ⟨_, B_X6_waitOfAll_r28_29 Ln _ _ _ _ , _, rfl, h2⟩
  · refine zS1 (fun r he => B_X6_waitOfAll_r28_4 Ln _ _ _ _  (fun n => absurd n h1) (fun _ => he)) ?_
    have h3 := h3 h1
    obtain ⟨_, h4, r1, rfl, h5⟩ := T_X6_waitOf_r28 Ln _ _ _ _ h3
    refine zS1 (fun r he => B_X6_waitOfAll_r28_15 Ln _ _ _ _  h4 rfl he) ?_
    refine zS1 (fun r he => B_X6_waitOfAll_r28_21_s2 Ln _ _ _ _ _ _  he) ?_
    have q := hK4 _ h5
    exact q
def W_X6_waitOfAll_r28 (Ln : Nat) (I A : Nat → Nat → Int32) (Q : Int32 → Prop) : Prop := ((zLoop (L_X6_waitOfAll_r28_4 Ln I A  Q) (0, 0)))
set_option maxRecDepth 100000 in
theorem T_X6_waitOfAll_r28 (Ln : Nat) (I A : Nat → Nat → Int32) (Q : Int32 → Prop) (h0 : W_X6_waitOfAll_r28 Ln I A Q) : zSem 43 0 0 0 [some (.ref 28), none, none] [] (zGs Ln I A) (fun r => ∃ x, r = (some (.int x), zGs Ln I A) ∧ Q x) := by
  unfold W_X6_waitOfAll_r28 at h0
  refine zS1 (fun r he => B_X6_waitOfAll_r28_0 Ln _ _   he) ?_
  exact TL_X6_waitOfAll_r28_4  _ h0
def SL_X0_whoPays_r11_r42_4 (Ln : Nat) (I A : Nat → Nat → Int32) (Q : Int32 → Prop) : Int32 × Int32 → Prop
  | (v2, v3) => zSem 6 4 0 0 [some (.ref 11), some (.ref 42), some (.int v2), some (.int v3)] [] (zGs Ln I A) (fun r => ∃ x, r = (some (.int x), zGs Ln I A) ∧ Q x)
def L_X0_whoPays_r11_r42_4 (Ln : Nat) (I A : Nat → Nat → Int32) (Q : Int32 → Prop) : Int32 × Int32 → (Int32 × Int32 → Prop) → Prop
  | (v2, v3), K4 => ((((I 11 0) : Int32) ≤ v3 → (Q v2)) ∧ (¬ (((I 11 0) : Int32) ≤ v3) → ((zin v3 6 = true) ∧ (W_X0_price_r11 Ln I A v3 (fun (r1 : Int32) => (∀ x2 : Int32, x2 = A 42 (v3).toNatClampNeg → (((x2 : Int32) < r1 → ((K4 (v2, (v3 + 1))))) ∧ (¬ ((x2 : Int32) < r1) → (((K4 ((v2 ||| (1 <<< (v3 &&& 31))), (v3 + 1)))))))))))))
set_option maxRecDepth 100000 in
theorem TL_X0_whoPays_r11_r42_4 {Ln : Nat} {I A : Nat → Nat → Int32} {Q : Int32 → Prop} : ∀ p, zLoop (L_X0_whoPays_r11_r42_4 Ln I A   Q) p → SL_X0_whoPays_r11_r42_4 Ln I A  Q p := by
  refine zLoop.sound (Sem := SL_X0_whoPays_r11_r42_4 Ln I A  Q) ?_
  rintro ⟨v2, v3⟩ K4 hK4 h0
  show zSem 6 4 0 0 [some (.ref 11), some (.ref 42), some (.int v2), some (.int v3)] [] (zGs Ln I A) (fun r => ∃ x, r = (some (.int x), zGs Ln I A) ∧ Q x)
  change ((((I 11 0) : Int32) ≤ v3 → (Q v2)) ∧ (¬ (((I 11 0) : Int32) ≤ v3) → ((zin v3 6 = true) ∧ (W_X0_price_r11 Ln I A v3 (fun (r1 : Int32) => (∀ x2 : Int32, x2 = A 42 (v3).toNatClampNeg → (((x2 : Int32) < r1 → ((K4 (v2, (v3 + 1))))) ∧ (¬ ((x2 : Int32) < r1) → (((K4 ((v2 ||| (1 <<< (v3 &&& 31))), (v3 + 1))))))))))))) at h0
  obtain ⟨h2, h3⟩ := h0
  by_cases h1 : ((I 11 0) : Int32) ≤ v3
  · refine zS1 (fun r he => B_X0_whoPays_r11_r42_4 Ln _ _ _ _  (fun _ => he) (fun n => absurd h1 n)) ?_
    have h2 := h2 h1
    exact ⟨_, B_X0_whoPays_r11_r42_35 Ln _ _ _ _ , _, rfl, h2⟩
  · refine zS1 (fun r he => B_X0_whoPays_r11_r42_4 Ln _ _ _ _  (fun n => absurd n h1) (fun _ => he)) ?_
    have h3 := h3 h1
    obtain ⟨h4, h5⟩ := h3
    obtain ⟨_, h6, r1, rfl, h7⟩ := T_X0_price_r11 Ln _ _ _ _ h5
    refine zS1 (fun r he => B_X0_whoPays_r11_r42_12 Ln _ _ _ _ h4 h6 rfl he) ?_
    have h8 := h7 _ rfl
    obtain ⟨h10, h11⟩ := h8
    by_cases h9 : ((A 42 (v3).toNatClampNeg) : Int32) < r1
    · refine zS1 (fun r he => B_X0_whoPays_r11_r42_20_s2 Ln _ _ _ _ _ _  (fun _ => he) (fun n => absurd h9 n)) ?_
      have h10 := h10 h9
      refine zS1 (fun r he => B_X0_whoPays_r11_r42_29 Ln _ _ _ _  he) ?_
      have q := hK4 _ h10
      exact q
    · refine zS1 (fun r he => B_X0_whoPays_r11_r42_20_s2 Ln _ _ _ _ _ _  (fun n => absurd n h9) (fun _ => he)) ?_
      have h11 := h11 h9
      refine zS1 (fun r he => B_X0_whoPays_r11_r42_23 Ln _ _ _ _  he) ?_
      refine zS1 (fun r he => B_X0_whoPays_r11_r42_29 Ln _ _ _ _  he) ?_
      have q := hK4 _ h11
      exact q
def W_X0_whoPays_r11_r42 (Ln : Nat) (I A : Nat → Nat → Int32) (Q : Int32 → Prop) : Prop := ((zLoop (L_X0_whoPays_r11_r42_4 Ln I A  Q) (0, 0)))
set_option maxRecDepth 100000 in
theorem T_X0_whoPays_r11_r42 (Ln : Nat) (I A : Nat → Nat → Int32) (Q : Int32 → Prop) (h0 : W_X0_whoPays_r11_r42 Ln I A Q) : zSem 6 0 0 0 [some (.ref 11), some (.ref 42), none, none] [] (zGs Ln I A) (fun r => ∃ x, r = (some (.int x), zGs Ln I A) ∧ Q x) := by
  unfold W_X0_whoPays_r11_r42 at h0
  refine zS1 (fun r he => B_X0_whoPays_r11_r42_0 Ln _ _   he) ?_
  exact TL_X0_whoPays_r11_r42_4  _ h0
def W_X7_isNight (Ln : Nat) (I A : Nat → Nat → Int32) (v0 : Int32) (Q : Int32 → Prop) : Prop := (((v0 : Int32) < 0 → ((Q 0))) ∧ (¬ ((v0 : Int32) < 0) → (((60 : Int32) ≤ v0 → ((Q 0))) ∧ (¬ ((60 : Int32) ≤ v0) → ((Q 1))))))
set_option maxRecDepth 100000 in
theorem T_X7_isNight (Ln : Nat) (I A : Nat → Nat → Int32) (v0 : Int32) (Q : Int32 → Prop) (h0 : W_X7_isNight Ln I A v0 Q) : zSem 79 0 0 0 [some (.int v0)] [] (zGs Ln I A) (fun r => ∃ x, r = (some (.int x), zGs Ln I A) ∧ Q x) := by
  unfold W_X7_isNight at h0
  obtain ⟨h2, h3⟩ := h0
  by_cases h1 : (v0 : Int32) < 0
  · refine zS1 (fun r he => B_X7_isNight_0 Ln _ _ _  (fun _ => he) (fun n => absurd h1 n)) ?_
    have h2 := h2 h1
    refine zS1 (fun r he => B_X7_isNight_14 Ln _ _ _  he) ?_
    exact ⟨_, B_X7_isNight_15_s1 Ln _ _ _ _  (by decide), _, rfl, h2⟩
  · refine zS1 (fun r he => B_X7_isNight_0 Ln _ _ _  (fun n => absurd n h1) (fun _ => he)) ?_
    have h3 := h3 h1
    obtain ⟨h5, h6⟩ := h3
    by_cases h4 : (60 : Int32) ≤ v0
    · refine zS1 (fun r he => B_X7_isNight_4 Ln _ _ _  (fun _ => he) (fun n => absurd h4 n)) ?_
      have h5 := h5 h4
      refine zS1 (fun r he => B_X7_isNight_14 Ln _ _ _  he) ?_
      exact ⟨_, B_X7_isNight_15_s1 Ln _ _ _ _  (by decide), _, rfl, h5⟩
    · refine zS1 (fun r he => B_X7_isNight_4 Ln _ _ _  (fun n => absurd n h4) (fun _ => he)) ?_
      have h6 := h6 h4
      refine zS1 (fun r he => B_X7_isNight_10 Ln _ _ _  he) ?_
      exact ⟨_, B_X7_isNight_15_s1 Ln _ _ _ _  (by decide), _, rfl, h6⟩
def W_X3_add_r22 (Ln : Nat) (I A : Nat → Nat → Int32) (v1 : Int32) (v2 : Int32) (v3 : Int32) (Q : Int32 → (Nat → Nat → Int32) → (Nat → Nat → Int32) → Prop) : Prop := ((zin (I 22 3) 6 = true) ∧ (zin (I 22 3) 6 = true) ∧ (zin (I 22 3) 6 = true) ∧ Q (((I 22 3) + 1) - 1) (zp I 22 3 ((I 22 3) + 1)) (zw (zw (zw A 23 ((I 22 3).toNatClampNeg) v1) 24 ((I 22 3).toNatClampNeg) v2) 25 ((I 22 3).toNatClampNeg) (vp_nar .boolean v3)))
set_option maxRecDepth 100000 in
theorem T_X3_add_r22 (Ln : Nat) (I A : Nat → Nat → Int32) (v1 : Int32) (v2 : Int32) (v3 : Int32) (Q : Int32 → (Nat → Nat → Int32) → (Nat → Nat → Int32) → Prop) (h0 : W_X3_add_r22 Ln I A v1 v2 v3 Q) : zSem 19 0 0 0 [some (.ref 22), some (.int v1), some (.int v2), some (.int v3)] [] (zGs Ln I A) (fun r => ∃ x I1 A1, r = (some (.int x), zGs Ln I1 A1) ∧ Q x I1 A1) := by
  unfold W_X3_add_r22 at h0
  obtain ⟨h1, h2⟩ := h0
  obtain ⟨h3, h4⟩ := h2
  obtain ⟨h5, h6⟩ := h4
  exact ⟨_, B_X3_add_r22_0 Ln _ _ _ _ _ h1 h3 h5, _, _, _, rfl, h6⟩
def SL_X3_allSo_r22_r35_2 (Ln : Nat) (I A : Nat → Nat → Int32) (Q : Int32 → Prop) : Int32 → Prop
  | v2 => ∀  (j3 : Option Int32), zSem 20 2 0 0 [some (.ref 22), some (.ref 35), some (.int v2), (Option.map Value.int j3)] [] (zGs Ln I A) (fun r => ∃ x, r = (some (.int x), zGs Ln I A) ∧ Q x)
def L_X3_allSo_r22_r35_2 (Ln : Nat) (I A : Nat → Nat → Int32) (Q : Int32 → Prop) : Int32 → (Int32 → Prop) → Prop
  | v2, K2 => ((((I 22 3) : Int32) ≤ v2 → (Q 1)) ∧ (¬ (((I 22 3) : Int32) ≤ v2) → ((zin v2 6 = true) ∧ (zin (A 24 (v2).toNatClampNeg) 60 = true) ∧ (zin v2 6 = true) ∧ (((((A 39 (A 24 (v2).toNatClampNeg).toNatClampNeg) >>> ((A 23 (v2).toNatClampNeg) &&& 31)) &&& 1) : Int32) ≠ 1 → (((zin v2 6 = true) ∧ ((0 : Int32) = (A 25 (v2).toNatClampNeg) → ((K2 (v2 + 1)))) ∧ (¬ ((0 : Int32) = (A 25 (v2).toNatClampNeg)) → (Q 0))))) ∧ (¬ (((((A 39 (A 24 (v2).toNatClampNeg).toNatClampNeg) >>> ((A 23 (v2).toNatClampNeg) &&& 31)) &&& 1) : Int32) ≠ 1) → (((zin v2 6 = true) ∧ ((1 : Int32) = (A 25 (v2).toNatClampNeg) → ((K2 (v2 + 1)))) ∧ (¬ ((1 : Int32) = (A 25 (v2).toNatClampNeg)) → (Q 0))))))))
set_option maxRecDepth 100000 in
theorem TL_X3_allSo_r22_r35_2 {Ln : Nat} {I A : Nat → Nat → Int32} {Q : Int32 → Prop} : ∀ p, zLoop (L_X3_allSo_r22_r35_2 Ln I A   Q) p → SL_X3_allSo_r22_r35_2 Ln I A  Q p := by
  refine zLoop.sound (Sem := SL_X3_allSo_r22_r35_2 Ln I A  Q) ?_
  rintro v2 K2 hK2 h0
  intro j3
  show zSem 20 2 0 0 [some (.ref 22), some (.ref 35), some (.int v2), (Option.map Value.int j3)] [] (zGs Ln I A) (fun r => ∃ x, r = (some (.int x), zGs Ln I A) ∧ Q x)
  change ((((I 22 3) : Int32) ≤ v2 → (Q 1)) ∧ (¬ (((I 22 3) : Int32) ≤ v2) → ((zin v2 6 = true) ∧ (zin (A 24 (v2).toNatClampNeg) 60 = true) ∧ (zin v2 6 = true) ∧ (((((A 39 (A 24 (v2).toNatClampNeg).toNatClampNeg) >>> ((A 23 (v2).toNatClampNeg) &&& 31)) &&& 1) : Int32) ≠ 1 → (((zin v2 6 = true) ∧ ((0 : Int32) = (A 25 (v2).toNatClampNeg) → ((K2 (v2 + 1)))) ∧ (¬ ((0 : Int32) = (A 25 (v2).toNatClampNeg)) → (Q 0))))) ∧ (¬ (((((A 39 (A 24 (v2).toNatClampNeg).toNatClampNeg) >>> ((A 23 (v2).toNatClampNeg) &&& 31)) &&& 1) : Int32) ≠ 1) → (((zin v2 6 = true) ∧ ((1 : Int32) = (A 25 (v2).toNatClampNeg) → ((K2 (v2 + 1)))) ∧ (¬ ((1 : Int32) = (A 25 (v2).toNatClampNeg)) → (Q 0)))))))) at h0
  obtain ⟨h2, h3⟩ := h0
  by_cases h1 : ((I 22 3) : Int32) ≤ v2
  · refine zS1 (fun r he => B_X3_allSo_r22_r35_2 Ln _ _ _ j3  (fun _ => he) (fun n => absurd h1 n)) ?_
    have h2 := h2 h1
    exact ⟨_, B_X3_allSo_r22_r35_58 Ln _ _ _ j3 , _, rfl, h2⟩
  · refine zS1 (fun r he => B_X3_allSo_r22_r35_2 Ln _ _ _ j3  (fun n => absurd n h1) (fun _ => he)) ?_
    have h3 := h3 h1
    obtain ⟨h4, h5⟩ := h3
    obtain ⟨h6, h7⟩ := h5
    obtain ⟨h8, h9⟩ := h7
    obtain ⟨h11, h12⟩ := h9
    by_cases h10 : ((((A 39 (A 24 (v2).toNatClampNeg).toNatClampNeg) >>> ((A 23 (v2).toNatClampNeg) &&& 31)) &&& 1) : Int32) ≠ 1
    · refine zS1 (fun r he => B_X3_allSo_r22_r35_10 Ln _ _ _ j3 h4 h6 h8 (fun _ => he) (fun n => absurd h10 n)) ?_
      have h11 := h11 h10
      refine zS1 (fun r he => B_X3_allSo_r22_r35_38 Ln _ _ _ j3  he) ?_
      obtain ⟨h13, h14⟩ := h11
      obtain ⟨h16, h17⟩ := h14
      by_cases h15 : (0 : Int32) = (A 25 (v2).toNatClampNeg)
      · refine zS1 (fun r he => B_X3_allSo_r22_r35_39_s1 Ln _ _ _ j3 _ h13 (fun _ => he) (fun n => absurd h15 n)) ?_
        have h16 := h16 h15
        refine zS1 (fun r he => B_X3_allSo_r22_r35_52 Ln _ _ _ _  he) ?_
        have q := hK2 _ h16
        exact q (some _)
      · refine zS1 (fun r he => B_X3_allSo_r22_r35_39_s1 Ln _ _ _ j3 _ h13 (fun n => absurd n h15) (fun _ => he)) ?_
        have h17 := h17 h15
        exact ⟨_, B_X3_allSo_r22_r35_50 Ln _ _ _ _ , _, rfl, h17⟩
    · refine zS1 (fun r he => B_X3_allSo_r22_r35_10 Ln _ _ _ j3 h4 h6 h8 (fun n => absurd n h10) (fun _ => he)) ?_
      have h12 := h12 h10
      refine zS1 (fun r he => B_X3_allSo_r22_r35_34 Ln _ _ _ j3  he) ?_
      obtain ⟨h18, h19⟩ := h12
      obtain ⟨h21, h22⟩ := h19
      by_cases h20 : (1 : Int32) = (A 25 (v2).toNatClampNeg)
      · refine zS1 (fun r he => B_X3_allSo_r22_r35_39_s1 Ln _ _ _ j3 _ h18 (fun _ => he) (fun n => absurd h20 n)) ?_
        have h21 := h21 h20
        refine zS1 (fun r he => B_X3_allSo_r22_r35_52 Ln _ _ _ _  he) ?_
        have q := hK2 _ h21
        exact q (some _)
      · refine zS1 (fun r he => B_X3_allSo_r22_r35_39_s1 Ln _ _ _ j3 _ h18 (fun n => absurd n h20) (fun _ => he)) ?_
        have h22 := h22 h20
        exact ⟨_, B_X3_allSo_r22_r35_50 Ln _ _ _ _ , _, rfl, h22⟩
def W_X3_allSo_r22_r35 (Ln : Nat) (I A : Nat → Nat → Int32) (Q : Int32 → Prop) : Prop := ((zLoop (L_X3_allSo_r22_r35_2 Ln I A  Q) 0))
set_option maxRecDepth 100000 in
theorem T_X3_allSo_r22_r35 (Ln : Nat) (I A : Nat → Nat → Int32) (Q : Int32 → Prop) (h0 : W_X3_allSo_r22_r35 Ln I A Q) : zSem 20 0 0 0 [some (.ref 22), some (.ref 35), none, none] [] (zGs Ln I A) (fun r => ∃ x, r = (some (.int x), zGs Ln I A) ∧ Q x) := by
  unfold W_X3_allSo_r22_r35 at h0
  refine zS1 (fun r he => B_X3_allSo_r22_r35_0 Ln _ _   he) ?_
  exact TL_X3_allSo_r22_r35_2  _ h0 none
def W_X8_lost (Ln : Nat) (I A : Nat → Nat → Int32) (Q : Int64 → Prop) : Prop := (Q (-9223372036854775808))
set_option maxRecDepth 100000 in
theorem T_X8_lost (Ln : Nat) (I A : Nat → Nat → Int32) (Q : Int64 → Prop) (h0 : W_X8_lost Ln I A Q) : zSem 95 0 0 0 [] [] (zGs Ln I A) (fun r => ∃ x, r = (some (.long x), zGs Ln I A) ∧ Q x) := by
  unfold W_X8_lost at h0
  exact ⟨_, B_X8_lost_0 Ln _ _  , _, rfl, h0⟩
def W_X8_in (Ln : Nat) (I A : Nat → Nat → Int32) (v0 : Int64) (v2 : Int64) (v4 : Int64) (Q : Int32 → Prop) : Prop := ((((lg_cmp v0 v2) : Int32) < 0 → ((Q 0))) ∧ (¬ (((lg_cmp v0 v2) : Int32) < 0) → (((0 : Int32) < (lg_cmp v0 v4) → ((Q 0))) ∧ (¬ ((0 : Int32) < (lg_cmp v0 v4)) → ((Q 1))))))
set_option maxRecDepth 100000 in
theorem T_X8_in (Ln : Nat) (I A : Nat → Nat → Int32) (v0 : Int64) (v2 : Int64) (v4 : Int64) (Q : Int32 → Prop) (h0 : W_X8_in Ln I A v0 v2 v4 Q) : zSem 94 0 0 0 [some (.long (v0)), none, some (.long (v2)), none, some (.long (v4)), none] [] (zGs Ln I A) (fun r => ∃ x, r = (some (.int x), zGs Ln I A) ∧ Q x) := by
  unfold W_X8_in at h0
  obtain ⟨h2, h3⟩ := h0
  by_cases h1 : ((lg_cmp v0 v2) : Int32) < 0
  · refine zS1 (fun r he => B_X8_in_0 Ln _ _ _ _ _  (fun _ => he) (fun n => absurd h1 n)) ?_
    have h2 := h2 h1
    refine zS1 (fun r he => B_X8_in_17 Ln _ _ _ _ _  he) ?_
    exact ⟨_, B_X8_in_18_s1 Ln _ _ _ _ _ _  (by decide), _, rfl, h2⟩
  · refine zS1 (fun r he => B_X8_in_0 Ln _ _ _ _ _  (fun n => absurd n h1) (fun _ => he)) ?_
    have h3 := h3 h1
    obtain ⟨h5, h6⟩ := h3
    by_cases h4 : (0 : Int32) < (lg_cmp v0 v4)
    · refine zS1 (fun r he => B_X8_in_6 Ln _ _ _ _ _  (fun _ => he) (fun n => absurd h4 n)) ?_
      have h5 := h5 h4
      refine zS1 (fun r he => B_X8_in_17 Ln _ _ _ _ _  he) ?_
      exact ⟨_, B_X8_in_18_s1 Ln _ _ _ _ _ _  (by decide), _, rfl, h5⟩
    · refine zS1 (fun r he => B_X8_in_6 Ln _ _ _ _ _  (fun n => absurd n h4) (fun _ => he)) ?_
      have h6 := h6 h4
      refine zS1 (fun r he => B_X8_in_13 Ln _ _ _ _ _  he) ?_
      exact ⟨_, B_X8_in_18_s1 Ln _ _ _ _ _ _  (by decide), _, rfl, h6⟩
def W_X8_noSheet (Ln : Nat) (I A : Nat → Nat → Int32) (v0 : Int32) (Q : Int32 → Prop) : Prop := ((W_X8_in Ln I A (Int32.toInt64 v0) 0 3 (fun (r1 : Int32) => (((r1 : Int32) ≠ 0 → ((Q 0))) ∧ (¬ ((r1 : Int32) ≠ 0) → ((Q 1)))))))
set_option maxRecDepth 100000 in
theorem T_X8_noSheet (Ln : Nat) (I A : Nat → Nat → Int32) (v0 : Int32) (Q : Int32 → Prop) (h0 : W_X8_noSheet Ln I A v0 Q) : zSem 147 0 0 0 [some (.int v0)] [] (zGs Ln I A) (fun r => ∃ x, r = (some (.int x), zGs Ln I A) ∧ Q x) := by
  unfold W_X8_noSheet at h0
  obtain ⟨_, h1, r1, rfl, h2⟩ := T_X8_in Ln _ _ _ _ _ _ h0
  refine zS1 (fun r he => B_X8_noSheet_0 Ln _ _ _  h1 rfl he) ?_
  obtain ⟨h4, h5⟩ := h2
  by_cases h3 : (r1 : Int32) ≠ 0
  · refine zS1 (fun r he => B_X8_noSheet_9_s1 Ln _ _ _ _  (fun _ => he) (fun n => absurd h3 n)) ?_
    have h4 := h4 h3
    refine zS1 (fun r he => B_X8_noSheet_16 Ln _ _ _  he) ?_
    exact ⟨_, B_X8_noSheet_17_s1 Ln _ _ _ _  (by decide), _, rfl, h4⟩
  · refine zS1 (fun r he => B_X8_noSheet_9_s1 Ln _ _ _ _  (fun n => absurd n h3) (fun _ => he)) ?_
    have h5 := h5 h3
    refine zS1 (fun r he => B_X8_noSheet_12 Ln _ _ _  he) ?_
    exact ⟨_, B_X8_noSheet_17_s1 Ln _ _ _ _  (by decide), _, rfl, h5⟩
def W_X8_isIn (Ln : Nat) (I A : Nat → Nat → Int32) (v0 : Int32) (v1 : Int32) (Q : Int32 → Prop) : Prop := (((((v0 >>> (v1 &&& 31)) &&& 1) : Int32) ≠ 1 → ((Q 0))) ∧ (¬ ((((v0 >>> (v1 &&& 31)) &&& 1) : Int32) ≠ 1) → ((Q 1))))
set_option maxRecDepth 100000 in
theorem T_X8_isIn (Ln : Nat) (I A : Nat → Nat → Int32) (v0 : Int32) (v1 : Int32) (Q : Int32 → Prop) (h0 : W_X8_isIn Ln I A v0 v1 Q) : zSem 96 0 0 0 [some (.int v0), some (.int v1)] [] (zGs Ln I A) (fun r => ∃ x, r = (some (.int x), zGs Ln I A) ∧ Q x) := by
  unfold W_X8_isIn at h0
  obtain ⟨h2, h3⟩ := h0
  by_cases h1 : (((v0 >>> (v1 &&& 31)) &&& 1) : Int32) ≠ 1
  · refine zS1 (fun r he => B_X8_isIn_0 Ln _ _ _ _  (fun _ => he) (fun n => absurd h1 n)) ?_
    have h2 := h2 h1
    refine zS1 (fun r he => B_X8_isIn_13 Ln _ _ _ _  he) ?_
    exact ⟨_, B_X8_isIn_14_s1 Ln _ _ _ _ _  (by decide), _, rfl, h2⟩
  · refine zS1 (fun r he => B_X8_isIn_0 Ln _ _ _ _  (fun n => absurd n h1) (fun _ => he)) ?_
    have h3 := h3 h1
    refine zS1 (fun r he => B_X8_isIn_9 Ln _ _ _ _  he) ?_
    exact ⟨_, B_X8_isIn_14_s1 Ln _ _ _ _ _  (by decide), _, rfl, h3⟩
def SL_X8_bits_4 (Ln : Nat) (I A : Nat → Nat → Int32) (v0 : Int32) (Q : Int32 → Prop) : Int32 × Int32 → Prop
  | (v1, v2) => zSem 97 4 0 0 [some (.int v0), some (.int v1), some (.int v2)] [] (zGs Ln I A) (fun r => ∃ x, r = (some (.int x), zGs Ln I A) ∧ Q x)
def L_X8_bits_4 (Ln : Nat) (I A : Nat → Nat → Int32) (v0 : Int32) (Q : Int32 → Prop) : Int32 × Int32 → (Int32 × Int32 → Prop) → Prop
  | (v1, v2), K4 => (((v2 : Int32) ≤ 0 → (Q v1)) ∧ (¬ ((v2 : Int32) ≤ 0) → ((K4 ((v1 + (v2 &&& 1)), (v2 >>> (1 &&& 31)))))))
set_option maxRecDepth 100000 in
theorem TL_X8_bits_4 {Ln : Nat} {I A : Nat → Nat → Int32} {v0 : Int32} {Q : Int32 → Prop} : ∀ p, zLoop (L_X8_bits_4 Ln I A v0  Q) p → SL_X8_bits_4 Ln I A v0 Q p := by
  refine zLoop.sound (Sem := SL_X8_bits_4 Ln I A v0 Q) ?_
  rintro ⟨v1, v2⟩ K4 hK4 h0
  show zSem 97 4 0 0 [some (.int v0), some (.int v1), some (.int v2)] [] (zGs Ln I A) (fun r => ∃ x, r = (some (.int x), zGs Ln I A) ∧ Q x)
  change (((v2 : Int32) ≤ 0 → (Q v1)) ∧ (¬ ((v2 : Int32) ≤ 0) → ((K4 ((v1 + (v2 &&& 1)), (v2 >>> (1 &&& 31))))))) at h0
  obtain ⟨h2, h3⟩ := h0
  by_cases h1 : (v2 : Int32) ≤ 0
  · refine zS1 (fun r he => B_X8_bits_4 Ln _ _ _ _ _  (fun _ => he) (fun n => absurd h1 n)) ?_
    have h2 := h2 h1
    exact ⟨_, B_X8_bits_21 Ln _ _ _ _ _ , _, rfl, h2⟩
  · refine zS1 (fun r he => B_X8_bits_4 Ln _ _ _ _ _  (fun n => absurd n h1) (fun _ => he)) ?_
    have h3 := h3 h1
    refine zS1 (fun r he => B_X8_bits_8 Ln _ _ _ _ _  he) ?_
    have q := hK4 _ h3
    exact q
def W_X8_bits (Ln : Nat) (I A : Nat → Nat → Int32) (v0 : Int32) (Q : Int32 → Prop) : Prop := ((zLoop (L_X8_bits_4 Ln I A v0  Q) (0, v0)))
set_option maxRecDepth 100000 in
theorem T_X8_bits (Ln : Nat) (I A : Nat → Nat → Int32) (v0 : Int32) (Q : Int32 → Prop) (h0 : W_X8_bits Ln I A v0 Q) : zSem 97 0 0 0 [some (.int v0), none, none] [] (zGs Ln I A) (fun r => ∃ x, r = (some (.int x), zGs Ln I A) ∧ Q x) := by
  unfold W_X8_bits at h0
  refine zS1 (fun r he => B_X8_bits_0 Ln _ _ _  he) ?_
  exact TL_X8_bits_4  _ h0
def W_X8_noNight (Ln : Nat) (I A : Nat → Nat → Int32) (v0 : Int32) (Q : Int32 → Prop) : Prop := ((W_X8_in Ln I A (Int32.toInt64 v0) 0 59 (fun (r1 : Int32) => (((r1 : Int32) ≠ 0 → ((Q 0))) ∧ (¬ ((r1 : Int32) ≠ 0) → ((Q 1)))))))
set_option maxRecDepth 100000 in
theorem T_X8_noNight (Ln : Nat) (I A : Nat → Nat → Int32) (v0 : Int32) (Q : Int32 → Prop) (h0 : W_X8_noNight Ln I A v0 Q) : zSem 102 0 0 0 [some (.int v0)] [] (zGs Ln I A) (fun r => ∃ x, r = (some (.int x), zGs Ln I A) ∧ Q x) := by
  unfold W_X8_noNight at h0
  obtain ⟨_, h1, r1, rfl, h2⟩ := T_X8_in Ln _ _ _ _ _ _ h0
  refine zS1 (fun r he => B_X8_noNight_0 Ln _ _ _  h1 rfl he) ?_
  obtain ⟨h4, h5⟩ := h2
  by_cases h3 : (r1 : Int32) ≠ 0
  · refine zS1 (fun r he => B_X8_noNight_9_s1 Ln _ _ _ _  (fun _ => he) (fun n => absurd h3 n)) ?_
    have h4 := h4 h3
    refine zS1 (fun r he => B_X8_noNight_16 Ln _ _ _  he) ?_
    exact ⟨_, B_X8_noNight_17_s1 Ln _ _ _ _  (by decide), _, rfl, h4⟩
  · refine zS1 (fun r he => B_X8_noNight_9_s1 Ln _ _ _ _  (fun n => absurd n h3) (fun _ => he)) ?_
    have h5 := h5 h3
    refine zS1 (fun r he => B_X8_noNight_12 Ln _ _ _  he) ?_
    exact ⟨_, B_X8_noNight_17_s1 Ln _ _ _ _  (by decide), _, rfl, h5⟩
def W_X8_isBeyond (Ln : Nat) (I A : Nat → Nat → Int32) (v0 : Int32) (v1 : Int64) (v3 : Int32) (Q : Int32 → Prop) : Prop := (((v0 : Int32) < 0 → ((Q 1))) ∧ (¬ ((v0 : Int32) < 0) → ((((lg_cmp v1 0) : Int32) < 0 → ((Q 1))) ∧ (¬ (((lg_cmp v1 0) : Int32) < 0) → ((((lg_cmp ((Int32.toInt64 v0) + v1) (Int32.toInt64 v3)) : Int32) ≤ 0 → ((Q 0))) ∧ (¬ (((lg_cmp ((Int32.toInt64 v0) + v1) (Int32.toInt64 v3)) : Int32) ≤ 0) → ((Q 1))))))))
set_option maxRecDepth 100000 in
theorem T_X8_isBeyond (Ln : Nat) (I A : Nat → Nat → Int32) (v0 : Int32) (v1 : Int64) (v3 : Int32) (Q : Int32 → Prop) (h0 : W_X8_isBeyond Ln I A v0 v1 v3 Q) : zSem 153 0 0 0 [some (.int v0), some (.long (v1)), none, some (.int v3)] [] (zGs Ln I A) (fun r => ∃ x, r = (some (.int x), zGs Ln I A) ∧ Q x) := by
  unfold W_X8_isBeyond at h0
  obtain ⟨h2, h3⟩ := h0
  by_cases h1 : (v0 : Int32) < 0
  · refine zS1 (fun r he => B_X8_isBeyond_0 Ln _ _ _ _ _  (fun _ => he) (fun n => absurd h1 n)) ?_
    have h2 := h2 h1
    refine zS1 (fun r he => B_X8_isBeyond_20 Ln _ _ _ _ _  he) ?_
    exact ⟨_, B_X8_isBeyond_25_s1 Ln _ _ _ _ _ _  (by decide), _, rfl, h2⟩
  · refine zS1 (fun r he => B_X8_isBeyond_0 Ln _ _ _ _ _  (fun n => absurd n h1) (fun _ => he)) ?_
    have h3 := h3 h1
    obtain ⟨h5, h6⟩ := h3
    by_cases h4 : ((lg_cmp v1 0) : Int32) < 0
    · refine zS1 (fun r he => B_X8_isBeyond_4 Ln _ _ _ _ _  (fun _ => he) (fun n => absurd h4 n)) ?_
      have h5 := h5 h4
      refine zS1 (fun r he => B_X8_isBeyond_20 Ln _ _ _ _ _  he) ?_
      exact ⟨_, B_X8_isBeyond_25_s1 Ln _ _ _ _ _ _  (by decide), _, rfl, h5⟩
    · refine zS1 (fun r he => B_X8_isBeyond_4 Ln _ _ _ _ _  (fun n => absurd n h4) (fun _ => he)) ?_
      have h6 := h6 h4
      obtain ⟨h8, h9⟩ := h6
      by_cases h7 : ((lg_cmp ((Int32.toInt64 v0) + v1) (Int32.toInt64 v3)) : Int32) ≤ 0
      · refine zS1 (fun r he => B_X8_isBeyond_10 Ln _ _ _ _ _  (fun _ => he) (fun n => absurd h7 n)) ?_
        have h8 := h8 h7
        refine zS1 (fun r he => B_X8_isBeyond_24 Ln _ _ _ _ _  he) ?_
        exact ⟨_, B_X8_isBeyond_25_s1 Ln _ _ _ _ _ _  (by decide), _, rfl, h8⟩
      · refine zS1 (fun r he => B_X8_isBeyond_10 Ln _ _ _ _ _  (fun n => absurd n h7) (fun _ => he)) ?_
        have h9 := h9 h7
        refine zS1 (fun r he => B_X8_isBeyond_20 Ln _ _ _ _ _  he) ?_
        exact ⟨_, B_X8_isBeyond_25_s1 Ln _ _ _ _ _ _  (by decide), _, rfl, h9⟩
def SL_X0_knowsAll_r11_r4_3 (Ln : Nat) (I A : Nat → Nat → Int32) (v2 : Int32) (v3 : Int32) (Q : Int32 → Prop) : Int32 → Prop
  | v4 => zSem 7 3 0 0 [some (.ref 11), some (.ref 4), some (.int v2), some (.int v3), some (.int v4)] [] (zGs Ln I A) (fun r => ∃ x, r = (some (.int x), zGs Ln I A) ∧ Q x)
def L_X0_knowsAll_r11_r4_3 (Ln : Nat) (I A : Nat → Nat → Int32) (v2 : Int32) (v3 : Int32) (Q : Int32 → Prop) : Int32 → (Int32 → Prop) → Prop
  | v4, K3 => (((v3 : Int32) ≤ v4 → (Q 1)) ∧ (¬ ((v3 : Int32) ≤ v4) → ((zin (v2 + v4) 60 = true) ∧ ((((A 4 (v2 + v4).toNatClampNeg) >>> ((I 11 0) &&& 31)) : Int32) = 0 → ((K3 (v4 + 1)))) ∧ (¬ ((((A 4 (v2 + v4).toNatClampNeg) >>> ((I 11 0) &&& 31)) : Int32) = 0) → (Q 0)))))
set_option maxRecDepth 100000 in
theorem TL_X0_knowsAll_r11_r4_3 {Ln : Nat} {I A : Nat → Nat → Int32} {v2 : Int32} {v3 : Int32} {Q : Int32 → Prop} : ∀ p, zLoop (L_X0_knowsAll_r11_r4_3 Ln I A v2 v3  Q) p → SL_X0_knowsAll_r11_r4_3 Ln I A v2 v3 Q p := by
  refine zLoop.sound (Sem := SL_X0_knowsAll_r11_r4_3 Ln I A v2 v3 Q) ?_
  rintro v4 K3 hK3 h0
  show zSem 7 3 0 0 [some (.ref 11), some (.ref 4), some (.int v2), some (.int v3), some (.int v4)] [] (zGs Ln I A) (fun r => ∃ x, r = (some (.int x), zGs Ln I A) ∧ Q x)
  change (((v3 : Int32) ≤ v4 → (Q 1)) ∧ (¬ ((v3 : Int32) ≤ v4) → ((zin (v2 + v4) 60 = true) ∧ ((((A 4 (v2 + v4).toNatClampNeg) >>> ((I 11 0) &&& 31)) : Int32) = 0 → ((K3 (v4 + 1)))) ∧ (¬ ((((A 4 (v2 + v4).toNatClampNeg) >>> ((I 11 0) &&& 31)) : Int32) = 0) → (Q 0))))) at h0
  obtain ⟨h2, h3⟩ := h0
  by_cases h1 : (v3 : Int32) ≤ v4
  · refine zS1 (fun r he => B_X0_knowsAll_r11_r4_3 Ln _ _ _ _ _  (fun _ => he) (fun n => absurd h1 n)) ?_
    have h2 := h2 h1
    exact ⟨_, B_X0_knowsAll_r11_r4_31 Ln _ _ _ _ _ , _, rfl, h2⟩
  · refine zS1 (fun r he => B_X0_knowsAll_r11_r4_3 Ln _ _ _ _ _  (fun n => absurd n h1) (fun _ => he)) ?_
    have h3 := h3 h1
    obtain ⟨h4, h5⟩ := h3
    obtain ⟨h7, h8⟩ := h5
    by_cases h6 : (((A 4 (v2 + v4).toNatClampNeg) >>> ((I 11 0) &&& 31)) : Int32) = 0
    · refine zS1 (fun r he => B_X0_knowsAll_r11_r4_9 Ln _ _ _ _ _ h4 (fun _ => he) (fun n => absurd h6 n)) ?_
      have h7 := h7 h6
      refine zS1 (fun r he => B_X0_knowsAll_r11_r4_25 Ln _ _ _ _ _  he) ?_
      have q := hK3 _ h7
      exact q
    · refine zS1 (fun r he => B_X0_knowsAll_r11_r4_9 Ln _ _ _ _ _ h4 (fun n => absurd n h6) (fun _ => he)) ?_
      have h8 := h8 h6
      exact ⟨_, B_X0_knowsAll_r11_r4_23 Ln _ _ _ _ _ , _, rfl, h8⟩
def W_X0_knowsAll_r11_r4 (Ln : Nat) (I A : Nat → Nat → Int32) (v2 : Int32) (v3 : Int32) (Q : Int32 → Prop) : Prop := ((zLoop (L_X0_knowsAll_r11_r4_3 Ln I A v2 v3  Q) 0))
set_option maxRecDepth 100000 in
theorem T_X0_knowsAll_r11_r4 (Ln : Nat) (I A : Nat → Nat → Int32) (v2 : Int32) (v3 : Int32) (Q : Int32 → Prop) (h0 : W_X0_knowsAll_r11_r4 Ln I A v2 v3 Q) : zSem 7 0 0 0 [some (.ref 11), some (.ref 4), some (.int v2), some (.int v3), none] [] (zGs Ln I A) (fun r => ∃ x, r = (some (.int x), zGs Ln I A) ∧ Q x) := by
  unfold W_X0_knowsAll_r11_r4 at h0
  refine zS1 (fun r he => B_X0_knowsAll_r11_r4_0 Ln _ _ _ _  he) ?_
  exact TL_X0_knowsAll_r11_r4_3  _ h0
def SL_X0_knowsAll_r11_r6_3 (Ln : Nat) (I A : Nat → Nat → Int32) (v2 : Int32) (v3 : Int32) (Q : Int32 → Prop) : Int32 → Prop
  | v4 => zSem 7 3 0 0 [some (.ref 11), some (.ref 6), some (.int v2), some (.int v3), some (.int v4)] [] (zGs Ln I A) (fun r => ∃ x, r = (some (.int x), zGs Ln I A) ∧ Q x)
def L_X0_knowsAll_r11_r6_3 (Ln : Nat) (I A : Nat → Nat → Int32) (v2 : Int32) (v3 : Int32) (Q : Int32 → Prop) : Int32 → (Int32 → Prop) → Prop
  | v4, K3 => (((v3 : Int32) ≤ v4 → (Q 1)) ∧ (¬ ((v3 : Int32) ≤ v4) → ((zin (v2 + v4) 60 = true) ∧ ((((A 6 (v2 + v4).toNatClampNeg) >>> ((I 11 0) &&& 31)) : Int32) = 0 → ((K3 (v4 + 1)))) ∧ (¬ ((((A 6 (v2 + v4).toNatClampNeg) >>> ((I 11 0) &&& 31)) : Int32) = 0) → (Q 0)))))
set_option maxRecDepth 100000 in
theorem TL_X0_knowsAll_r11_r6_3 {Ln : Nat} {I A : Nat → Nat → Int32} {v2 : Int32} {v3 : Int32} {Q : Int32 → Prop} : ∀ p, zLoop (L_X0_knowsAll_r11_r6_3 Ln I A v2 v3  Q) p → SL_X0_knowsAll_r11_r6_3 Ln I A v2 v3 Q p := by
  refine zLoop.sound (Sem := SL_X0_knowsAll_r11_r6_3 Ln I A v2 v3 Q) ?_
  rintro v4 K3 hK3 h0
  show zSem 7 3 0 0 [some (.ref 11), some (.ref 6), some (.int v2), some (.int v3), some (.int v4)] [] (zGs Ln I A) (fun r => ∃ x, r = (some (.int x), zGs Ln I A) ∧ Q x)
  change (((v3 : Int32) ≤ v4 → (Q 1)) ∧ (¬ ((v3 : Int32) ≤ v4) → ((zin (v2 + v4) 60 = true) ∧ ((((A 6 (v2 + v4).toNatClampNeg) >>> ((I 11 0) &&& 31)) : Int32) = 0 → ((K3 (v4 + 1)))) ∧ (¬ ((((A 6 (v2 + v4).toNatClampNeg) >>> ((I 11 0) &&& 31)) : Int32) = 0) → (Q 0))))) at h0
  obtain ⟨h2, h3⟩ := h0
  by_cases h1 : (v3 : Int32) ≤ v4
  · refine zS1 (fun r he => B_X0_knowsAll_r11_r6_3 Ln _ _ _ _ _  (fun _ => he) (fun n => absurd h1 n)) ?_
    have h2 := h2 h1
    exact ⟨_, B_X0_knowsAll_r11_r6_31 Ln _ _ _ _ _ , _, rfl, h2⟩
  · refine zS1 (fun r he => B_X0_knowsAll_r11_r6_3 Ln _ _ _ _ _  (fun n => absurd n h1) (fun _ => he)) ?_
    have h3 := h3 h1
    obtain ⟨h4, h5⟩ := h3
    obtain ⟨h7, h8⟩ := h5
    by_cases h6 : (((A 6 (v2 + v4).toNatClampNeg) >>> ((I 11 0) &&& 31)) : Int32) = 0
    · refine zS1 (fun r he => B_X0_knowsAll_r11_r6_9 Ln _ _ _ _ _ h4 (fun _ => he) (fun n => absurd h6 n)) ?_
      have h7 := h7 h6
      refine zS1 (fun r he => B_X0_knowsAll_r11_r6_25 Ln _ _ _ _ _  he) ?_
      have q := hK3 _ h7
      exact q
    · refine zS1 (fun r he => B_X0_knowsAll_r11_r6_9 Ln _ _ _ _ _ h4 (fun n => absurd n h6) (fun _ => he)) ?_
      have h8 := h8 h6
      exact ⟨_, B_X0_knowsAll_r11_r6_23 Ln _ _ _ _ _ , _, rfl, h8⟩
def W_X0_knowsAll_r11_r6 (Ln : Nat) (I A : Nat → Nat → Int32) (v2 : Int32) (v3 : Int32) (Q : Int32 → Prop) : Prop := ((zLoop (L_X0_knowsAll_r11_r6_3 Ln I A v2 v3  Q) 0))
set_option maxRecDepth 100000 in
theorem T_X0_knowsAll_r11_r6 (Ln : Nat) (I A : Nat → Nat → Int32) (v2 : Int32) (v3 : Int32) (Q : Int32 → Prop) (h0 : W_X0_knowsAll_r11_r6 Ln I A v2 v3 Q) : zSem 7 0 0 0 [some (.ref 11), some (.ref 6), some (.int v2), some (.int v3), none] [] (zGs Ln I A) (fun r => ∃ x, r = (some (.int x), zGs Ln I A) ∧ Q x) := by
  unfold W_X0_knowsAll_r11_r6 at h0
  refine zS1 (fun r he => B_X0_knowsAll_r11_r6_0 Ln _ _ _ _  he) ?_
  exact TL_X0_knowsAll_r11_r6_3  _ h0
