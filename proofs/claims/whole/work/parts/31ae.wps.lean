/-! what a method asks, by program (wip/whole/gen_wp.py) -/
def SL_J7_fill_53178_r8_5 (Ln : Nat) (I : Nat → Nat → Int32) (v1 : Int32) (v3 : Int32) (Q : (Nat → Nat → Int32) → Prop) : Int32 × (Nat → Nat → Int32) → Prop
  | (v2, A) => zSem 163 5 0 0 [some (.ref 8), some (.int v1), some (.int v2), some (.int v3)] [] (zGs Ln I A) (fun r => ∃ A1, r = (none, zGs Ln I A1) ∧ Q A1)
def L_J7_fill_53178_r8_5 (Ln : Nat) (I : Nat → Nat → Int32) (v1 : Int32) (v3 : Int32) (Q : (Nat → Nat → Int32) → Prop) : Int32 × (Nat → Nat → Int32) → (Int32 × (Nat → Nat → Int32) → Prop) → Prop
  | (v2, A), K5 => (((v3 : Int32) ≤ v2 → (Q A)) ∧ (¬ ((v3 : Int32) ≤ v2) → ((zin v2 60 = true) ∧ (K5 ((v2 + 1), (zw A 8 ((v2).toNatClampNeg) v1))))))
set_option maxRecDepth 100000 in
theorem TL_J7_fill_53178_r8_5 {Ln : Nat} {I : Nat → Nat → Int32} {v1 : Int32} {v3 : Int32} {Q : (Nat → Nat → Int32) → Prop} : ∀ p, zLoop (L_J7_fill_53178_r8_5 Ln I v1 v3  Q) p → SL_J7_fill_53178_r8_5 Ln I v1 v3 Q p := by
  refine zLoop.sound (Sem := SL_J7_fill_53178_r8_5 Ln I v1 v3 Q) ?_
  rintro ⟨v2, A⟩ K5 hK5 h0
  show zSem 163 5 0 0 [some (.ref 8), some (.int v1), some (.int v2), some (.int v3)] [] (zGs Ln I A) (fun r => ∃ A1, r = (none, zGs Ln I A1) ∧ Q A1)
  change (((v3 : Int32) ≤ v2 → (Q A)) ∧ (¬ ((v3 : Int32) ≤ v2) → ((zin v2 60 = true) ∧ (K5 ((v2 + 1), (zw A 8 ((v2).toNatClampNeg) v1)))))) at h0
  obtain ⟨h2, h3⟩ := h0
  by_cases h1 : (v3 : Int32) ≤ v2
  · refine zS1 (fun r he => B_J7_fill_53178_r8_5 Ln _ _ _ _ _  (fun _ => he) (fun n => absurd h1 n)) ?_
    have h2 := h2 h1
    exact ⟨_, B_J7_fill_53178_r8_20 Ln _ _ _ _ _ , _, rfl, h2⟩
  · refine zS1 (fun r he => B_J7_fill_53178_r8_5 Ln _ _ _ _ _  (fun n => absurd n h1) (fun _ => he)) ?_
    have h3 := h3 h1
    obtain ⟨h4, h5⟩ := h3
    refine zS1 (fun r he => B_J7_fill_53178_r8_10 Ln _ _ _ _ _ h4 he) ?_
    have q := hK5 _ h5
    exact q
def W_J7_fill_53178_r8 (Ln : Nat) (I A : Nat → Nat → Int32) (v1 : Int32) (Q : (Nat → Nat → Int32) → Prop) : Prop := ((zLoop (L_J7_fill_53178_r8_5 Ln I v1 60  Q) (0, A)))
set_option maxRecDepth 100000 in
theorem T_J7_fill_53178_r8 (Ln : Nat) (I A : Nat → Nat → Int32) (v1 : Int32) (Q : (Nat → Nat → Int32) → Prop) (h0 : W_J7_fill_53178_r8 Ln I A v1 Q) : zSem 163 0 0 0 [some (.ref 8), some (.int v1), none, none] [] (zGs Ln I A) (fun r => ∃ A1, r = (none, zGs Ln I A1) ∧ Q A1) := by
  unfold W_J7_fill_53178_r8 at h0
  refine zS1 (fun r he => B_J7_fill_53178_r8_0 Ln _ _ _  he) ?_
  exact TL_J7_fill_53178_r8_5  _ h0
def SL_J7_fill_53178_r10_5 (Ln : Nat) (I : Nat → Nat → Int32) (v1 : Int32) (v3 : Int32) (Q : (Nat → Nat → Int32) → Prop) : Int32 × (Nat → Nat → Int32) → Prop
  | (v2, A) => zSem 163 5 0 0 [some (.ref 10), some (.int v1), some (.int v2), some (.int v3)] [] (zGs Ln I A) (fun r => ∃ A1, r = (none, zGs Ln I A1) ∧ Q A1)
def L_J7_fill_53178_r10_5 (Ln : Nat) (I : Nat → Nat → Int32) (v1 : Int32) (v3 : Int32) (Q : (Nat → Nat → Int32) → Prop) : Int32 × (Nat → Nat → Int32) → (Int32 × (Nat → Nat → Int32) → Prop) → Prop
  | (v2, A), K5 => (((v3 : Int32) ≤ v2 → (Q A)) ∧ (¬ ((v3 : Int32) ≤ v2) → ((zin v2 60 = true) ∧ (K5 ((v2 + 1), (zw A 10 ((v2).toNatClampNeg) v1))))))
set_option maxRecDepth 100000 in
theorem TL_J7_fill_53178_r10_5 {Ln : Nat} {I : Nat → Nat → Int32} {v1 : Int32} {v3 : Int32} {Q : (Nat → Nat → Int32) → Prop} : ∀ p, zLoop (L_J7_fill_53178_r10_5 Ln I v1 v3  Q) p → SL_J7_fill_53178_r10_5 Ln I v1 v3 Q p := by
  refine zLoop.sound (Sem := SL_J7_fill_53178_r10_5 Ln I v1 v3 Q) ?_
  rintro ⟨v2, A⟩ K5 hK5 h0
  show zSem 163 5 0 0 [some (.ref 10), some (.int v1), some (.int v2), some (.int v3)] [] (zGs Ln I A) (fun r => ∃ A1, r = (none, zGs Ln I A1) ∧ Q A1)
  change (((v3 : Int32) ≤ v2 → (Q A)) ∧ (¬ ((v3 : Int32) ≤ v2) → ((zin v2 60 = true) ∧ (K5 ((v2 + 1), (zw A 10 ((v2).toNatClampNeg) v1)))))) at h0
  obtain ⟨h2, h3⟩ := h0
  by_cases h1 : (v3 : Int32) ≤ v2
  · refine zS1 (fun r he => B_J7_fill_53178_r10_5 Ln _ _ _ _ _  (fun _ => he) (fun n => absurd h1 n)) ?_
    have h2 := h2 h1
    exact ⟨_, B_J7_fill_53178_r10_20 Ln _ _ _ _ _ , _, rfl, h2⟩
  · refine zS1 (fun r he => B_J7_fill_53178_r10_5 Ln _ _ _ _ _  (fun n => absurd n h1) (fun _ => he)) ?_
    have h3 := h3 h1
    obtain ⟨h4, h5⟩ := h3
    refine zS1 (fun r he => B_J7_fill_53178_r10_10 Ln _ _ _ _ _ h4 he) ?_
    have q := hK5 _ h5
    exact q
def W_J7_fill_53178_r10 (Ln : Nat) (I A : Nat → Nat → Int32) (v1 : Int32) (Q : (Nat → Nat → Int32) → Prop) : Prop := ((zLoop (L_J7_fill_53178_r10_5 Ln I v1 60  Q) (0, A)))
set_option maxRecDepth 100000 in
theorem T_J7_fill_53178_r10 (Ln : Nat) (I A : Nat → Nat → Int32) (v1 : Int32) (Q : (Nat → Nat → Int32) → Prop) (h0 : W_J7_fill_53178_r10 Ln I A v1 Q) : zSem 163 0 0 0 [some (.ref 10), some (.int v1), none, none] [] (zGs Ln I A) (fun r => ∃ A1, r = (none, zGs Ln I A1) ∧ Q A1) := by
  unfold W_J7_fill_53178_r10 at h0
  refine zS1 (fun r he => B_J7_fill_53178_r10_0 Ln _ _ _  he) ?_
  exact TL_J7_fill_53178_r10_5  _ h0
def W_J6_bitCount_0f7a4 (Ln : Nat) (I A : Nat → Nat → Int32) (v0 : Int32) (Q : Int32 → Prop) : Prop := (Q ((((((((v0 - (((Int32.toUInt32 v0 >>> (Int32.toUInt32 1 &&& Int32.toUInt32 31)).toInt32) &&& 1431655765)) &&& 858993459) + (((Int32.toUInt32 (v0 - (((Int32.toUInt32 v0 >>> (Int32.toUInt32 1 &&& Int32.toUInt32 31)).toInt32) &&& 1431655765)) >>> (Int32.toUInt32 2 &&& Int32.toUInt32 31)).toInt32) &&& 858993459)) + ((Int32.toUInt32 (((v0 - (((Int32.toUInt32 v0 >>> (Int32.toUInt32 1 &&& Int32.toUInt32 31)).toInt32) &&& 1431655765)) &&& 858993459) + (((Int32.toUInt32 (v0 - (((Int32.toUInt32 v0 >>> (Int32.toUInt32 1 &&& Int32.toUInt32 31)).toInt32) &&& 1431655765)) >>> (Int32.toUInt32 2 &&& Int32.toUInt32 31)).toInt32) &&& 858993459)) >>> (Int32.toUInt32 4 &&& Int32.toUInt32 31)).toInt32)) &&& 252645135) + ((Int32.toUInt32 (((((v0 - (((Int32.toUInt32 v0 >>> (Int32.toUInt32 1 &&& Int32.toUInt32 31)).toInt32) &&& 1431655765)) &&& 858993459) + (((Int32.toUInt32 (v0 - (((Int32.toUInt32 v0 >>> (Int32.toUInt32 1 &&& Int32.toUInt32 31)).toInt32) &&& 1431655765)) >>> (Int32.toUInt32 2 &&& Int32.toUInt32 31)).toInt32) &&& 858993459)) + ((Int32.toUInt32 (((v0 - (((Int32.toUInt32 v0 >>> (Int32.toUInt32 1 &&& Int32.toUInt32 31)).toInt32) &&& 1431655765)) &&& 858993459) + (((Int32.toUInt32 (v0 - (((Int32.toUInt32 v0 >>> (Int32.toUInt32 1 &&& Int32.toUInt32 31)).toInt32) &&& 1431655765)) >>> (Int32.toUInt32 2 &&& Int32.toUInt32 31)).toInt32) &&& 858993459)) >>> (Int32.toUInt32 4 &&& Int32.toUInt32 31)).toInt32)) &&& 252645135) >>> (Int32.toUInt32 8 &&& Int32.toUInt32 31)).toInt32)) + ((Int32.toUInt32 ((((((v0 - (((Int32.toUInt32 v0 >>> (Int32.toUInt32 1 &&& Int32.toUInt32 31)).toInt32) &&& 1431655765)) &&& 858993459) + (((Int32.toUInt32 (v0 - (((Int32.toUInt32 v0 >>> (Int32.toUInt32 1 &&& Int32.toUInt32 31)).toInt32) &&& 1431655765)) >>> (Int32.toUInt32 2 &&& Int32.toUInt32 31)).toInt32) &&& 858993459)) + ((Int32.toUInt32 (((v0 - (((Int32.toUInt32 v0 >>> (Int32.toUInt32 1 &&& Int32.toUInt32 31)).toInt32) &&& 1431655765)) &&& 858993459) + (((Int32.toUInt32 (v0 - (((Int32.toUInt32 v0 >>> (Int32.toUInt32 1 &&& Int32.toUInt32 31)).toInt32) &&& 1431655765)) >>> (Int32.toUInt32 2 &&& Int32.toUInt32 31)).toInt32) &&& 858993459)) >>> (Int32.toUInt32 4 &&& Int32.toUInt32 31)).toInt32)) &&& 252645135) + ((Int32.toUInt32 (((((v0 - (((Int32.toUInt32 v0 >>> (Int32.toUInt32 1 &&& Int32.toUInt32 31)).toInt32) &&& 1431655765)) &&& 858993459) + (((Int32.toUInt32 (v0 - (((Int32.toUInt32 v0 >>> (Int32.toUInt32 1 &&& Int32.toUInt32 31)).toInt32) &&& 1431655765)) >>> (Int32.toUInt32 2 &&& Int32.toUInt32 31)).toInt32) &&& 858993459)) + ((Int32.toUInt32 (((v0 - (((Int32.toUInt32 v0 >>> (Int32.toUInt32 1 &&& Int32.toUInt32 31)).toInt32) &&& 1431655765)) &&& 858993459) + (((Int32.toUInt32 (v0 - (((Int32.toUInt32 v0 >>> (Int32.toUInt32 1 &&& Int32.toUInt32 31)).toInt32) &&& 1431655765)) >>> (Int32.toUInt32 2 &&& Int32.toUInt32 31)).toInt32) &&& 858993459)) >>> (Int32.toUInt32 4 &&& Int32.toUInt32 31)).toInt32)) &&& 252645135) >>> (Int32.toUInt32 8 &&& Int32.toUInt32 31)).toInt32)) >>> (Int32.toUInt32 16 &&& Int32.toUInt32 31)).toInt32)) &&& 63))
set_option maxRecDepth 100000 in
theorem T_J6_bitCount_0f7a4 (Ln : Nat) (I A : Nat → Nat → Int32) (v0 : Int32) (Q : Int32 → Prop) (h0 : W_J6_bitCount_0f7a4 Ln I A v0 Q) : zSem 162 0 0 0 [some (.int v0)] [] (zGs Ln I A) (fun r => ∃ x, r = (some (.int x), zGs Ln I A) ∧ Q x) := by
  unfold W_J6_bitCount_0f7a4 at h0
  exact ⟨_, B_J6_bitCount_0f7a4_0 Ln _ _ _ , _, rfl, h0⟩
def W_X6_rank_r35_r42 (Ln : Nat) (I A : Nat → Nat → Int32) (v1 : Int32) (v3 : Int32) (Q : Int32 → Prop) : Prop := (((v3 : Int32).toInt = 1 → ((W_X0_heavy_r11 Ln I A v1 (fun (r1 : Int32) => (Q r1))))) ∧ ((v3 : Int32).toInt = 2 → ((zin v1 6 = true) ∧ Q (-(A 42 (v1).toNatClampNeg)))) ∧ (¬ ((v3 : Int32).toInt = 1) → ¬ ((v3 : Int32).toInt = 2) → ((zin v1 6 = true) ∧ Q (A 15 (v1).toNatClampNeg))))
set_option maxRecDepth 100000 in
theorem T_X6_rank_r35_r42 (Ln : Nat) (I A : Nat → Nat → Int32) (v1 : Int32) (v3 : Int32) (Q : Int32 → Prop) (h0 : W_X6_rank_r35_r42 Ln I A v1 v3 Q) : zSem 37 0 0 0 [some (.ref 35), some (.int v1), some (.ref 42), some (.int v3)] [] (zGs Ln I A) (fun r => ∃ x, r = (some (.int x), zGs Ln I A) ∧ Q x) := by
  unfold W_X6_rank_r35_r42 at h0
  obtain ⟨h1, h2, h3⟩ := h0
  by_cases h4 : (v3 : Int32).toInt = 1
  · refine zS1 (fun r he => B_X6_rank_r35_r42_0 Ln _ _ _ _  (fun _ => he) (fun q => absurd (q.symm.trans h4) (by decide)) (fun n0 n1 => absurd h4 n0)) ?_
    have h1 := h1 h4
    obtain ⟨_, h6, r1, rfl, h7⟩ := T_X0_heavy_r11 Ln _ _ _ _ h1
    refine zS1 (fun r he => B_X6_rank_r35_r42_28 Ln _ _ _ _  h6 rfl he) ?_
    exact ⟨_, B_X6_rank_r35_r42_36_s1 Ln _ _ _ _ _ , _, rfl, h7⟩
  by_cases h5 : (v3 : Int32).toInt = 2
  · refine zS1 (fun r he => B_X6_rank_r35_r42_0 Ln _ _ _ _  (fun q => absurd (q.symm.trans h5) (by decide)) (fun _ => he) (fun n0 n1 => absurd h5 n1)) ?_
    have h2 := h2 h5
    obtain ⟨h8, h9⟩ := h2
    exact ⟨_, B_X6_rank_r35_r42_37 Ln _ _ _ _ h8, _, rfl, h9⟩
  refine zS1 (fun r he => B_X6_rank_r35_r42_0 Ln _ _ _ _  (fun q => absurd q h4) (fun q => absurd q h5) (fun _ _ => he)) ?_
  have h3 := h3 h4 h5
  obtain ⟨h10, h11⟩ := h3
  exact ⟨_, B_X6_rank_r35_r42_42 Ln _ _ _ _ h10, _, rfl, h11⟩
def W_X6_rank_r35_r43 (Ln : Nat) (I A : Nat → Nat → Int32) (v1 : Int32) (v3 : Int32) (Q : Int32 → Prop) : Prop := (((v3 : Int32).toInt = 1 → ((W_X0_heavy_r11 Ln I A v1 (fun (r1 : Int32) => (Q r1))))) ∧ ((v3 : Int32).toInt = 2 → ((zin v1 6 = true) ∧ Q (-(A 43 (v1).toNatClampNeg)))) ∧ (¬ ((v3 : Int32).toInt = 1) → ¬ ((v3 : Int32).toInt = 2) → ((zin v1 6 = true) ∧ Q (A 15 (v1).toNatClampNeg))))
set_option maxRecDepth 100000 in
theorem T_X6_rank_r35_r43 (Ln : Nat) (I A : Nat → Nat → Int32) (v1 : Int32) (v3 : Int32) (Q : Int32 → Prop) (h0 : W_X6_rank_r35_r43 Ln I A v1 v3 Q) : zSem 37 0 0 0 [some (.ref 35), some (.int v1), some (.ref 43), some (.int v3)] [] (zGs Ln I A) (fun r => ∃ x, r = (some (.int x), zGs Ln I A) ∧ Q x) := by
  unfold W_X6_rank_r35_r43 at h0
  obtain ⟨h1, h2, h3⟩ := h0
  by_cases h4 : (v3 : Int32).toInt = 1
  · refine zS1 (fun r he => B_X6_rank_r35_r43_0 Ln _ _ _ _  (fun _ => he) (fun q => absurd (q.symm.trans h4) (by decide)) (fun n0 n1 => absurd h4 n0)) ?_
    have h1 := h1 h4
    obtain ⟨_, h6, r1, rfl, h7⟩ := T_X0_heavy_r11 Ln _ _ _ _ h1
    refine zS1 (fun r he => B_X6_rank_r35_r43_28 Ln _ _ _ _  h6 rfl he) ?_
    exact ⟨_, B_X6_rank_r35_r43_36_s1 Ln _ _ _ _ _ , _, rfl, h7⟩
  by_cases h5 : (v3 : Int32).toInt = 2
  · refine zS1 (fun r he => B_X6_rank_r35_r43_0 Ln _ _ _ _  (fun q => absurd (q.symm.trans h5) (by decide)) (fun _ => he) (fun n0 n1 => absurd h5 n1)) ?_
    have h2 := h2 h5
    obtain ⟨h8, h9⟩ := h2
    exact ⟨_, B_X6_rank_r35_r43_37 Ln _ _ _ _ h8, _, rfl, h9⟩
  refine zS1 (fun r he => B_X6_rank_r35_r43_0 Ln _ _ _ _  (fun q => absurd q h4) (fun q => absurd q h5) (fun _ _ => he)) ?_
  have h3 := h3 h4 h5
  obtain ⟨h10, h11⟩ := h3
  exact ⟨_, B_X6_rank_r35_r43_42 Ln _ _ _ _ h10, _, rfl, h11⟩
def W_X6_rank_r28_r42 (Ln : Nat) (I A : Nat → Nat → Int32) (v1 : Int32) (v3 : Int32) (Q : Int32 → Prop) : Prop := (((v3 : Int32).toInt = 1 → ((W_X0_heavy_r11 Ln I A v1 (fun (r1 : Int32) => (Q r1))))) ∧ ((v3 : Int32).toInt = 2 → ((zin v1 6 = true) ∧ Q (-(A 42 (v1).toNatClampNeg)))) ∧ (¬ ((v3 : Int32).toInt = 1) → ¬ ((v3 : Int32).toInt = 2) → ((zin v1 6 = true) ∧ Q (A 15 (v1).toNatClampNeg))))
set_option maxRecDepth 100000 in
theorem T_X6_rank_r28_r42 (Ln : Nat) (I A : Nat → Nat → Int32) (v1 : Int32) (v3 : Int32) (Q : Int32 → Prop) (h0 : W_X6_rank_r28_r42 Ln I A v1 v3 Q) : zSem 37 0 0 0 [some (.ref 28), some (.int v1), some (.ref 42), some (.int v3)] [] (zGs Ln I A) (fun r => ∃ x, r = (some (.int x), zGs Ln I A) ∧ Q x) := by
  unfold W_X6_rank_r28_r42 at h0
  obtain ⟨h1, h2, h3⟩ := h0
  by_cases h4 : (v3 : Int32).toInt = 1
  · refine zS1 (fun r he => B_X6_rank_r28_r42_0 Ln _ _ _ _  (fun _ => he) (fun q => absurd (q.symm.trans h4) (by decide)) (fun n0 n1 => absurd h4 n0)) ?_
    have h1 := h1 h4
    obtain ⟨_, h6, r1, rfl, h7⟩ := T_X0_heavy_r11 Ln _ _ _ _ h1
    refine zS1 (fun r he => B_X6_rank_r28_r42_28 Ln _ _ _ _  h6 rfl he) ?_
    exact ⟨_, B_X6_rank_r28_r42_36_s1 Ln _ _ _ _ _ , _, rfl, h7⟩
  by_cases h5 : (v3 : Int32).toInt = 2
  · refine zS1 (fun r he => B_X6_rank_r28_r42_0 Ln _ _ _ _  (fun q => absurd (q.symm.trans h5) (by decide)) (fun _ => he) (fun n0 n1 => absurd h5 n1)) ?_
    have h2 := h2 h5
    obtain ⟨h8, h9⟩ := h2
    exact ⟨_, B_X6_rank_r28_r42_37 Ln _ _ _ _ h8, _, rfl, h9⟩
  refine zS1 (fun r he => B_X6_rank_r28_r42_0 Ln _ _ _ _  (fun q => absurd q h4) (fun q => absurd q h5) (fun _ _ => he)) ?_
  have h3 := h3 h4 h5
  obtain ⟨h10, h11⟩ := h3
  exact ⟨_, B_X6_rank_r28_r42_42 Ln _ _ _ _ h10, _, rfl, h11⟩
def W_X5_isDigit (Ln : Nat) (I A : Nat → Nat → Int32) (v0 : Int32) (v1 : Int32) (v2 : Int32) (Q : Int32 → Prop) : Prop := (((v0 : Int32) < (48 + v1) → ((Q 0))) ∧ (¬ ((v0 : Int32) < (48 + v1)) → ((((48 + v2) : Int32) < v0 → ((Q 0))) ∧ (¬ (((48 + v2) : Int32) < v0) → ((Q 1))))))
set_option maxRecDepth 100000 in
theorem T_X5_isDigit (Ln : Nat) (I A : Nat → Nat → Int32) (v0 : Int32) (v1 : Int32) (v2 : Int32) (Q : Int32 → Prop) (h0 : W_X5_isDigit Ln I A v0 v1 v2 Q) : zSem 30 0 0 0 [some (.int v0), some (.int v1), some (.int v2)] [] (zGs Ln I A) (fun r => ∃ x, r = (some (.int x), zGs Ln I A) ∧ Q x) := by
  unfold W_X5_isDigit at h0
  obtain ⟨h2, h3⟩ := h0
  by_cases h1 : (v0 : Int32) < (48 + v1)
  · refine zS1 (fun r he => B_X5_isDigit_0 Ln _ _ _ _ _  (fun _ => he) (fun n => absurd h1 n)) ?_
    have h2 := h2 h1
    refine zS1 (fun r he => B_X5_isDigit_20 Ln _ _ _ _ _  he) ?_
    exact ⟨_, B_X5_isDigit_21_s1 Ln _ _ _ _ _ _  (by decide), _, rfl, h2⟩
  · refine zS1 (fun r he => B_X5_isDigit_0 Ln _ _ _ _ _  (fun n => absurd n h1) (fun _ => he)) ?_
    have h3 := h3 h1
    obtain ⟨h5, h6⟩ := h3
    by_cases h4 : ((48 + v2) : Int32) < v0
    · refine zS1 (fun r he => B_X5_isDigit_8 Ln _ _ _ _ _  (fun _ => he) (fun n => absurd h4 n)) ?_
      have h5 := h5 h4
      refine zS1 (fun r he => B_X5_isDigit_20 Ln _ _ _ _ _  he) ?_
      exact ⟨_, B_X5_isDigit_21_s1 Ln _ _ _ _ _ _  (by decide), _, rfl, h5⟩
    · refine zS1 (fun r he => B_X5_isDigit_8 Ln _ _ _ _ _  (fun n => absurd n h4) (fun _ => he)) ?_
      have h6 := h6 h4
      refine zS1 (fun r he => B_X5_isDigit_16 Ln _ _ _ _ _  he) ?_
      exact ⟨_, B_X5_isDigit_21_s1 Ln _ _ _ _ _ _  (by decide), _, rfl, h6⟩
def W_X7_ofShade_r1 (Ln : Nat) (I A : Nat → Nat → Int32) (v1 : Int32) (v2 : Int32) (Q : Int32 → Prop) : Prop := ((W_X7_isShade_r1 Ln I A v1 (fun (r1 : Int32) => (((r1 : Int32) ≠ 0 → (((v2 : Int32).toInt = 0 → ((zin v1 6 = true) ∧ Q (A 12 (v1).toNatClampNeg))) ∧ ((v2 : Int32).toInt = 1 → ((zin v1 6 = true) ∧ Q (A 13 (v1).toNatClampNeg))) ∧ ((v2 : Int32).toInt = 2 → ((zin v1 6 = true) ∧ Q (A 14 (v1).toNatClampNeg))) ∧ ((v2 : Int32).toInt = 3 → ((zin v1 6 = true) ∧ Q (A 15 (v1).toNatClampNeg))) ∧ ((v2 : Int32).toInt = 4 → ((W_X0_price_r11 Ln I A v1 (fun (r2 : Int32) => (Q r2))))) ∧ ((v2 : Int32).toInt = 5 → ((W_X0_heavy_r11 Ln I A v1 (fun (r3 : Int32) => (Q r3))))) ∧ ((v2 : Int32).toInt = 6 → ((zin v1 6 = true) ∧ Q (A 42 (v1).toNatClampNeg))) ∧ (¬ ((v2 : Int32).toInt = 0) → ¬ ((v2 : Int32).toInt = 1) → ¬ ((v2 : Int32).toInt = 2) → ¬ ((v2 : Int32).toInt = 3) → ¬ ((v2 : Int32).toInt = 4) → ¬ ((v2 : Int32).toInt = 5) → ¬ ((v2 : Int32).toInt = 6) → (Q (-2))))) ∧ (¬ ((r1 : Int32) ≠ 0) → (Q (-1)))))))
set_option maxRecDepth 100000 in
theorem T_X7_ofShade_r1 (Ln : Nat) (I A : Nat → Nat → Int32) (v1 : Int32) (v2 : Int32) (Q : Int32 → Prop) (h0 : W_X7_ofShade_r1 Ln I A v1 v2 Q) : zSem 47 0 0 0 [some (.ref 1), some (.int v1), some (.int v2)] [] (zGs Ln I A) (fun r => ∃ x, r = (some (.int x), zGs Ln I A) ∧ Q x) := by
  unfold W_X7_ofShade_r1 at h0
  obtain ⟨_, h1, r1, rfl, h2⟩ := T_X7_isShade_r1 Ln _ _ _ _ h0
  refine zS1 (fun r he => B_X7_ofShade_r1_0 Ln _ _ _ _  h1 rfl he) ?_
  obtain ⟨h4, h5⟩ := h2
  by_cases h3 : (r1 : Int32) ≠ 0
  · refine zS1 (fun r he => B_X7_ofShade_r1_5_s1 Ln _ _ _ _ _  (fun _ => he) (fun n => absurd h3 n)) ?_
    have h4 := h4 h3
    obtain ⟨h6, h7, h8, h9, h10, h11, h12, h13⟩ := h4
    by_cases h14 : (v2 : Int32).toInt = 0
    · refine zS1 (fun r he => B_X7_ofShade_r1_10 Ln _ _ _ _  (fun _ => he) (fun q => absurd (q.symm.trans h14) (by decide)) (fun q => absurd (q.symm.trans h14) (by decide)) (fun q => absurd (q.symm.trans h14) (by decide)) (fun q => absurd (q.symm.trans h14) (by decide)) (fun q => absurd (q.symm.trans h14) (by decide)) (fun q => absurd (q.symm.trans h14) (by decide)) (fun n0 n1 n2 n3 n4 n5 n6 => absurd h14 n0)) ?_
      have h6 := h6 h14
      obtain ⟨h21, h22⟩ := h6
      exact ⟨_, B_X7_ofShade_r1_52 Ln _ _ _ _ h21, _, rfl, h22⟩
    by_cases h15 : (v2 : Int32).toInt = 1
    · refine zS1 (fun r he => B_X7_ofShade_r1_10 Ln _ _ _ _  (fun q => absurd (q.symm.trans h15) (by decide)) (fun _ => he) (fun q => absurd (q.symm.trans h15) (by decide)) (fun q => absurd (q.symm.trans h15) (by decide)) (fun q => absurd (q.symm.trans h15) (by decide)) (fun q => absurd (q.symm.trans h15) (by decide)) (fun q => absurd (q.symm.trans h15) (by decide)) (fun n0 n1 n2 n3 n4 n5 n6 => absurd h15 n1)) ?_
      have h7 := h7 h15
      obtain ⟨h23, h24⟩ := h7
      exact ⟨_, B_X7_ofShade_r1_62 Ln _ _ _ _ h23, _, rfl, h24⟩
    by_cases h16 : (v2 : Int32).toInt = 2
    · refine zS1 (fun r he => B_X7_ofShade_r1_10 Ln _ _ _ _  (fun q => absurd (q.symm.trans h16) (by decide)) (fun q => absurd (q.symm.trans h16) (by decide)) (fun _ => he) (fun q => absurd (q.symm.trans h16) (by decide)) (fun q => absurd (q.symm.trans h16) (by decide)) (fun q => absurd (q.symm.trans h16) (by decide)) (fun q => absurd (q.symm.trans h16) (by decide)) (fun n0 n1 n2 n3 n4 n5 n6 => absurd h16 n2)) ?_
      have h8 := h8 h16
      obtain ⟨h25, h26⟩ := h8
      exact ⟨_, B_X7_ofShade_r1_72 Ln _ _ _ _ h25, _, rfl, h26⟩
    by_cases h17 : (v2 : Int32).toInt = 3
    · refine zS1 (fun r he => B_X7_ofShade_r1_10 Ln _ _ _ _  (fun q => absurd (q.symm.trans h17) (by decide)) (fun q => absurd (q.symm.trans h17) (by decide)) (fun q => absurd (q.symm.trans h17) (by decide)) (fun _ => he) (fun q => absurd (q.symm.trans h17) (by decide)) (fun q => absurd (q.symm.trans h17) (by decide)) (fun q => absurd (q.symm.trans h17) (by decide)) (fun n0 n1 n2 n3 n4 n5 n6 => absurd h17 n3)) ?_
      have h9 := h9 h17
      obtain ⟨h27, h28⟩ := h9
      exact ⟨_, B_X7_ofShade_r1_82 Ln _ _ _ _ h27, _, rfl, h28⟩
    by_cases h18 : (v2 : Int32).toInt = 4
    · refine zS1 (fun r he => B_X7_ofShade_r1_10 Ln _ _ _ _  (fun q => absurd (q.symm.trans h18) (by decide)) (fun q => absurd (q.symm.trans h18) (by decide)) (fun q => absurd (q.symm.trans h18) (by decide)) (fun q => absurd (q.symm.trans h18) (by decide)) (fun _ => he) (fun q => absurd (q.symm.trans h18) (by decide)) (fun q => absurd (q.symm.trans h18) (by decide)) (fun n0 n1 n2 n3 n4 n5 n6 => absurd h18 n4)) ?_
      have h10 := h10 h18
      obtain ⟨_, h29, r2, rfl, h30⟩ := T_X0_price_r11 Ln _ _ _ _ h10
      refine zS1 (fun r he => B_X7_ofShade_r1_92 Ln _ _ _ _  h29 rfl he) ?_
      exact ⟨_, B_X7_ofShade_r1_100_s1 Ln _ _ _ _ _ , _, rfl, h30⟩
    by_cases h19 : (v2 : Int32).toInt = 5
    · refine zS1 (fun r he => B_X7_ofShade_r1_10 Ln _ _ _ _  (fun q => absurd (q.symm.trans h19) (by decide)) (fun q => absurd (q.symm.trans h19) (by decide)) (fun q => absurd (q.symm.trans h19) (by decide)) (fun q => absurd (q.symm.trans h19) (by decide)) (fun q => absurd (q.symm.trans h19) (by decide)) (fun _ => he) (fun q => absurd (q.symm.trans h19) (by decide)) (fun n0 n1 n2 n3 n4 n5 n6 => absurd h19 n5)) ?_
      have h11 := h11 h19
      obtain ⟨_, h31, r3, rfl, h32⟩ := T_X0_heavy_r11 Ln _ _ _ _ h11
      refine zS1 (fun r he => B_X7_ofShade_r1_101 Ln _ _ _ _  h31 rfl he) ?_
      exact ⟨_, B_X7_ofShade_r1_109_s1 Ln _ _ _ _ _ , _, rfl, h32⟩
    by_cases h20 : (v2 : Int32).toInt = 6
    · refine zS1 (fun r he => B_X7_ofShade_r1_10 Ln _ _ _ _  (fun q => absurd (q.symm.trans h20) (by decide)) (fun q => absurd (q.symm.trans h20) (by decide)) (fun q => absurd (q.symm.trans h20) (by decide)) (fun q => absurd (q.symm.trans h20) (by decide)) (fun q => absurd (q.symm.trans h20) (by decide)) (fun q => absurd (q.symm.trans h20) (by decide)) (fun _ => he) (fun n0 n1 n2 n3 n4 n5 n6 => absurd h20 n6)) ?_
      have h12 := h12 h20
      obtain ⟨h33, h34⟩ := h12
      exact ⟨_, B_X7_ofShade_r1_110 Ln _ _ _ _ h33, _, rfl, h34⟩
    refine zS1 (fun r he => B_X7_ofShade_r1_10 Ln _ _ _ _  (fun q => absurd q h14) (fun q => absurd q h15) (fun q => absurd q h16) (fun q => absurd q h17) (fun q => absurd q h18) (fun q => absurd q h19) (fun q => absurd q h20) (fun _ _ _ _ _ _ _ => he)) ?_
    have h13 := h13 h14 h15 h16 h17 h18 h19 h20
    exact ⟨_, B_X7_ofShade_r1_117 Ln _ _ _ _ , _, rfl, h13⟩
  · refine zS1 (fun r he => B_X7_ofShade_r1_5_s1 Ln _ _ _ _ _  (fun n => absurd n h3) (fun _ => he)) ?_
    have h5 := h5 h3
    exact ⟨_, B_X7_ofShade_r1_8 Ln _ _ _ _ , _, rfl, h5⟩
def W_X7_over_r1 (Ln : Nat) (I A : Nat → Nat → Int32) (v1 : Int32) (Q : Int32 → Prop) : Prop := ((W_X7_isShade_r1 Ln I A v1 (fun (r1 : Int32) => (((r1 : Int32) = 0 → ((Q (-1)))) ∧ (¬ ((r1 : Int32) = 0) → ((zin v1 6 = true) ∧ (Q (A 29 (v1).toNatClampNeg))))))))
set_option maxRecDepth 100000 in
theorem T_X7_over_r1 (Ln : Nat) (I A : Nat → Nat → Int32) (v1 : Int32) (Q : Int32 → Prop) (h0 : W_X7_over_r1 Ln I A v1 Q) : zSem 51 0 0 0 [some (.ref 1), some (.int v1)] [] (zGs Ln I A) (fun r => ∃ x, r = (some (.int x), zGs Ln I A) ∧ Q x) := by
  unfold W_X7_over_r1 at h0
  obtain ⟨_, h1, r1, rfl, h2⟩ := T_X7_isShade_r1 Ln _ _ _ _ h0
  refine zS1 (fun r he => B_X7_over_r1_0 Ln _ _ _  h1 rfl he) ?_
  obtain ⟨h4, h5⟩ := h2
  by_cases h3 : (r1 : Int32) = 0
  · refine zS1 (fun r he => B_X7_over_r1_5_s1 Ln _ _ _ _  (fun _ => he) (fun n => absurd h3 n)) ?_
    have h4 := h4 h3
    refine zS1 (fun r he => B_X7_over_r1_20 Ln _ _ _  he) ?_
    exact ⟨_, B_X7_over_r1_21_s1 Ln _ _ _ _ , _, rfl, h4⟩
  · refine zS1 (fun r he => B_X7_over_r1_5_s1 Ln _ _ _ _  (fun n => absurd n h3) (fun _ => he)) ?_
    have h5 := h5 h3
    obtain ⟨h6, h7⟩ := h5
    refine zS1 (fun r he => B_X7_over_r1_8 Ln _ _ _ h6 he) ?_
    exact ⟨_, B_X7_over_r1_21_s1 Ln _ _ _ _ , _, rfl, h7⟩
def W_X7_waits_r1 (Ln : Nat) (I A : Nat → Nat → Int32) (v1 : Int32) (Q : Int32 → Prop) : Prop := ((W_X7_isShade_r1 Ln I A v1 (fun (r1 : Int32) => (((r1 : Int32) = 0 → ((Q (-1)))) ∧ (¬ ((r1 : Int32) = 0) → ((W_X6_waitOf_r28 Ln I A v1 (fun (r2 : Int32) => ((Q r2))))))))))
set_option maxRecDepth 100000 in
theorem T_X7_waits_r1 (Ln : Nat) (I A : Nat → Nat → Int32) (v1 : Int32) (Q : Int32 → Prop) (h0 : W_X7_waits_r1 Ln I A v1 Q) : zSem 55 0 0 0 [some (.ref 1), some (.int v1)] [] (zGs Ln I A) (fun r => ∃ x, r = (some (.int x), zGs Ln I A) ∧ Q x) := by
  unfold W_X7_waits_r1 at h0
  obtain ⟨_, h1, r1, rfl, h2⟩ := T_X7_isShade_r1 Ln _ _ _ _ h0
  refine zS1 (fun r he => B_X7_waits_r1_0 Ln _ _ _  h1 rfl he) ?_
  obtain ⟨h4, h5⟩ := h2
  by_cases h3 : (r1 : Int32) = 0
  · refine zS1 (fun r he => B_X7_waits_r1_5_s1 Ln _ _ _ _  (fun _ => he) (fun n => absurd h3 n)) ?_
    have h4 := h4 h3
    refine zS1 (fun r he => B_X7_waits_r1_19 Ln _ _ _  he) ?_
    exact ⟨_, B_X7_waits_r1_20_s1 Ln _ _ _ _ , _, rfl, h4⟩
  · refine zS1 (fun r he => B_X7_waits_r1_5_s1 Ln _ _ _ _  (fun n => absurd n h3) (fun _ => he)) ?_
    have h5 := h5 h3
    obtain ⟨_, h6, r2, rfl, h7⟩ := T_X6_waitOf_r28 Ln _ _ _ _ h5
    refine zS1 (fun r he => B_X7_waits_r1_8 Ln _ _ _  h6 rfl he) ?_
    refine zS1 (fun r he => B_X7_waits_r1_16_s1 Ln _ _ _ _  he) ?_
    exact ⟨_, B_X7_waits_r1_20_s1 Ln _ _ _ _ , _, rfl, h7⟩
def W_X7_allWait_r1 (Ln : Nat) (I A : Nat → Nat → Int32) (Q : Int32 → Prop) : Prop := ((W_X7_noBank_r1 Ln I A  (fun (r1 : Int32) => (((r1 : Int32) = 0 → ((W_X6_waitOfAll_r28 Ln I A  (fun (r2 : Int32) => (Q r2))))) ∧ (¬ ((r1 : Int32) = 0) → ((Q (-3))))))))
set_option maxRecDepth 100000 in
theorem T_X7_allWait_r1 (Ln : Nat) (I A : Nat → Nat → Int32) (Q : Int32 → Prop) (h0 : W_X7_allWait_r1 Ln I A Q) : zSem 56 0 0 0 [some (.ref 1)] [] (zGs Ln I A) (fun r => ∃ x, r = (some (.int x), zGs Ln I A) ∧ Q x) := by
  unfold W_X7_allWait_r1 at h0
  obtain ⟨_, h1, r1, rfl, h2⟩ := T_X7_noBank_r1 Ln _ _ _ h0
  refine zS1 (fun r he => B_X7_allWait_r1_0 Ln _ _   h1 rfl he) ?_
  obtain ⟨h4, h5⟩ := h2
  by_cases h3 : (r1 : Int32) = 0
  · refine zS1 (fun r he => B_X7_allWait_r1_4_s1 Ln _ _ _  (fun _ => he) (fun n => absurd h3 n)) ?_
    have h4 := h4 h3
    obtain ⟨_, h6, r2, rfl, h7⟩ := T_X6_waitOfAll_r28 Ln _ _ _ h4
    refine zS1 (fun r he => B_X7_allWait_r1_12 Ln _ _   h6 rfl he) ?_
    exact ⟨_, B_X7_allWait_r1_19_s1 Ln _ _ _ , _, rfl, h7⟩
  · refine zS1 (fun r he => B_X7_allWait_r1_4_s1 Ln _ _ _  (fun n => absurd n h3) (fun _ => he)) ?_
    have h5 := h5 h3
    refine zS1 (fun r he => B_X7_allWait_r1_7 Ln _ _   he) ?_
    exact ⟨_, B_X7_allWait_r1_19_s1 Ln _ _ _ , _, rfl, h5⟩
def W_X7_reading_r1 (Ln : Nat) (I A : Nat → Nat → Int32) (v1 : Int32) (v2 : Int32) (v3 : Int32) (Q : Int32 → (Nat → Nat → Int32) → (Nat → Nat → Int32) → Prop) : Prop := ((W_X7_isShade_r1 Ln I A v1 (fun (r1 : Int32) => (((r1 : Int32) = 0 → (Q (-1) I A)) ∧ (¬ ((r1 : Int32) = 0) → ((W_X7_isNight Ln I A v2 (fun (r2 : Int32) => (((r2 : Int32) ≠ 0 → ((((I 22 3) : Int32) ≠ 6 → ((W_X3_add_r22 Ln I A v1 v2 v3 (fun (r3 : Int32) (I4 : Nat → Nat → Int32) (A5 : Nat → Nat → Int32) => (Q r3 I4 A5))))) ∧ (¬ (((I 22 3) : Int32) ≠ 6) → (Q (-4) I A)))) ∧ (¬ ((r2 : Int32) ≠ 0) → (Q (-1) I A)))))))))))
set_option maxRecDepth 100000 in
theorem T_X7_reading_r1 (Ln : Nat) (I A : Nat → Nat → Int32) (v1 : Int32) (v2 : Int32) (v3 : Int32) (Q : Int32 → (Nat → Nat → Int32) → (Nat → Nat → Int32) → Prop) (h0 : W_X7_reading_r1 Ln I A v1 v2 v3 Q) : zSem 62 0 0 0 [some (.ref 1), some (.int v1), some (.int v2), some (.int v3)] [] (zGs Ln I A) (fun r => ∃ x I1 A1, r = (some (.int x), zGs Ln I1 A1) ∧ Q x I1 A1) := by
  unfold W_X7_reading_r1 at h0
  obtain ⟨_, h1, r1, rfl, h2⟩ := T_X7_isShade_r1 Ln _ _ _ _ h0
  refine zS1 (fun r he => B_X7_reading_r1_0 Ln _ _ _ _ _  h1 rfl he) ?_
  obtain ⟨h4, h5⟩ := h2
  by_cases h3 : (r1 : Int32) = 0
  · refine zS1 (fun r he => B_X7_reading_r1_5_s1 Ln _ _ _ _ _ _  (fun _ => he) (fun n => absurd h3 n)) ?_
    have h4 := h4 h3
    exact ⟨_, B_X7_reading_r1_15 Ln _ _ _ _ _ , _, _, _, rfl, h4⟩
  · refine zS1 (fun r he => B_X7_reading_r1_5_s1 Ln _ _ _ _ _ _  (fun n => absurd n h3) (fun _ => he)) ?_
    have h5 := h5 h3
    obtain ⟨_, h6, r2, rfl, h7⟩ := T_X7_isNight Ln _ _ _ _ h5
    refine zS1 (fun r he => B_X7_reading_r1_8 Ln _ _ _ _ _  h6 rfl he) ?_
    obtain ⟨h9, h10⟩ := h7
    by_cases h8 : (r2 : Int32) ≠ 0
    · refine zS1 (fun r he => B_X7_reading_r1_12_s1 Ln _ _ _ _ _ _  (fun _ => he) (fun n => absurd h8 n)) ?_
      have h9 := h9 h8
      obtain ⟨h12, h13⟩ := h9
      by_cases h11 : ((I 22 3) : Int32) ≠ 6
      · refine zS1 (fun r he => B_X7_reading_r1_17 Ln _ _ _ _ _  (fun _ => he) (fun n => absurd h11 n)) ?_
        have h12 := h12 h11
        obtain ⟨_, h14, r3, I4, A5, rfl, h15⟩ := T_X3_add_r22 Ln _ _ _ _ _ _ h12
        refine zS1 (fun r he => B_X7_reading_r1_32 Ln _ _ _ _ _  h14 rfl he) ?_
        exact ⟨_, B_X7_reading_r1_42_s1 Ln _ _ _ _ _ _ , _, _, _, rfl, h15⟩
      · refine zS1 (fun r he => B_X7_reading_r1_17 Ln _ _ _ _ _  (fun n => absurd n h11) (fun _ => he)) ?_
        have h13 := h13 h11
        exact ⟨_, B_X7_reading_r1_29 Ln _ _ _ _ _ , _, _, _, rfl, h13⟩
    · refine zS1 (fun r he => B_X7_reading_r1_12_s1 Ln _ _ _ _ _ _  (fun n => absurd n h8) (fun _ => he)) ?_
      have h10 := h10 h8
      exact ⟨_, B_X7_reading_r1_15 Ln _ _ _ _ _ , _, _, _, rfl, h10⟩
def W_X7_tell_r1 (Ln : Nat) (I A : Nat → Nat → Int32) (v1 : Int32) (Q : Int32 → (Nat → Nat → Int32) → Prop) : Prop := ((W_X7_isShade_r1 Ln I A v1 (fun (r1 : Int32) => (((r1 : Int32) ≠ 0 → ((zin v1 6 = true) ∧ ((A 12 (v1).toNatClampNeg : Int32).toInt = 1 → ((W_X7_drownedTells_r1 Ln I A v1 (fun (r2 : Int32) (I3 : Nat → Nat → Int32) => (Q r2 I3))))) ∧ ((A 12 (v1).toNatClampNeg : Int32).toInt = 2 → ((W_X7_livingTells_r1 Ln I A v1 (fun (r4 : Int32) (I5 : Nat → Nat → Int32) => (Q r4 I5))))) ∧ (¬ ((A 12 (v1).toNatClampNeg : Int32).toInt = 1) → ¬ ((A 12 (v1).toNatClampNeg : Int32).toInt = 2) → ((W_X7_shadeTells_r1 Ln I A v1 (fun (r6 : Int32) (I7 : Nat → Nat → Int32) => (Q r6 I7))))))) ∧ (¬ ((r1 : Int32) ≠ 0) → (Q (-1) I))))))
set_option maxRecDepth 100000 in
theorem T_X7_tell_r1 (Ln : Nat) (I A : Nat → Nat → Int32) (v1 : Int32) (Q : Int32 → (Nat → Nat → Int32) → Prop) (h0 : W_X7_tell_r1 Ln I A v1 Q) : zSem 71 0 0 0 [some (.ref 1), some (.int v1)] [] (zGs Ln I A) (fun r => ∃ x I1, r = (some (.int x), zGs Ln I1 A) ∧ Q x I1) := by
  unfold W_X7_tell_r1 at h0
  obtain ⟨_, h1, r1, rfl, h2⟩ := T_X7_isShade_r1 Ln _ _ _ _ h0
  refine zS1 (fun r he => B_X7_tell_r1_0 Ln _ _ _  h1 rfl he) ?_
  obtain ⟨h4, h5⟩ := h2
  by_cases h3 : (r1 : Int32) ≠ 0
  · refine zS1 (fun r he => B_X7_tell_r1_5_s1 Ln _ _ _ _  (fun _ => he) (fun n => absurd h3 n)) ?_
    have h4 := h4 h3
    obtain ⟨h6, h7⟩ := h4
    obtain ⟨h8, h9, h10⟩ := h7
    by_cases h11 : (A 12 (v1).toNatClampNeg : Int32).toInt = 1
    · refine zS1 (fun r he => B_X7_tell_r1_10 Ln _ _ _ h6 (fun _ => he) (fun q => absurd (q.symm.trans h11) (by decide)) (fun n0 n1 => absurd h11 n0)) ?_
      have h8 := h8 h11
      obtain ⟨_, h13, r2, I3, rfl, h14⟩ := T_X7_drownedTells_r1 Ln _ _ _ _ h8
      refine zS1 (fun r he => B_X7_tell_r1_50 Ln _ _ _  h13 rfl he) ?_
      exact ⟨_, B_X7_tell_r1_55_s1 Ln _ _ _ _ , _, _, rfl, h14⟩
    by_cases h12 : (A 12 (v1).toNatClampNeg : Int32).toInt = 2
    · refine zS1 (fun r he => B_X7_tell_r1_10 Ln _ _ _ h6 (fun q => absurd (q.symm.trans h12) (by decide)) (fun _ => he) (fun n0 n1 => absurd h12 n1)) ?_
      have h9 := h9 h12
      obtain ⟨_, h15, r4, I5, rfl, h16⟩ := T_X7_livingTells_r1 Ln _ _ _ _ h9
      refine zS1 (fun r he => B_X7_tell_r1_44 Ln _ _ _  h15 rfl he) ?_
      exact ⟨_, B_X7_tell_r1_49_s1 Ln _ _ _ _ , _, _, rfl, h16⟩
    refine zS1 (fun r he => B_X7_tell_r1_10 Ln _ _ _ h6 (fun q => absurd q h11) (fun q => absurd q h12) (fun _ _ => he)) ?_
    have h10 := h10 h11 h12
    obtain ⟨_, h17, r6, I7, rfl, h18⟩ := T_X7_shadeTells_r1 Ln _ _ _ _ h10
    refine zS1 (fun r he => B_X7_tell_r1_56 Ln _ _ _  h17 rfl he) ?_
    exact ⟨_, B_X7_tell_r1_61_s1 Ln _ _ _ _ , _, _, rfl, h18⟩
  · refine zS1 (fun r he => B_X7_tell_r1_5_s1 Ln _ _ _ _  (fun n => absurd n h3) (fun _ => he)) ?_
    have h5 := h5 h3
    exact ⟨_, B_X7_tell_r1_8 Ln _ _ _ , _, _, rfl, h5⟩
def W_X7_hail_r1 (Ln : Nat) (I A : Nat → Nat → Int32) (v1 : Int32) (Q : Int32 → (Nat → Nat → Int32) → Prop) : Prop := ((W_X7_isShade_r1 Ln I A v1 (fun (r1 : Int32) => (((r1 : Int32) ≠ 0 → ((zin v1 6 = true) ∧ (((A 12 (v1).toNatClampNeg) : Int32) ≠ 2 → ((W_X7_hailByNumber_r1 Ln I A v1 (fun (r2 : Int32) (I3 : Nat → Nat → Int32) => (Q r2 I3))))) ∧ (¬ (((A 12 (v1).toNatClampNeg) : Int32) ≠ 2) → ((W_X7_hailLiving_r1 Ln I A  (fun (r4 : Int32) (I5 : Nat → Nat → Int32) => ((Q r4 I5)))))))) ∧ (¬ ((r1 : Int32) ≠ 0) → (Q (-1) I))))))
set_option maxRecDepth 100000 in
theorem T_X7_hail_r1 (Ln : Nat) (I A : Nat → Nat → Int32) (v1 : Int32) (Q : Int32 → (Nat → Nat → Int32) → Prop) (h0 : W_X7_hail_r1 Ln I A v1 Q) : zSem 72 0 0 0 [some (.ref 1), some (.int v1)] [] (zGs Ln I A) (fun r => ∃ x I1, r = (some (.int x), zGs Ln I1 A) ∧ Q x I1) := by
  unfold W_X7_hail_r1 at h0
  obtain ⟨_, h1, r1, rfl, h2⟩ := T_X7_isShade_r1 Ln _ _ _ _ h0
  refine zS1 (fun r he => B_X7_hail_r1_0 Ln _ _ _  h1 rfl he) ?_
  obtain ⟨h4, h5⟩ := h2
  by_cases h3 : (r1 : Int32) ≠ 0
  · refine zS1 (fun r he => B_X7_hail_r1_5_s1 Ln _ _ _ _  (fun _ => he) (fun n => absurd h3 n)) ?_
    have h4 := h4 h3
    obtain ⟨h6, h7⟩ := h4
    obtain ⟨h9, h10⟩ := h7
    by_cases h8 : ((A 12 (v1).toNatClampNeg) : Int32) ≠ 2
    · refine zS1 (fun r he => B_X7_hail_r1_10 Ln _ _ _ h6 (fun _ => he) (fun n => absurd h8 n)) ?_
      have h9 := h9 h8
      obtain ⟨_, h11, r2, I3, rfl, h12⟩ := T_X7_hailByNumber_r1 Ln _ _ _ _ h9
      refine zS1 (fun r he => B_X7_hail_r1_30 Ln _ _ _  h11 rfl he) ?_
      exact ⟨_, B_X7_hail_r1_35_s1 Ln _ _ _ _ , _, _, rfl, h12⟩
    · refine zS1 (fun r he => B_X7_hail_r1_10 Ln _ _ _ h6 (fun n => absurd n h8) (fun _ => he)) ?_
      have h10 := h10 h8
      obtain ⟨_, h13, r4, I5, rfl, h14⟩ := T_X7_hailLiving_r1 Ln _ _ _ h10
      refine zS1 (fun r he => B_X7_hail_r1_23 Ln _ _ _  h13 rfl he) ?_
      refine zS1 (fun r he => B_X7_hail_r1_27_s1 Ln _ _ _ _  he) ?_
      exact ⟨_, B_X7_hail_r1_35_s1 Ln _ _ _ _ , _, _, rfl, h14⟩
  · refine zS1 (fun r he => B_X7_hail_r1_5_s1 Ln _ _ _ _  (fun n => absurd n h3) (fun _ => he)) ?_
    have h5 := h5 h3
    exact ⟨_, B_X7_hail_r1_8 Ln _ _ _ , _, _, rfl, h5⟩
def J_X7_as_r1_23 (Ln : Nat) (I A : Nat → Nat → Int32) (v1 : Int32) (v2 : Int32) (Q : Int32 → (Nat → Nat → Int32) → Prop) : Prop := ((W_X7_faultless_r1 Ln I A (-2) (fun (r2 : Int32) (I3 : Nat → Nat → Int32) => (Q r2 I3))))
set_option maxRecDepth 100000 in
theorem TJ_X7_as_r1_23 {Ln : Nat} {I A : Nat → Nat → Int32} {v1 : Int32} {v2 : Int32} {Q : Int32 → (Nat → Nat → Int32) → Prop} (h0 : J_X7_as_r1_23 Ln I A v1 v2   Q) : zSem 73 23 0 0 [some (.ref 1), some (.int v1), some (.int v2)] [] (zGs Ln I A) (fun r => ∃ x I1, r = (some (.int x), zGs Ln I1 A) ∧ Q x I1) := by
  unfold J_X7_as_r1_23 at h0
  obtain ⟨_, h1, r2, I3, rfl, h2⟩ := T_X7_faultless_r1 Ln _ _ _ _ h0
  refine zS1 (fun r he => B_X7_as_r1_23 Ln _ _ _ _  h1 rfl he) ?_
  exact ⟨_, B_X7_as_r1_29_s1 Ln _ _ _ _ _ , _, _, rfl, h2⟩
def W_X7_as_r1 (Ln : Nat) (I A : Nat → Nat → Int32) (v1 : Int32) (v2 : Int32) (Q : Int32 → (Nat → Nat → Int32) → Prop) : Prop := ((W_X7_isShade_r1 Ln I A v1 (fun (r1 : Int32) => (((r1 : Int32) ≠ 0 → (((v2 : Int32) < 0 → (J_X7_as_r1_23 Ln I A v1 v2  Q)) ∧ (¬ ((v2 : Int32) < 0) → (((v2 : Int32) < 3 → ((zin v1 6 = true) ∧ ((v2 : Int32) ≤ (A 12 (v1).toNatClampNeg) → ((W_X7_faultless_r1 Ln I A 1 (fun (r4 : Int32) (I5 : Nat → Nat → Int32) => (Q r4 I5))))) ∧ (¬ ((v2 : Int32) ≤ (A 12 (v1).toNatClampNeg)) → ((W_X7_faulted_r1 Ln I A 2 (fun (r6 : Int32) (I7 : Nat → Nat → Int32) => ((Q r6 I7)))))))) ∧ (¬ ((v2 : Int32) < 3) → (J_X7_as_r1_23 Ln I A v1 v2  Q)))))) ∧ (¬ ((r1 : Int32) ≠ 0) → ((W_X7_faultless_r1 Ln I A (-1) (fun (r8 : Int32) (I9 : Nat → Nat → Int32) => (Q r8 I9)))))))))
set_option maxRecDepth 100000 in
theorem T_X7_as_r1 (Ln : Nat) (I A : Nat → Nat → Int32) (v1 : Int32) (v2 : Int32) (Q : Int32 → (Nat → Nat → Int32) → Prop) (h0 : W_X7_as_r1 Ln I A v1 v2 Q) : zSem 73 0 0 0 [some (.ref 1), some (.int v1), some (.int v2)] [] (zGs Ln I A) (fun r => ∃ x I1, r = (some (.int x), zGs Ln I1 A) ∧ Q x I1) := by
  unfold W_X7_as_r1 at h0
  obtain ⟨_, h1, r1, rfl, h2⟩ := T_X7_isShade_r1 Ln _ _ _ _ h0
  refine zS1 (fun r he => B_X7_as_r1_0 Ln _ _ _ _  h1 rfl he) ?_
  obtain ⟨h4, h5⟩ := h2
  by_cases h3 : (r1 : Int32) ≠ 0
  · refine zS1 (fun r he => B_X7_as_r1_5_s1 Ln _ _ _ _ _  (fun _ => he) (fun n => absurd h3 n)) ?_
    have h4 := h4 h3
    obtain ⟨h7, h8⟩ := h4
    by_cases h6 : (v2 : Int32) < 0
    · refine zS1 (fun r he => B_X7_as_r1_14 Ln _ _ _ _  (fun _ => he) (fun n => absurd h6 n)) ?_
      have h7 := h7 h6
      exact TJ_X7_as_r1_23  h7
    · refine zS1 (fun r he => B_X7_as_r1_14 Ln _ _ _ _  (fun n => absurd n h6) (fun _ => he)) ?_
      have h8 := h8 h6
      obtain ⟨h10, h11⟩ := h8
      by_cases h9 : (v2 : Int32) < 3
      · refine zS1 (fun r he => B_X7_as_r1_18 Ln _ _ _ _  (fun _ => he) (fun n => absurd h9 n)) ?_
        have h10 := h10 h9
        obtain ⟨h12, h13⟩ := h10
        obtain ⟨h15, h16⟩ := h13
        by_cases h14 : (v2 : Int32) ≤ (A 12 (v1).toNatClampNeg)
        · refine zS1 (fun r he => B_X7_as_r1_30 Ln _ _ _ _ h12 (fun _ => he) (fun n => absurd h14 n)) ?_
          have h15 := h15 h14
          obtain ⟨_, h17, r4, I5, rfl, h18⟩ := T_X7_faultless_r1 Ln _ _ _ _ h15
          refine zS1 (fun r he => B_X7_as_r1_51 Ln _ _ _ _  h17 rfl he) ?_
          exact ⟨_, B_X7_as_r1_56_s1 Ln _ _ _ _ _ , _, _, rfl, h18⟩
        · refine zS1 (fun r he => B_X7_as_r1_30 Ln _ _ _ _ h12 (fun n => absurd n h14) (fun _ => he)) ?_
          have h16 := h16 h14
          obtain ⟨_, h19, r6, I7, rfl, h20⟩ := T_X7_faulted_r1 Ln _ _ _ _ h16
          refine zS1 (fun r he => B_X7_as_r1_43 Ln _ _ _ _  h19 rfl he) ?_
          refine zS1 (fun r he => B_X7_as_r1_48_s1 Ln _ _ _ _ _  he) ?_
          exact ⟨_, B_X7_as_r1_56_s1 Ln _ _ _ _ _ , _, _, rfl, h20⟩
      · refine zS1 (fun r he => B_X7_as_r1_18 Ln _ _ _ _  (fun n => absurd n h9) (fun _ => he)) ?_
        have h11 := h11 h9
        exact TJ_X7_as_r1_23  h11
  · refine zS1 (fun r he => B_X7_as_r1_5_s1 Ln _ _ _ _ _  (fun n => absurd n h3) (fun _ => he)) ?_
    have h5 := h5 h3
    obtain ⟨_, h21, r8, I9, rfl, h22⟩ := T_X7_faultless_r1 Ln _ _ _ _ h5
    refine zS1 (fun r he => B_X7_as_r1_8 Ln _ _ _ _  h21 rfl he) ?_
    exact ⟨_, B_X7_as_r1_13_s1 Ln _ _ _ _ _ , _, _, rfl, h22⟩
def W_X8_failedLong_r44 (Ln : Nat) (I A : Nat → Nat → Int32) (v1 : Int32) (Q : Int64 → (Nat → Nat → Int32) → Prop) : Prop := ((∀ I1 : Nat → Nat → Int32, I1 = zp I 44 0 v1 → (W_X8_lost Ln I1 A  (fun (r2 : Int64) => (Q r2 I1)))))
set_option maxRecDepth 100000 in
theorem T_X8_failedLong_r44 (Ln : Nat) (I A : Nat → Nat → Int32) (v1 : Int32) (Q : Int64 → (Nat → Nat → Int32) → Prop) (h0 : W_X8_failedLong_r44 Ln I A v1 Q) : zSem 100 0 0 0 [some (.ref 44), some (.int v1)] [] (zGs Ln I A) (fun r => ∃ x I1, r = (some (.long x), zGs Ln I1 A) ∧ Q x I1) := by
  unfold W_X8_failedLong_r44 at h0
  have h1 := h0 _ rfl
  obtain ⟨_, h2, r2, rfl, h3⟩ := T_X8_lost Ln _ _ _ h1
  refine zS1 (fun r he => B_X8_failedLong_r44_0 Ln _ _ _  h2 rfl he) ?_
  exact ⟨_, B_X8_failedLong_r44_8_s1 Ln _ _ _ _ , _, _, rfl, h3⟩
def W_X8_noShade_r44 (Ln : Nat) (I A : Nat → Nat → Int32) (v1 : Int32) (Q : Int32 → Prop) : Prop := ((W_X8_in Ln I A (Int32.toInt64 v1) 0 ((Int32.toInt64 (I 44 4)) - 1) (fun (r1 : Int32) => (((r1 : Int32) ≠ 0 → ((Q 0))) ∧ (¬ ((r1 : Int32) ≠ 0) → ((Q 1)))))))
set_option maxRecDepth 100000 in
theorem T_X8_noShade_r44 (Ln : Nat) (I A : Nat → Nat → Int32) (v1 : Int32) (Q : Int32 → Prop) (h0 : W_X8_noShade_r44 Ln I A v1 Q) : zSem 101 0 0 0 [some (.ref 44), some (.int v1)] [] (zGs Ln I A) (fun r => ∃ x, r = (some (.int x), zGs Ln I A) ∧ Q x) := by
  unfold W_X8_noShade_r44 at h0
  obtain ⟨_, h1, r1, rfl, h2⟩ := T_X8_in Ln _ _ _ _ _ _ h0
  refine zS1 (fun r he => B_X8_noShade_r44_0 Ln _ _ _  h1 rfl he) ?_
  obtain ⟨h4, h5⟩ := h2
  by_cases h3 : (r1 : Int32) ≠ 0
  · refine zS1 (fun r he => B_X8_noShade_r44_13_s1 Ln _ _ _ _  (fun _ => he) (fun n => absurd h3 n)) ?_
    have h4 := h4 h3
    refine zS1 (fun r he => B_X8_noShade_r44_20 Ln _ _ _  he) ?_
    exact ⟨_, B_X8_noShade_r44_21_s1 Ln _ _ _ _  (by decide), _, rfl, h4⟩
  · refine zS1 (fun r he => B_X8_noShade_r44_13_s1 Ln _ _ _ _  (fun n => absurd n h3) (fun _ => he)) ?_
    have h5 := h5 h3
    refine zS1 (fun r he => B_X8_noShade_r44_16 Ln _ _ _  he) ?_
    exact ⟨_, B_X8_noShade_r44_21_s1 Ln _ _ _ _  (by decide), _, rfl, h5⟩
def J_X8_figure_r44_39_s3 (Ln : Nat) (I A : Nat → Nat → Int32) (v1 : Int32) (v2 : Int32) (v3 : Int32) (v4 : Int32) (v5 : Int32) (v6 : Int32) (s1 : Int32) (s2 : Int32) (Q : Int32 → (Nat → Nat → Int32) → Prop) : Prop := (((v6 : Int32) = 0 → (∀ I3 : Nat → Nat → Int32, I3 = zp I 44 11 (s1 + s2) → ((Q (-9) I3)))) ∧ (¬ ((v6 : Int32) = 0) → (∀ I4 : Nat → Nat → Int32, I4 = zp I 44 11 (s1 + s2) → ((Q v5 I4)))))
set_option maxRecDepth 100000 in
theorem TJ_X8_figure_r44_39_s3 {Ln : Nat} {I A : Nat → Nat → Int32} {v1 : Int32} {v2 : Int32} {v3 : Int32} {v4 : Int32} {v5 : Int32} {v6 : Int32} {s1 : Int32} {s2 : Int32} {Q : Int32 → (Nat → Nat → Int32) → Prop} (h0 : J_X8_figure_r44_39_s3 Ln I A v1 v2 v3 v4 v5 v6 s1 s2  Q) : zSem 105 39 0 0 [some (.ref 44), some (.int v1), some (.int v2), some (.int v3), some (.int v4), some (.int v5), some (.int v6)] [.int s2, .int s1, .ref 44] (zGs Ln I A) (fun r => ∃ x I1, r = (some (.int x), zGs Ln I1 A) ∧ Q x I1) := by
  unfold J_X8_figure_r44_39_s3 at h0
  obtain ⟨h2, h3⟩ := h0
  by_cases h1 : (v6 : Int32) = 0
  · refine zS1 (fun r he => B_X8_figure_r44_39_s3 Ln _ _ _ _ _ _ _ _ _ _  (fun _ => he) (fun n => absurd h1 n)) ?_
    have h2 := h2 h1
    have h4 := h2 _ rfl
    refine zS1 (fun r he => B_X8_figure_r44_53 Ln _ _ _ _ _ _ _ _  he) ?_
    exact ⟨_, B_X8_figure_r44_55_s1 Ln _ _ _ _ _ _ _ _ _ , _, _, rfl, h4⟩
  · refine zS1 (fun r he => B_X8_figure_r44_39_s3 Ln _ _ _ _ _ _ _ _ _ _  (fun n => absurd n h1) (fun _ => he)) ?_
    have h3 := h3 h1
    have h5 := h3 _ rfl
    refine zS1 (fun r he => B_X8_figure_r44_48 Ln _ _ _ _ _ _ _ _  he) ?_
    exact ⟨_, B_X8_figure_r44_55_s1 Ln _ _ _ _ _ _ _ _ _ , _, _, rfl, h5⟩
def W_X8_figure_r44 (Ln : Nat) (I A : Nat → Nat → Int32) (v1 : Int32) (v2 : Int32) (v3 : Int32) (v4 : Int32) (Q : Int32 → (Nat → Nat → Int32) → Prop) : Prop := ((W_X8_codeAt_r44 Ln I A v1 v2 (fun (r1 : Int32) => ((W_X8_in Ln I A (Int32.toInt64 (r1 - 48)) (Int32.toInt64 v3) (Int32.toInt64 v4) (fun (r2 : Int32) => (((r2 : Int32) = 0 → ((J_X8_figure_r44_39_s3 Ln I A v1 v2 v3 v4 (r1 - 48) r2 (I 44 11) 0  Q))) ∧ (¬ ((r2 : Int32) = 0) → ((J_X8_figure_r44_39_s3 Ln I A v1 v2 v3 v4 (r1 - 48) r2 (I 44 11) 1  Q))))))))))
set_option maxRecDepth 100000 in
theorem T_X8_figure_r44 (Ln : Nat) (I A : Nat → Nat → Int32) (v1 : Int32) (v2 : Int32) (v3 : Int32) (v4 : Int32) (Q : Int32 → (Nat → Nat → Int32) → Prop) (h0 : W_X8_figure_r44 Ln I A v1 v2 v3 v4 Q) : zSem 105 0 0 0 [some (.ref 44), some (.int v1), some (.int v2), some (.int v3), some (.int v4), none, none] [] (zGs Ln I A) (fun r => ∃ x I1, r = (some (.int x), zGs Ln I1 A) ∧ Q x I1) := by
  unfold W_X8_figure_r44 at h0
  obtain ⟨_, h1, r1, rfl, h2⟩ := T_X8_codeAt_r44 Ln _ _ _ _ _ h0
  refine zS1 (fun r he => B_X8_figure_r44_0 Ln _ _ _ _ _ _  h1 rfl he) ?_
  obtain ⟨_, h3, r2, rfl, h4⟩ := T_X8_in Ln _ _ _ _ _ _ h2
  refine zS1 (fun r he => B_X8_figure_r44_6_s1 Ln _ _ _ _ _ _ _  h3 rfl he) ?_
  obtain ⟨h6, h7⟩ := h4
  by_cases h5 : (r2 : Int32) = 0
  · refine zS1 (fun r he => B_X8_figure_r44_22_s1 Ln _ _ _ _ _ _ _ _  (fun _ => he) (fun n => absurd h5 n)) ?_
    have h6 := h6 h5
    refine zS1 (fun r he => B_X8_figure_r44_38_s2 Ln _ _ _ _ _ _ _ _ _  he) ?_
    exact TJ_X8_figure_r44_39_s3  h6
  · refine zS1 (fun r he => B_X8_figure_r44_22_s1 Ln _ _ _ _ _ _ _ _  (fun n => absurd n h5) (fun _ => he)) ?_
    have h7 := h7 h5
    refine zS1 (fun r he => B_X8_figure_r44_34_s2 Ln _ _ _ _ _ _ _ _ _  he) ?_
    exact TJ_X8_figure_r44_39_s3  h7
