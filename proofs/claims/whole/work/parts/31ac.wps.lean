/-! what a method asks, by program (wip/whole/gen_wp.py) -/
def SL_X0_knowsAll_r11_r8_3 (Ln : Nat) (I A : Nat → Nat → Int32) (v2 : Int32) (v3 : Int32) (Q : Int32 → Prop) : Int32 → Prop
  | v4 => zSem 7 3 0 0 [some (.ref 11), some (.ref 8), some (.int v2), some (.int v3), some (.int v4)] [] (zGs Ln I A) (fun r => ∃ x, r = (some (.int x), zGs Ln I A) ∧ Q x)
def L_X0_knowsAll_r11_r8_3 (Ln : Nat) (I A : Nat → Nat → Int32) (v2 : Int32) (v3 : Int32) (Q : Int32 → Prop) : Int32 → (Int32 → Prop) → Prop
  | v4, K3 => (((v3 : Int32) ≤ v4 → (Q 1)) ∧ (¬ ((v3 : Int32) ≤ v4) → ((zin (v2 + v4) 60 = true) ∧ ((((A 8 (v2 + v4).toNatClampNeg) >>> ((I 11 0) &&& 31)) : Int32) = 0 → ((K3 (v4 + 1)))) ∧ (¬ ((((A 8 (v2 + v4).toNatClampNeg) >>> ((I 11 0) &&& 31)) : Int32) = 0) → (Q 0)))))
set_option maxRecDepth 100000 in
theorem TL_X0_knowsAll_r11_r8_3 {Ln : Nat} {I A : Nat → Nat → Int32} {v2 : Int32} {v3 : Int32} {Q : Int32 → Prop} : ∀ p, zLoop (L_X0_knowsAll_r11_r8_3 Ln I A v2 v3  Q) p → SL_X0_knowsAll_r11_r8_3 Ln I A v2 v3 Q p := by
  refine zLoop.sound (Sem := SL_X0_knowsAll_r11_r8_3 Ln I A v2 v3 Q) ?_
  rintro v4 K3 hK3 h0
  show zSem 7 3 0 0 [some (.ref 11), some (.ref 8), some (.int v2), some (.int v3), some (.int v4)] [] (zGs Ln I A) (fun r => ∃ x, r = (some (.int x), zGs Ln I A) ∧ Q x)
  change (((v3 : Int32) ≤ v4 → (Q 1)) ∧ (¬ ((v3 : Int32) ≤ v4) → ((zin (v2 + v4) 60 = true) ∧ ((((A 8 (v2 + v4).toNatClampNeg) >>> ((I 11 0) &&& 31)) : Int32) = 0 → ((K3 (v4 + 1)))) ∧ (¬ ((((A 8 (v2 + v4).toNatClampNeg) >>> ((I 11 0) &&& 31)) : Int32) = 0) → (Q 0))))) at h0
  obtain ⟨h2, h3⟩ := h0
  by_cases h1 : (v3 : Int32) ≤ v4
  · refine zS1 (fun r he => B_X0_knowsAll_r11_r8_3 Ln _ _ _ _ _  (fun _ => he) (fun n => absurd h1 n)) ?_
    have h2 := h2 h1
    exact ⟨_, B_X0_knowsAll_r11_r8_31 Ln _ _ _ _ _ , _, rfl, h2⟩
  · refine zS1 (fun r he => B_X0_knowsAll_r11_r8_3 Ln _ _ _ _ _  (fun n => absurd n h1) (fun _ => he)) ?_
    have h3 := h3 h1
    obtain ⟨h4, h5⟩ := h3
    obtain ⟨h7, h8⟩ := h5
    by_cases h6 : (((A 8 (v2 + v4).toNatClampNeg) >>> ((I 11 0) &&& 31)) : Int32) = 0
    · refine zS1 (fun r he => B_X0_knowsAll_r11_r8_9 Ln _ _ _ _ _ h4 (fun _ => he) (fun n => absurd h6 n)) ?_
      have h7 := h7 h6
      refine zS1 (fun r he => B_X0_knowsAll_r11_r8_25 Ln _ _ _ _ _  he) ?_
      have q := hK3 _ h7
      exact q
    · refine zS1 (fun r he => B_X0_knowsAll_r11_r8_9 Ln _ _ _ _ _ h4 (fun n => absurd n h6) (fun _ => he)) ?_
      have h8 := h8 h6
      exact ⟨_, B_X0_knowsAll_r11_r8_23 Ln _ _ _ _ _ , _, rfl, h8⟩
def W_X0_knowsAll_r11_r8 (Ln : Nat) (I A : Nat → Nat → Int32) (v2 : Int32) (v3 : Int32) (Q : Int32 → Prop) : Prop := ((zLoop (L_X0_knowsAll_r11_r8_3 Ln I A v2 v3  Q) 0))
set_option maxRecDepth 100000 in
theorem T_X0_knowsAll_r11_r8 (Ln : Nat) (I A : Nat → Nat → Int32) (v2 : Int32) (v3 : Int32) (Q : Int32 → Prop) (h0 : W_X0_knowsAll_r11_r8 Ln I A v2 v3 Q) : zSem 7 0 0 0 [some (.ref 11), some (.ref 8), some (.int v2), some (.int v3), none] [] (zGs Ln I A) (fun r => ∃ x, r = (some (.int x), zGs Ln I A) ∧ Q x) := by
  unfold W_X0_knowsAll_r11_r8 at h0
  refine zS1 (fun r he => B_X0_knowsAll_r11_r8_0 Ln _ _ _ _  he) ?_
  exact TL_X0_knowsAll_r11_r8_3  _ h0
def SL_X0_knowsAll_r11_r10_3 (Ln : Nat) (I A : Nat → Nat → Int32) (v2 : Int32) (v3 : Int32) (Q : Int32 → Prop) : Int32 → Prop
  | v4 => zSem 7 3 0 0 [some (.ref 11), some (.ref 10), some (.int v2), some (.int v3), some (.int v4)] [] (zGs Ln I A) (fun r => ∃ x, r = (some (.int x), zGs Ln I A) ∧ Q x)
def L_X0_knowsAll_r11_r10_3 (Ln : Nat) (I A : Nat → Nat → Int32) (v2 : Int32) (v3 : Int32) (Q : Int32 → Prop) : Int32 → (Int32 → Prop) → Prop
  | v4, K3 => (((v3 : Int32) ≤ v4 → (Q 1)) ∧ (¬ ((v3 : Int32) ≤ v4) → ((zin (v2 + v4) 60 = true) ∧ ((((A 10 (v2 + v4).toNatClampNeg) >>> ((I 11 0) &&& 31)) : Int32) = 0 → ((K3 (v4 + 1)))) ∧ (¬ ((((A 10 (v2 + v4).toNatClampNeg) >>> ((I 11 0) &&& 31)) : Int32) = 0) → (Q 0)))))
set_option maxRecDepth 100000 in
theorem TL_X0_knowsAll_r11_r10_3 {Ln : Nat} {I A : Nat → Nat → Int32} {v2 : Int32} {v3 : Int32} {Q : Int32 → Prop} : ∀ p, zLoop (L_X0_knowsAll_r11_r10_3 Ln I A v2 v3  Q) p → SL_X0_knowsAll_r11_r10_3 Ln I A v2 v3 Q p := by
  refine zLoop.sound (Sem := SL_X0_knowsAll_r11_r10_3 Ln I A v2 v3 Q) ?_
  rintro v4 K3 hK3 h0
  show zSem 7 3 0 0 [some (.ref 11), some (.ref 10), some (.int v2), some (.int v3), some (.int v4)] [] (zGs Ln I A) (fun r => ∃ x, r = (some (.int x), zGs Ln I A) ∧ Q x)
  change (((v3 : Int32) ≤ v4 → (Q 1)) ∧ (¬ ((v3 : Int32) ≤ v4) → ((zin (v2 + v4) 60 = true) ∧ ((((A 10 (v2 + v4).toNatClampNeg) >>> ((I 11 0) &&& 31)) : Int32) = 0 → ((K3 (v4 + 1)))) ∧ (¬ ((((A 10 (v2 + v4).toNatClampNeg) >>> ((I 11 0) &&& 31)) : Int32) = 0) → (Q 0))))) at h0
  obtain ⟨h2, h3⟩ := h0
  by_cases h1 : (v3 : Int32) ≤ v4
  · refine zS1 (fun r he => B_X0_knowsAll_r11_r10_3 Ln _ _ _ _ _  (fun _ => he) (fun n => absurd h1 n)) ?_
    have h2 := h2 h1
    exact ⟨_, B_X0_knowsAll_r11_r10_31 Ln _ _ _ _ _ , _, rfl, h2⟩
  · refine zS1 (fun r he => B_X0_knowsAll_r11_r10_3 Ln _ _ _ _ _  (fun n => absurd n h1) (fun _ => he)) ?_
    have h3 := h3 h1
    obtain ⟨h4, h5⟩ := h3
    obtain ⟨h7, h8⟩ := h5
    by_cases h6 : (((A 10 (v2 + v4).toNatClampNeg) >>> ((I 11 0) &&& 31)) : Int32) = 0
    · refine zS1 (fun r he => B_X0_knowsAll_r11_r10_9 Ln _ _ _ _ _ h4 (fun _ => he) (fun n => absurd h6 n)) ?_
      have h7 := h7 h6
      refine zS1 (fun r he => B_X0_knowsAll_r11_r10_25 Ln _ _ _ _ _  he) ?_
      have q := hK3 _ h7
      exact q
    · refine zS1 (fun r he => B_X0_knowsAll_r11_r10_9 Ln _ _ _ _ _ h4 (fun n => absurd n h6) (fun _ => he)) ?_
      have h8 := h8 h6
      exact ⟨_, B_X0_knowsAll_r11_r10_23 Ln _ _ _ _ _ , _, rfl, h8⟩
def W_X0_knowsAll_r11_r10 (Ln : Nat) (I A : Nat → Nat → Int32) (v2 : Int32) (v3 : Int32) (Q : Int32 → Prop) : Prop := ((zLoop (L_X0_knowsAll_r11_r10_3 Ln I A v2 v3  Q) 0))
set_option maxRecDepth 100000 in
theorem T_X0_knowsAll_r11_r10 (Ln : Nat) (I A : Nat → Nat → Int32) (v2 : Int32) (v3 : Int32) (Q : Int32 → Prop) (h0 : W_X0_knowsAll_r11_r10 Ln I A v2 v3 Q) : zSem 7 0 0 0 [some (.ref 11), some (.ref 10), some (.int v2), some (.int v3), none] [] (zGs Ln I A) (fun r => ∃ x, r = (some (.int x), zGs Ln I A) ∧ Q x) := by
  unfold W_X0_knowsAll_r11_r10 at h0
  refine zS1 (fun r he => B_X0_knowsAll_r11_r10_0 Ln _ _ _ _  he) ?_
  exact TL_X0_knowsAll_r11_r10_3  _ h0
def W_X4_write_r3 (Ln : Nat) (I A : Nat → Nat → Int32) (v1 : Int32) (v2 : Int32) (Q : (Nat → Nat → Int32) → Prop) : Prop := (((I 3 2 : Int32).toInt = 0 → ((zin v1 60 = true) ∧ (Q (zw A 4 ((v1).toNatClampNeg) ((Int32.toInt8 v2).toInt32))))) ∧ ((I 3 2 : Int32).toInt = 1 → ((zin v1 60 = true) ∧ (Q (zw A 4 ((v1).toNatClampNeg) ((Int32.toInt16 v2).toInt32))))) ∧ (¬ ((I 3 2 : Int32).toInt = 0) → ¬ ((I 3 2 : Int32).toInt = 1) → ((zin v1 60 = true) ∧ (Q (zw A 4 ((v1).toNatClampNeg) v2)))))
set_option maxRecDepth 100000 in
theorem T_X4_write_r3 (Ln : Nat) (I A : Nat → Nat → Int32) (v1 : Int32) (v2 : Int32) (Q : (Nat → Nat → Int32) → Prop) (h0 : W_X4_write_r3 Ln I A v1 v2 Q) : zSem 25 0 0 0 [some (.ref 3), some (.int v1), some (.int v2)] [] (zGs Ln I A) (fun r => ∃ A1, r = (none, zGs Ln I A1) ∧ Q A1) := by
  unfold W_X4_write_r3 at h0
  obtain ⟨h1, h2, h3⟩ := h0
  by_cases h4 : (I 3 2 : Int32).toInt = 0
  · refine zS1 (fun r he => B_X4_write_r3_0 Ln _ _ _ _  (fun _ => he) (fun q => absurd (q.symm.trans h4) (by decide)) (fun n0 n1 => absurd h4 n0)) ?_
    have h1 := h1 h4
    obtain ⟨h6, h7⟩ := h1
    refine zS1 (fun r he => B_X4_write_r3_32 Ln _ _ _ _ h6 he) ?_
    exact ⟨_, B_X4_write_r3_61 Ln _ _ _ _ , _, rfl, h7⟩
  by_cases h5 : (I 3 2 : Int32).toInt = 1
  · refine zS1 (fun r he => B_X4_write_r3_0 Ln _ _ _ _  (fun q => absurd (q.symm.trans h5) (by decide)) (fun _ => he) (fun n0 n1 => absurd h5 n1)) ?_
    have h2 := h2 h5
    obtain ⟨h8, h9⟩ := h2
    refine zS1 (fun r he => B_X4_write_r3_43 Ln _ _ _ _ h8 he) ?_
    exact ⟨_, B_X4_write_r3_61 Ln _ _ _ _ , _, rfl, h9⟩
  refine zS1 (fun r he => B_X4_write_r3_0 Ln _ _ _ _  (fun q => absurd q h4) (fun q => absurd q h5) (fun _ _ => he)) ?_
  have h3 := h3 h4 h5
  obtain ⟨h10, h11⟩ := h3
  refine zS1 (fun r he => B_X4_write_r3_54 Ln _ _ _ _ h10 he) ?_
  exact ⟨_, B_X4_write_r3_61 Ln _ _ _ _ , _, rfl, h11⟩
def W_X4_write_r5 (Ln : Nat) (I A : Nat → Nat → Int32) (v1 : Int32) (v2 : Int32) (Q : (Nat → Nat → Int32) → Prop) : Prop := (((I 5 2 : Int32).toInt = 0 → ((zin v1 60 = true) ∧ (Q (zw A 6 ((v1).toNatClampNeg) ((Int32.toInt8 v2).toInt32))))) ∧ ((I 5 2 : Int32).toInt = 1 → ((zin v1 60 = true) ∧ (Q (zw A 6 ((v1).toNatClampNeg) ((Int32.toInt16 v2).toInt32))))) ∧ (¬ ((I 5 2 : Int32).toInt = 0) → ¬ ((I 5 2 : Int32).toInt = 1) → ((zin v1 60 = true) ∧ (Q (zw A 6 ((v1).toNatClampNeg) v2)))))
set_option maxRecDepth 100000 in
theorem T_X4_write_r5 (Ln : Nat) (I A : Nat → Nat → Int32) (v1 : Int32) (v2 : Int32) (Q : (Nat → Nat → Int32) → Prop) (h0 : W_X4_write_r5 Ln I A v1 v2 Q) : zSem 25 0 0 0 [some (.ref 5), some (.int v1), some (.int v2)] [] (zGs Ln I A) (fun r => ∃ A1, r = (none, zGs Ln I A1) ∧ Q A1) := by
  unfold W_X4_write_r5 at h0
  obtain ⟨h1, h2, h3⟩ := h0
  by_cases h4 : (I 5 2 : Int32).toInt = 0
  · refine zS1 (fun r he => B_X4_write_r5_0 Ln _ _ _ _  (fun _ => he) (fun q => absurd (q.symm.trans h4) (by decide)) (fun n0 n1 => absurd h4 n0)) ?_
    have h1 := h1 h4
    obtain ⟨h6, h7⟩ := h1
    refine zS1 (fun r he => B_X4_write_r5_32 Ln _ _ _ _ h6 he) ?_
    exact ⟨_, B_X4_write_r5_61 Ln _ _ _ _ , _, rfl, h7⟩
  by_cases h5 : (I 5 2 : Int32).toInt = 1
  · refine zS1 (fun r he => B_X4_write_r5_0 Ln _ _ _ _  (fun q => absurd (q.symm.trans h5) (by decide)) (fun _ => he) (fun n0 n1 => absurd h5 n1)) ?_
    have h2 := h2 h5
    obtain ⟨h8, h9⟩ := h2
    refine zS1 (fun r he => B_X4_write_r5_43 Ln _ _ _ _ h8 he) ?_
    exact ⟨_, B_X4_write_r5_61 Ln _ _ _ _ , _, rfl, h9⟩
  refine zS1 (fun r he => B_X4_write_r5_0 Ln _ _ _ _  (fun q => absurd q h4) (fun q => absurd q h5) (fun _ _ => he)) ?_
  have h3 := h3 h4 h5
  obtain ⟨h10, h11⟩ := h3
  refine zS1 (fun r he => B_X4_write_r5_54 Ln _ _ _ _ h10 he) ?_
  exact ⟨_, B_X4_write_r5_61 Ln _ _ _ _ , _, rfl, h11⟩
def W_X4_write_r7 (Ln : Nat) (I A : Nat → Nat → Int32) (v1 : Int32) (v2 : Int32) (Q : (Nat → Nat → Int32) → Prop) : Prop := (((I 7 2 : Int32).toInt = 0 → ((zin v1 60 = true) ∧ (Q (zw A 8 ((v1).toNatClampNeg) ((Int32.toInt8 v2).toInt32))))) ∧ ((I 7 2 : Int32).toInt = 1 → ((zin v1 60 = true) ∧ (Q (zw A 8 ((v1).toNatClampNeg) ((Int32.toInt16 v2).toInt32))))) ∧ (¬ ((I 7 2 : Int32).toInt = 0) → ¬ ((I 7 2 : Int32).toInt = 1) → ((zin v1 60 = true) ∧ (Q (zw A 8 ((v1).toNatClampNeg) v2)))))
set_option maxRecDepth 100000 in
theorem T_X4_write_r7 (Ln : Nat) (I A : Nat → Nat → Int32) (v1 : Int32) (v2 : Int32) (Q : (Nat → Nat → Int32) → Prop) (h0 : W_X4_write_r7 Ln I A v1 v2 Q) : zSem 25 0 0 0 [some (.ref 7), some (.int v1), some (.int v2)] [] (zGs Ln I A) (fun r => ∃ A1, r = (none, zGs Ln I A1) ∧ Q A1) := by
  unfold W_X4_write_r7 at h0
  obtain ⟨h1, h2, h3⟩ := h0
  by_cases h4 : (I 7 2 : Int32).toInt = 0
  · refine zS1 (fun r he => B_X4_write_r7_0 Ln _ _ _ _  (fun _ => he) (fun q => absurd (q.symm.trans h4) (by decide)) (fun n0 n1 => absurd h4 n0)) ?_
    have h1 := h1 h4
    obtain ⟨h6, h7⟩ := h1
    refine zS1 (fun r he => B_X4_write_r7_32 Ln _ _ _ _ h6 he) ?_
    exact ⟨_, B_X4_write_r7_61 Ln _ _ _ _ , _, rfl, h7⟩
  by_cases h5 : (I 7 2 : Int32).toInt = 1
  · refine zS1 (fun r he => B_X4_write_r7_0 Ln _ _ _ _  (fun q => absurd (q.symm.trans h5) (by decide)) (fun _ => he) (fun n0 n1 => absurd h5 n1)) ?_
    have h2 := h2 h5
    obtain ⟨h8, h9⟩ := h2
    refine zS1 (fun r he => B_X4_write_r7_43 Ln _ _ _ _ h8 he) ?_
    exact ⟨_, B_X4_write_r7_61 Ln _ _ _ _ , _, rfl, h9⟩
  refine zS1 (fun r he => B_X4_write_r7_0 Ln _ _ _ _  (fun q => absurd q h4) (fun q => absurd q h5) (fun _ _ => he)) ?_
  have h3 := h3 h4 h5
  obtain ⟨h10, h11⟩ := h3
  refine zS1 (fun r he => B_X4_write_r7_54 Ln _ _ _ _ h10 he) ?_
  exact ⟨_, B_X4_write_r7_61 Ln _ _ _ _ , _, rfl, h11⟩
def W_X4_write_r9 (Ln : Nat) (I A : Nat → Nat → Int32) (v1 : Int32) (v2 : Int32) (Q : (Nat → Nat → Int32) → Prop) : Prop := (((I 9 2 : Int32).toInt = 0 → ((zin v1 60 = true) ∧ (Q (zw A 10 ((v1).toNatClampNeg) ((Int32.toInt8 v2).toInt32))))) ∧ ((I 9 2 : Int32).toInt = 1 → ((zin v1 60 = true) ∧ (Q (zw A 10 ((v1).toNatClampNeg) ((Int32.toInt16 v2).toInt32))))) ∧ (¬ ((I 9 2 : Int32).toInt = 0) → ¬ ((I 9 2 : Int32).toInt = 1) → ((zin v1 60 = true) ∧ (Q (zw A 10 ((v1).toNatClampNeg) v2)))))
set_option maxRecDepth 100000 in
theorem T_X4_write_r9 (Ln : Nat) (I A : Nat → Nat → Int32) (v1 : Int32) (v2 : Int32) (Q : (Nat → Nat → Int32) → Prop) (h0 : W_X4_write_r9 Ln I A v1 v2 Q) : zSem 25 0 0 0 [some (.ref 9), some (.int v1), some (.int v2)] [] (zGs Ln I A) (fun r => ∃ A1, r = (none, zGs Ln I A1) ∧ Q A1) := by
  unfold W_X4_write_r9 at h0
  obtain ⟨h1, h2, h3⟩ := h0
  by_cases h4 : (I 9 2 : Int32).toInt = 0
  · refine zS1 (fun r he => B_X4_write_r9_0 Ln _ _ _ _  (fun _ => he) (fun q => absurd (q.symm.trans h4) (by decide)) (fun n0 n1 => absurd h4 n0)) ?_
    have h1 := h1 h4
    obtain ⟨h6, h7⟩ := h1
    refine zS1 (fun r he => B_X4_write_r9_32 Ln _ _ _ _ h6 he) ?_
    exact ⟨_, B_X4_write_r9_61 Ln _ _ _ _ , _, rfl, h7⟩
  by_cases h5 : (I 9 2 : Int32).toInt = 1
  · refine zS1 (fun r he => B_X4_write_r9_0 Ln _ _ _ _  (fun q => absurd (q.symm.trans h5) (by decide)) (fun _ => he) (fun n0 n1 => absurd h5 n1)) ?_
    have h2 := h2 h5
    obtain ⟨h8, h9⟩ := h2
    refine zS1 (fun r he => B_X4_write_r9_43 Ln _ _ _ _ h8 he) ?_
    exact ⟨_, B_X4_write_r9_61 Ln _ _ _ _ , _, rfl, h9⟩
  refine zS1 (fun r he => B_X4_write_r9_0 Ln _ _ _ _  (fun q => absurd q h4) (fun q => absurd q h5) (fun _ _ => he)) ?_
  have h3 := h3 h4 h5
  obtain ⟨h10, h11⟩ := h3
  refine zS1 (fun r he => B_X4_write_r9_54 Ln _ _ _ _ h10 he) ?_
  exact ⟨_, B_X4_write_r9_61 Ln _ _ _ _ , _, rfl, h11⟩
def W_X4_holds_r3 (Ln : Nat) (I A : Nat → Nat → Int32) (v1 : Int32) (v2 : Int32) (Q : Int32 → Prop) : Prop := (((v1 : Int32) < 0 → ((Q 0))) ∧ (¬ ((v1 : Int32) < 0) → ((((I 3 3) : Int32) < v1 → ((Q 0))) ∧ (¬ (((I 3 3) : Int32) < v1) → (((((I 3 3) - v1) : Int32) < v2 → ((Q 0))) ∧ (¬ ((((I 3 3) - v1) : Int32) < v2) → ((Q 1))))))))
set_option maxRecDepth 100000 in
theorem T_X4_holds_r3 (Ln : Nat) (I A : Nat → Nat → Int32) (v1 : Int32) (v2 : Int32) (Q : Int32 → Prop) (h0 : W_X4_holds_r3 Ln I A v1 v2 Q) : zSem 23 0 0 0 [some (.ref 3), some (.int v1), some (.int v2)] [] (zGs Ln I A) (fun r => ∃ x, r = (some (.int x), zGs Ln I A) ∧ Q x) := by
  unfold W_X4_holds_r3 at h0
  obtain ⟨h2, h3⟩ := h0
  by_cases h1 : (v1 : Int32) < 0
  · refine zS1 (fun r he => B_X4_holds_r3_0 Ln _ _ _ _  (fun _ => he) (fun n => absurd h1 n)) ?_
    have h2 := h2 h1
    refine zS1 (fun r he => B_X4_holds_r3_26 Ln _ _ _ _  he) ?_
    exact ⟨_, B_X4_holds_r3_27_s1 Ln _ _ _ _ _  (by decide), _, rfl, h2⟩
  · refine zS1 (fun r he => B_X4_holds_r3_0 Ln _ _ _ _  (fun n => absurd n h1) (fun _ => he)) ?_
    have h3 := h3 h1
    obtain ⟨h5, h6⟩ := h3
    by_cases h4 : ((I 3 3) : Int32) < v1
    · refine zS1 (fun r he => B_X4_holds_r3_4 Ln _ _ _ _  (fun _ => he) (fun n => absurd h4 n)) ?_
      have h5 := h5 h4
      refine zS1 (fun r he => B_X4_holds_r3_26 Ln _ _ _ _  he) ?_
      exact ⟨_, B_X4_holds_r3_27_s1 Ln _ _ _ _ _  (by decide), _, rfl, h5⟩
    · refine zS1 (fun r he => B_X4_holds_r3_4 Ln _ _ _ _  (fun n => absurd n h4) (fun _ => he)) ?_
      have h6 := h6 h4
      obtain ⟨h8, h9⟩ := h6
      by_cases h7 : (((I 3 3) - v1) : Int32) < v2
      · refine zS1 (fun r he => B_X4_holds_r3_12 Ln _ _ _ _  (fun _ => he) (fun n => absurd h7 n)) ?_
        have h8 := h8 h7
        refine zS1 (fun r he => B_X4_holds_r3_26 Ln _ _ _ _  he) ?_
        exact ⟨_, B_X4_holds_r3_27_s1 Ln _ _ _ _ _  (by decide), _, rfl, h8⟩
      · refine zS1 (fun r he => B_X4_holds_r3_12 Ln _ _ _ _  (fun n => absurd n h7) (fun _ => he)) ?_
        have h9 := h9 h7
        refine zS1 (fun r he => B_X4_holds_r3_22 Ln _ _ _ _  he) ?_
        exact ⟨_, B_X4_holds_r3_27_s1 Ln _ _ _ _ _  (by decide), _, rfl, h9⟩
def W_X4_holds_r5 (Ln : Nat) (I A : Nat → Nat → Int32) (v1 : Int32) (v2 : Int32) (Q : Int32 → Prop) : Prop := (((v1 : Int32) < 0 → ((Q 0))) ∧ (¬ ((v1 : Int32) < 0) → ((((I 5 3) : Int32) < v1 → ((Q 0))) ∧ (¬ (((I 5 3) : Int32) < v1) → (((((I 5 3) - v1) : Int32) < v2 → ((Q 0))) ∧ (¬ ((((I 5 3) - v1) : Int32) < v2) → ((Q 1))))))))
set_option maxRecDepth 100000 in
theorem T_X4_holds_r5 (Ln : Nat) (I A : Nat → Nat → Int32) (v1 : Int32) (v2 : Int32) (Q : Int32 → Prop) (h0 : W_X4_holds_r5 Ln I A v1 v2 Q) : zSem 23 0 0 0 [some (.ref 5), some (.int v1), some (.int v2)] [] (zGs Ln I A) (fun r => ∃ x, r = (some (.int x), zGs Ln I A) ∧ Q x) := by
  unfold W_X4_holds_r5 at h0
  obtain ⟨h2, h3⟩ := h0
  by_cases h1 : (v1 : Int32) < 0
  · refine zS1 (fun r he => B_X4_holds_r5_0 Ln _ _ _ _  (fun _ => he) (fun n => absurd h1 n)) ?_
    have h2 := h2 h1
    refine zS1 (fun r he => B_X4_holds_r5_26 Ln _ _ _ _  he) ?_
    exact ⟨_, B_X4_holds_r5_27_s1 Ln _ _ _ _ _  (by decide), _, rfl, h2⟩
  · refine zS1 (fun r he => B_X4_holds_r5_0 Ln _ _ _ _  (fun n => absurd n h1) (fun _ => he)) ?_
    have h3 := h3 h1
    obtain ⟨h5, h6⟩ := h3
    by_cases h4 : ((I 5 3) : Int32) < v1
    · refine zS1 (fun r he => B_X4_holds_r5_4 Ln _ _ _ _  (fun _ => he) (fun n => absurd h4 n)) ?_
      have h5 := h5 h4
      refine zS1 (fun r he => B_X4_holds_r5_26 Ln _ _ _ _  he) ?_
      exact ⟨_, B_X4_holds_r5_27_s1 Ln _ _ _ _ _  (by decide), _, rfl, h5⟩
    · refine zS1 (fun r he => B_X4_holds_r5_4 Ln _ _ _ _  (fun n => absurd n h4) (fun _ => he)) ?_
      have h6 := h6 h4
      obtain ⟨h8, h9⟩ := h6
      by_cases h7 : (((I 5 3) - v1) : Int32) < v2
      · refine zS1 (fun r he => B_X4_holds_r5_12 Ln _ _ _ _  (fun _ => he) (fun n => absurd h7 n)) ?_
        have h8 := h8 h7
        refine zS1 (fun r he => B_X4_holds_r5_26 Ln _ _ _ _  he) ?_
        exact ⟨_, B_X4_holds_r5_27_s1 Ln _ _ _ _ _  (by decide), _, rfl, h8⟩
      · refine zS1 (fun r he => B_X4_holds_r5_12 Ln _ _ _ _  (fun n => absurd n h7) (fun _ => he)) ?_
        have h9 := h9 h7
        refine zS1 (fun r he => B_X4_holds_r5_22 Ln _ _ _ _  he) ?_
        exact ⟨_, B_X4_holds_r5_27_s1 Ln _ _ _ _ _  (by decide), _, rfl, h9⟩
def W_X4_holds_r7 (Ln : Nat) (I A : Nat → Nat → Int32) (v1 : Int32) (v2 : Int32) (Q : Int32 → Prop) : Prop := (((v1 : Int32) < 0 → ((Q 0))) ∧ (¬ ((v1 : Int32) < 0) → ((((I 7 3) : Int32) < v1 → ((Q 0))) ∧ (¬ (((I 7 3) : Int32) < v1) → (((((I 7 3) - v1) : Int32) < v2 → ((Q 0))) ∧ (¬ ((((I 7 3) - v1) : Int32) < v2) → ((Q 1))))))))
set_option maxRecDepth 100000 in
theorem T_X4_holds_r7 (Ln : Nat) (I A : Nat → Nat → Int32) (v1 : Int32) (v2 : Int32) (Q : Int32 → Prop) (h0 : W_X4_holds_r7 Ln I A v1 v2 Q) : zSem 23 0 0 0 [some (.ref 7), some (.int v1), some (.int v2)] [] (zGs Ln I A) (fun r => ∃ x, r = (some (.int x), zGs Ln I A) ∧ Q x) := by
  unfold W_X4_holds_r7 at h0
  obtain ⟨h2, h3⟩ := h0
  by_cases h1 : (v1 : Int32) < 0
  · refine zS1 (fun r he => B_X4_holds_r7_0 Ln _ _ _ _  (fun _ => he) (fun n => absurd h1 n)) ?_
    have h2 := h2 h1
    refine zS1 (fun r he => B_X4_holds_r7_26 Ln _ _ _ _  he) ?_
    exact ⟨_, B_X4_holds_r7_27_s1 Ln _ _ _ _ _  (by decide), _, rfl, h2⟩
  · refine zS1 (fun r he => B_X4_holds_r7_0 Ln _ _ _ _  (fun n => absurd n h1) (fun _ => he)) ?_
    have h3 := h3 h1
    obtain ⟨h5, h6⟩ := h3
    by_cases h4 : ((I 7 3) : Int32) < v1
    · refine zS1 (fun r he => B_X4_holds_r7_4 Ln _ _ _ _  (fun _ => he) (fun n => absurd h4 n)) ?_
      have h5 := h5 h4
      refine zS1 (fun r he => B_X4_holds_r7_26 Ln _ _ _ _  he) ?_
      exact ⟨_, B_X4_holds_r7_27_s1 Ln _ _ _ _ _  (by decide), _, rfl, h5⟩
    · refine zS1 (fun r he => B_X4_holds_r7_4 Ln _ _ _ _  (fun n => absurd n h4) (fun _ => he)) ?_
      have h6 := h6 h4
      obtain ⟨h8, h9⟩ := h6
      by_cases h7 : (((I 7 3) - v1) : Int32) < v2
      · refine zS1 (fun r he => B_X4_holds_r7_12 Ln _ _ _ _  (fun _ => he) (fun n => absurd h7 n)) ?_
        have h8 := h8 h7
        refine zS1 (fun r he => B_X4_holds_r7_26 Ln _ _ _ _  he) ?_
        exact ⟨_, B_X4_holds_r7_27_s1 Ln _ _ _ _ _  (by decide), _, rfl, h8⟩
      · refine zS1 (fun r he => B_X4_holds_r7_12 Ln _ _ _ _  (fun n => absurd n h7) (fun _ => he)) ?_
        have h9 := h9 h7
        refine zS1 (fun r he => B_X4_holds_r7_22 Ln _ _ _ _  he) ?_
        exact ⟨_, B_X4_holds_r7_27_s1 Ln _ _ _ _ _  (by decide), _, rfl, h9⟩
def W_X4_holds_r9 (Ln : Nat) (I A : Nat → Nat → Int32) (v1 : Int32) (v2 : Int32) (Q : Int32 → Prop) : Prop := (((v1 : Int32) < 0 → ((Q 0))) ∧ (¬ ((v1 : Int32) < 0) → ((((I 9 3) : Int32) < v1 → ((Q 0))) ∧ (¬ (((I 9 3) : Int32) < v1) → (((((I 9 3) - v1) : Int32) < v2 → ((Q 0))) ∧ (¬ ((((I 9 3) - v1) : Int32) < v2) → ((Q 1))))))))
set_option maxRecDepth 100000 in
theorem T_X4_holds_r9 (Ln : Nat) (I A : Nat → Nat → Int32) (v1 : Int32) (v2 : Int32) (Q : Int32 → Prop) (h0 : W_X4_holds_r9 Ln I A v1 v2 Q) : zSem 23 0 0 0 [some (.ref 9), some (.int v1), some (.int v2)] [] (zGs Ln I A) (fun r => ∃ x, r = (some (.int x), zGs Ln I A) ∧ Q x) := by
  unfold W_X4_holds_r9 at h0
  obtain ⟨h2, h3⟩ := h0
  by_cases h1 : (v1 : Int32) < 0
  · refine zS1 (fun r he => B_X4_holds_r9_0 Ln _ _ _ _  (fun _ => he) (fun n => absurd h1 n)) ?_
    have h2 := h2 h1
    refine zS1 (fun r he => B_X4_holds_r9_26 Ln _ _ _ _  he) ?_
    exact ⟨_, B_X4_holds_r9_27_s1 Ln _ _ _ _ _  (by decide), _, rfl, h2⟩
  · refine zS1 (fun r he => B_X4_holds_r9_0 Ln _ _ _ _  (fun n => absurd n h1) (fun _ => he)) ?_
    have h3 := h3 h1
    obtain ⟨h5, h6⟩ := h3
    by_cases h4 : ((I 9 3) : Int32) < v1
    · refine zS1 (fun r he => B_X4_holds_r9_4 Ln _ _ _ _  (fun _ => he) (fun n => absurd h4 n)) ?_
      have h5 := h5 h4
      refine zS1 (fun r he => B_X4_holds_r9_26 Ln _ _ _ _  he) ?_
      exact ⟨_, B_X4_holds_r9_27_s1 Ln _ _ _ _ _  (by decide), _, rfl, h5⟩
    · refine zS1 (fun r he => B_X4_holds_r9_4 Ln _ _ _ _  (fun n => absurd n h4) (fun _ => he)) ?_
      have h6 := h6 h4
      obtain ⟨h8, h9⟩ := h6
      by_cases h7 : (((I 9 3) - v1) : Int32) < v2
      · refine zS1 (fun r he => B_X4_holds_r9_12 Ln _ _ _ _  (fun _ => he) (fun n => absurd h7 n)) ?_
        have h8 := h8 h7
        refine zS1 (fun r he => B_X4_holds_r9_26 Ln _ _ _ _  he) ?_
        exact ⟨_, B_X4_holds_r9_27_s1 Ln _ _ _ _ _  (by decide), _, rfl, h8⟩
      · refine zS1 (fun r he => B_X4_holds_r9_12 Ln _ _ _ _  (fun n => absurd n h7) (fun _ => he)) ?_
        have h9 := h9 h7
        refine zS1 (fun r he => B_X4_holds_r9_22 Ln _ _ _ _  he) ?_
        exact ⟨_, B_X4_holds_r9_27_s1 Ln _ _ _ _ _  (by decide), _, rfl, h9⟩
def SL_J7_fill_53178_r27_5 (Ln : Nat) (I : Nat → Nat → Int32) (v1 : Int32) (v3 : Int32) (Q : (Nat → Nat → Int32) → Prop) : Int32 × (Nat → Nat → Int32) → Prop
  | (v2, A) => zSem 163 5 0 0 [some (.ref 27), some (.int v1), some (.int v2), some (.int v3)] [] (zGs Ln I A) (fun r => ∃ A1, r = (none, zGs Ln I A1) ∧ Q A1)
def L_J7_fill_53178_r27_5 (Ln : Nat) (I : Nat → Nat → Int32) (v1 : Int32) (v3 : Int32) (Q : (Nat → Nat → Int32) → Prop) : Int32 × (Nat → Nat → Int32) → (Int32 × (Nat → Nat → Int32) → Prop) → Prop
  | (v2, A), K5 => (((v3 : Int32) ≤ v2 → (Q A)) ∧ (¬ ((v3 : Int32) ≤ v2) → ((zin v2 64 = true) ∧ (K5 ((v2 + 1), (zw A 27 ((v2).toNatClampNeg) v1))))))
set_option maxRecDepth 100000 in
theorem TL_J7_fill_53178_r27_5 {Ln : Nat} {I : Nat → Nat → Int32} {v1 : Int32} {v3 : Int32} {Q : (Nat → Nat → Int32) → Prop} : ∀ p, zLoop (L_J7_fill_53178_r27_5 Ln I v1 v3  Q) p → SL_J7_fill_53178_r27_5 Ln I v1 v3 Q p := by
  refine zLoop.sound (Sem := SL_J7_fill_53178_r27_5 Ln I v1 v3 Q) ?_
  rintro ⟨v2, A⟩ K5 hK5 h0
  show zSem 163 5 0 0 [some (.ref 27), some (.int v1), some (.int v2), some (.int v3)] [] (zGs Ln I A) (fun r => ∃ A1, r = (none, zGs Ln I A1) ∧ Q A1)
  change (((v3 : Int32) ≤ v2 → (Q A)) ∧ (¬ ((v3 : Int32) ≤ v2) → ((zin v2 64 = true) ∧ (K5 ((v2 + 1), (zw A 27 ((v2).toNatClampNeg) v1)))))) at h0
  obtain ⟨h2, h3⟩ := h0
  by_cases h1 : (v3 : Int32) ≤ v2
  · refine zS1 (fun r he => B_J7_fill_53178_r27_5 Ln _ _ _ _ _  (fun _ => he) (fun n => absurd h1 n)) ?_
    have h2 := h2 h1
    exact ⟨_, B_J7_fill_53178_r27_20 Ln _ _ _ _ _ , _, rfl, h2⟩
  · refine zS1 (fun r he => B_J7_fill_53178_r27_5 Ln _ _ _ _ _  (fun n => absurd n h1) (fun _ => he)) ?_
    have h3 := h3 h1
    obtain ⟨h4, h5⟩ := h3
    refine zS1 (fun r he => B_J7_fill_53178_r27_10 Ln _ _ _ _ _ h4 he) ?_
    have q := hK5 _ h5
    exact q
def W_J7_fill_53178_r27 (Ln : Nat) (I A : Nat → Nat → Int32) (v1 : Int32) (Q : (Nat → Nat → Int32) → Prop) : Prop := ((zLoop (L_J7_fill_53178_r27_5 Ln I v1 64  Q) (0, A)))
set_option maxRecDepth 100000 in
theorem T_J7_fill_53178_r27 (Ln : Nat) (I A : Nat → Nat → Int32) (v1 : Int32) (Q : (Nat → Nat → Int32) → Prop) (h0 : W_J7_fill_53178_r27 Ln I A v1 Q) : zSem 163 0 0 0 [some (.ref 27), some (.int v1), none, none] [] (zGs Ln I A) (fun r => ∃ A1, r = (none, zGs Ln I A1) ∧ Q A1) := by
  unfold W_J7_fill_53178_r27 at h0
  refine zS1 (fun r he => B_J7_fill_53178_r27_0 Ln _ _ _  he) ?_
  exact TL_J7_fill_53178_r27_5  _ h0
def SL_J7_fill_53178_r36_5 (Ln : Nat) (I : Nat → Nat → Int32) (v1 : Int32) (v3 : Int32) (Q : (Nat → Nat → Int32) → Prop) : Int32 × (Nat → Nat → Int32) → Prop
  | (v2, A) => zSem 163 5 0 0 [some (.ref 36), some (.int v1), some (.int v2), some (.int v3)] [] (zGs Ln I A) (fun r => ∃ A1, r = (none, zGs Ln I A1) ∧ Q A1)
def L_J7_fill_53178_r36_5 (Ln : Nat) (I : Nat → Nat → Int32) (v1 : Int32) (v3 : Int32) (Q : (Nat → Nat → Int32) → Prop) : Int32 × (Nat → Nat → Int32) → (Int32 × (Nat → Nat → Int32) → Prop) → Prop
  | (v2, A), K5 => (((v3 : Int32) ≤ v2 → (Q A)) ∧ (¬ ((v3 : Int32) ≤ v2) → ((zin v2 6 = true) ∧ (K5 ((v2 + 1), (zw A 36 ((v2).toNatClampNeg) v1))))))
set_option maxRecDepth 100000 in
theorem TL_J7_fill_53178_r36_5 {Ln : Nat} {I : Nat → Nat → Int32} {v1 : Int32} {v3 : Int32} {Q : (Nat → Nat → Int32) → Prop} : ∀ p, zLoop (L_J7_fill_53178_r36_5 Ln I v1 v3  Q) p → SL_J7_fill_53178_r36_5 Ln I v1 v3 Q p := by
  refine zLoop.sound (Sem := SL_J7_fill_53178_r36_5 Ln I v1 v3 Q) ?_
  rintro ⟨v2, A⟩ K5 hK5 h0
  show zSem 163 5 0 0 [some (.ref 36), some (.int v1), some (.int v2), some (.int v3)] [] (zGs Ln I A) (fun r => ∃ A1, r = (none, zGs Ln I A1) ∧ Q A1)
  change (((v3 : Int32) ≤ v2 → (Q A)) ∧ (¬ ((v3 : Int32) ≤ v2) → ((zin v2 6 = true) ∧ (K5 ((v2 + 1), (zw A 36 ((v2).toNatClampNeg) v1)))))) at h0
  obtain ⟨h2, h3⟩ := h0
  by_cases h1 : (v3 : Int32) ≤ v2
  · refine zS1 (fun r he => B_J7_fill_53178_r36_5 Ln _ _ _ _ _  (fun _ => he) (fun n => absurd h1 n)) ?_
    have h2 := h2 h1
    exact ⟨_, B_J7_fill_53178_r36_20 Ln _ _ _ _ _ , _, rfl, h2⟩
  · refine zS1 (fun r he => B_J7_fill_53178_r36_5 Ln _ _ _ _ _  (fun n => absurd n h1) (fun _ => he)) ?_
    have h3 := h3 h1
    obtain ⟨h4, h5⟩ := h3
    refine zS1 (fun r he => B_J7_fill_53178_r36_10 Ln _ _ _ _ _ h4 he) ?_
    have q := hK5 _ h5
    exact q
def W_J7_fill_53178_r36 (Ln : Nat) (I A : Nat → Nat → Int32) (v1 : Int32) (Q : (Nat → Nat → Int32) → Prop) : Prop := ((zLoop (L_J7_fill_53178_r36_5 Ln I v1 6  Q) (0, A)))
set_option maxRecDepth 100000 in
theorem T_J7_fill_53178_r36 (Ln : Nat) (I A : Nat → Nat → Int32) (v1 : Int32) (Q : (Nat → Nat → Int32) → Prop) (h0 : W_J7_fill_53178_r36 Ln I A v1 Q) : zSem 163 0 0 0 [some (.ref 36), some (.int v1), none, none] [] (zGs Ln I A) (fun r => ∃ A1, r = (none, zGs Ln I A1) ∧ Q A1) := by
  unfold W_J7_fill_53178_r36 at h0
  refine zS1 (fun r he => B_J7_fill_53178_r36_0 Ln _ _ _  he) ?_
  exact TL_J7_fill_53178_r36_5  _ h0
def SL_J7_fill_53178_r41_5 (Ln : Nat) (I : Nat → Nat → Int32) (v1 : Int32) (v3 : Int32) (Q : (Nat → Nat → Int32) → Prop) : Int32 × (Nat → Nat → Int32) → Prop
  | (v2, A) => zSem 163 5 0 0 [some (.ref 41), some (.int v1), some (.int v2), some (.int v3)] [] (zGs Ln I A) (fun r => ∃ A1, r = (none, zGs Ln I A1) ∧ Q A1)
def L_J7_fill_53178_r41_5 (Ln : Nat) (I : Nat → Nat → Int32) (v1 : Int32) (v3 : Int32) (Q : (Nat → Nat → Int32) → Prop) : Int32 × (Nat → Nat → Int32) → (Int32 × (Nat → Nat → Int32) → Prop) → Prop
  | (v2, A), K5 => (((v3 : Int32) ≤ v2 → (Q A)) ∧ (¬ ((v3 : Int32) ≤ v2) → ((zin v2 6 = true) ∧ (K5 ((v2 + 1), (zw A 41 ((v2).toNatClampNeg) v1))))))
set_option maxRecDepth 100000 in
theorem TL_J7_fill_53178_r41_5 {Ln : Nat} {I : Nat → Nat → Int32} {v1 : Int32} {v3 : Int32} {Q : (Nat → Nat → Int32) → Prop} : ∀ p, zLoop (L_J7_fill_53178_r41_5 Ln I v1 v3  Q) p → SL_J7_fill_53178_r41_5 Ln I v1 v3 Q p := by
  refine zLoop.sound (Sem := SL_J7_fill_53178_r41_5 Ln I v1 v3 Q) ?_
  rintro ⟨v2, A⟩ K5 hK5 h0
  show zSem 163 5 0 0 [some (.ref 41), some (.int v1), some (.int v2), some (.int v3)] [] (zGs Ln I A) (fun r => ∃ A1, r = (none, zGs Ln I A1) ∧ Q A1)
  change (((v3 : Int32) ≤ v2 → (Q A)) ∧ (¬ ((v3 : Int32) ≤ v2) → ((zin v2 6 = true) ∧ (K5 ((v2 + 1), (zw A 41 ((v2).toNatClampNeg) v1)))))) at h0
  obtain ⟨h2, h3⟩ := h0
  by_cases h1 : (v3 : Int32) ≤ v2
  · refine zS1 (fun r he => B_J7_fill_53178_r41_5 Ln _ _ _ _ _  (fun _ => he) (fun n => absurd h1 n)) ?_
    have h2 := h2 h1
    exact ⟨_, B_J7_fill_53178_r41_20 Ln _ _ _ _ _ , _, rfl, h2⟩
  · refine zS1 (fun r he => B_J7_fill_53178_r41_5 Ln _ _ _ _ _  (fun n => absurd n h1) (fun _ => he)) ?_
    have h3 := h3 h1
    obtain ⟨h4, h5⟩ := h3
    refine zS1 (fun r he => B_J7_fill_53178_r41_10 Ln _ _ _ _ _ h4 he) ?_
    have q := hK5 _ h5
    exact q
def W_J7_fill_53178_r41 (Ln : Nat) (I A : Nat → Nat → Int32) (v1 : Int32) (Q : (Nat → Nat → Int32) → Prop) : Prop := ((zLoop (L_J7_fill_53178_r41_5 Ln I v1 6  Q) (0, A)))
set_option maxRecDepth 100000 in
theorem T_J7_fill_53178_r41 (Ln : Nat) (I A : Nat → Nat → Int32) (v1 : Int32) (Q : (Nat → Nat → Int32) → Prop) (h0 : W_J7_fill_53178_r41 Ln I A v1 Q) : zSem 163 0 0 0 [some (.ref 41), some (.int v1), none, none] [] (zGs Ln I A) (fun r => ∃ A1, r = (none, zGs Ln I A1) ∧ Q A1) := by
  unfold W_J7_fill_53178_r41 at h0
  refine zS1 (fun r he => B_J7_fill_53178_r41_0 Ln _ _ _  he) ?_
  exact TL_J7_fill_53178_r41_5  _ h0
def SL_X6_firstOf_r35_2 (Ln : Nat) (I A : Nat → Nat → Int32) (v1 : Int32) (Q : Int32 → Prop) : Int32 → Prop
  | v2 => zSem 38 2 0 0 [some (.ref 35), some (.int v1), some (.int v2)] [] (zGs Ln I A) (fun r => ∃ x, r = (some (.int x), zGs Ln I A) ∧ Q x)
def L_X6_firstOf_r35_2 (Ln : Nat) (I A : Nat → Nat → Int32) (v1 : Int32) (Q : Int32 → Prop) : Int32 → (Int32 → Prop) → Prop
  | v2, K2 => ((((I 11 0) : Int32) ≤ v2 → (Q 9)) ∧ (¬ (((I 11 0) : Int32) ≤ v2) → ((zin v2 6 = true) ∧ ((((v1 >>> ((A 40 (v2).toNatClampNeg) &&& 31)) &&& 1) : Int32) ≠ 1 → ((K2 (v2 + 1)))) ∧ (¬ ((((v1 >>> ((A 40 (v2).toNatClampNeg) &&& 31)) &&& 1) : Int32) ≠ 1) → ((zin v2 6 = true) ∧ Q (A 40 (v2).toNatClampNeg))))))
set_option maxRecDepth 100000 in
theorem TL_X6_firstOf_r35_2 {Ln : Nat} {I A : Nat → Nat → Int32} {v1 : Int32} {Q : Int32 → Prop} : ∀ p, zLoop (L_X6_firstOf_r35_2 Ln I A v1  Q) p → SL_X6_firstOf_r35_2 Ln I A v1 Q p := by
  refine zLoop.sound (Sem := SL_X6_firstOf_r35_2 Ln I A v1 Q) ?_
  rintro v2 K2 hK2 h0
  show zSem 38 2 0 0 [some (.ref 35), some (.int v1), some (.int v2)] [] (zGs Ln I A) (fun r => ∃ x, r = (some (.int x), zGs Ln I A) ∧ Q x)
  change ((((I 11 0) : Int32) ≤ v2 → (Q 9)) ∧ (¬ (((I 11 0) : Int32) ≤ v2) → ((zin v2 6 = true) ∧ ((((v1 >>> ((A 40 (v2).toNatClampNeg) &&& 31)) &&& 1) : Int32) ≠ 1 → ((K2 (v2 + 1)))) ∧ (¬ ((((v1 >>> ((A 40 (v2).toNatClampNeg) &&& 31)) &&& 1) : Int32) ≠ 1) → ((zin v2 6 = true) ∧ Q (A 40 (v2).toNatClampNeg)))))) at h0
  obtain ⟨h2, h3⟩ := h0
  by_cases h1 : ((I 11 0) : Int32) ≤ v2
  · refine zS1 (fun r he => B_X6_firstOf_r35_2 Ln _ _ _ _  (fun _ => he) (fun n => absurd h1 n)) ?_
    have h2 := h2 h1
    exact ⟨_, B_X6_firstOf_r35_40 Ln _ _ _ _ , _, rfl, h2⟩
  · refine zS1 (fun r he => B_X6_firstOf_r35_2 Ln _ _ _ _  (fun n => absurd n h1) (fun _ => he)) ?_
    have h3 := h3 h1
    obtain ⟨h4, h5⟩ := h3
    obtain ⟨h7, h8⟩ := h5
    by_cases h6 : (((v1 >>> ((A 40 (v2).toNatClampNeg) &&& 31)) &&& 1) : Int32) ≠ 1
    · refine zS1 (fun r he => B_X6_firstOf_r35_13 Ln _ _ _ _ h4 (fun _ => he) (fun n => absurd h6 n)) ?_
      have h7 := h7 h6
      refine zS1 (fun r he => B_X6_firstOf_r35_34 Ln _ _ _ _  he) ?_
      have q := hK2 _ h7
      exact q
    · refine zS1 (fun r he => B_X6_firstOf_r35_13 Ln _ _ _ _ h4 (fun n => absurd n h6) (fun _ => he)) ?_
      have h8 := h8 h6
      obtain ⟨h9, h10⟩ := h8
      exact ⟨_, B_X6_firstOf_r35_27 Ln _ _ _ _ h9, _, rfl, h10⟩
def W_X6_firstOf_r35 (Ln : Nat) (I A : Nat → Nat → Int32) (v1 : Int32) (Q : Int32 → Prop) : Prop := ((zLoop (L_X6_firstOf_r35_2 Ln I A v1  Q) 0))
set_option maxRecDepth 100000 in
theorem T_X6_firstOf_r35 (Ln : Nat) (I A : Nat → Nat → Int32) (v1 : Int32) (Q : Int32 → Prop) (h0 : W_X6_firstOf_r35 Ln I A v1 Q) : zSem 38 0 0 0 [some (.ref 35), some (.int v1), none] [] (zGs Ln I A) (fun r => ∃ x, r = (some (.int x), zGs Ln I A) ∧ Q x) := by
  unfold W_X6_firstOf_r35 at h0
  refine zS1 (fun r he => B_X6_firstOf_r35_0 Ln _ _ _  he) ?_
  exact TL_X6_firstOf_r35_2  _ h0
def W_X6_freed_r35 (Ln : Nat) (I A : Nat → Nat → Int32) (v1 : Int32) (Q : Int32 → (Nat → Nat → Int32) → Prop) : Prop := (((v1 : Int32) < 0 → (Q 0 A)) ∧ (¬ ((v1 : Int32) < 0) → (((v1 : Int32) < 6 → ((zin v1 6 = true) ∧ (zin v1 6 = true) ∧ (zin v1 6 = true) ∧ (((((zw A 41 ((v1).toNatClampNeg) ((A 41 (v1).toNatClampNeg) + 1)) 41) (v1).toNatClampNeg) : Int32) ≠ (I 11 3) → (∀ A1 : Nat → Nat → Int32, A1 = zw A 41 ((v1).toNatClampNeg) ((A 41 (v1).toNatClampNeg) + 1) → ((Q 0 A1)))) ∧ (¬ (((((zw A 41 ((v1).toNatClampNeg) ((A 41 (v1).toNatClampNeg) + 1)) 41) (v1).toNatClampNeg) : Int32) ≠ (I 11 3)) → (∀ A2 : Nat → Nat → Int32, A2 = zw A 41 ((v1).toNatClampNeg) ((A 41 (v1).toNatClampNeg) + 1) → ((Q (1 <<< (v1 &&& 31)) A2)))))) ∧ (¬ ((v1 : Int32) < 6) → (Q 0 A)))))
set_option maxRecDepth 100000 in
theorem T_X6_freed_r35 (Ln : Nat) (I A : Nat → Nat → Int32) (v1 : Int32) (Q : Int32 → (Nat → Nat → Int32) → Prop) (h0 : W_X6_freed_r35 Ln I A v1 Q) : zSem 40 0 0 0 [some (.ref 35), some (.int v1)] [] (zGs Ln I A) (fun r => ∃ x A1, r = (some (.int x), zGs Ln I A1) ∧ Q x A1) := by
  unfold W_X6_freed_r35 at h0
  obtain ⟨h2, h3⟩ := h0
  by_cases h1 : (v1 : Int32) < 0
  · refine zS1 (fun r he => B_X6_freed_r35_0 Ln _ _ _  (fun _ => he) (fun n => absurd h1 n)) ?_
    have h2 := h2 h1
    exact ⟨_, B_X6_freed_r35_10 Ln _ _ _ , _, _, rfl, h2⟩
  · refine zS1 (fun r he => B_X6_freed_r35_0 Ln _ _ _  (fun n => absurd n h1) (fun _ => he)) ?_
    have h3 := h3 h1
    obtain ⟨h5, h6⟩ := h3
    by_cases h4 : (v1 : Int32) < 6
    · refine zS1 (fun r he => B_X6_freed_r35_4 Ln _ _ _  (fun _ => he) (fun n => absurd h4 n)) ?_
      have h5 := h5 h4
      obtain ⟨h7, h8⟩ := h5
      obtain ⟨h9, h10⟩ := h8
      obtain ⟨h11, h12⟩ := h10
      obtain ⟨h14, h15⟩ := h12
      by_cases h13 : ((((zw A 41 ((v1).toNatClampNeg) ((A 41 (v1).toNatClampNeg) + 1)) 41) (v1).toNatClampNeg) : Int32) ≠ (I 11 3)
      · refine zS1 (fun r he => B_X6_freed_r35_12 Ln _ _ _ h7 h9 h11 (fun _ => he) (fun n => absurd h13 n)) ?_
        have h14 := h14 h13
        have h16 := h14 _ rfl
        refine zS1 (fun r he => B_X6_freed_r35_44 Ln _ _ _  he) ?_
        exact ⟨_, B_X6_freed_r35_45_s1 Ln _ _ _ _ , _, _, rfl, h16⟩
      · refine zS1 (fun r he => B_X6_freed_r35_12 Ln _ _ _ h7 h9 h11 (fun n => absurd n h13) (fun _ => he)) ?_
        have h15 := h15 h13
        have h17 := h15 _ rfl
        refine zS1 (fun r he => B_X6_freed_r35_38 Ln _ _ _  he) ?_
        exact ⟨_, B_X6_freed_r35_45_s1 Ln _ _ _ _ , _, _, rfl, h17⟩
    · refine zS1 (fun r he => B_X6_freed_r35_4 Ln _ _ _  (fun n => absurd n h4) (fun _ => he)) ?_
      have h6 := h6 h4
      exact ⟨_, B_X6_freed_r35_10 Ln _ _ _ , _, _, rfl, h6⟩
def SL_X6_note_r35_2 (Ln : Nat) (I : Nat → Nat → Int32) (v1 : Int32) (v2 : Int32) (Q : (Nat → Nat → Int32) → Prop) : Int32 × (Nat → Nat → Int32) → Prop
  | (v3, A) => zSem 41 2 0 0 [some (.ref 35), some (.int v1), some (.int v2), some (.int v3)] [] (zGs Ln I A) (fun r => ∃ A1, r = (none, zGs Ln I A1) ∧ Q A1)
def L_X6_note_r35_2 (Ln : Nat) (I : Nat → Nat → Int32) (v1 : Int32) (v2 : Int32) (Q : (Nat → Nat → Int32) → Prop) : Int32 × (Nat → Nat → Int32) → (Int32 × (Nat → Nat → Int32) → Prop) → Prop
  | (v3, A), K2 => ((((I 11 0) : Int32) ≤ v3 → (Q A)) ∧ (¬ (((I 11 0) : Int32) ≤ v3) → (((((v1 >>> (v3 &&& 31)) &&& 1) : Int32) ≠ 1 → ((K2 ((v3 + 1), A)))) ∧ (¬ ((((v1 >>> (v3 &&& 31)) &&& 1) : Int32) ≠ 1) → ((zin v3 6 = true) ∧ ((K2 ((v3 + 1), (zw A 36 ((v3).toNatClampNeg) v2)))))))))
set_option maxRecDepth 100000 in
theorem TL_X6_note_r35_2 {Ln : Nat} {I : Nat → Nat → Int32} {v1 : Int32} {v2 : Int32} {Q : (Nat → Nat → Int32) → Prop} : ∀ p, zLoop (L_X6_note_r35_2 Ln I v1 v2  Q) p → SL_X6_note_r35_2 Ln I v1 v2 Q p := by
  refine zLoop.sound (Sem := SL_X6_note_r35_2 Ln I v1 v2 Q) ?_
  rintro ⟨v3, A⟩ K2 hK2 h0
  show zSem 41 2 0 0 [some (.ref 35), some (.int v1), some (.int v2), some (.int v3)] [] (zGs Ln I A) (fun r => ∃ A1, r = (none, zGs Ln I A1) ∧ Q A1)
  change ((((I 11 0) : Int32) ≤ v3 → (Q A)) ∧ (¬ (((I 11 0) : Int32) ≤ v3) → (((((v1 >>> (v3 &&& 31)) &&& 1) : Int32) ≠ 1 → ((K2 ((v3 + 1), A)))) ∧ (¬ ((((v1 >>> (v3 &&& 31)) &&& 1) : Int32) ≠ 1) → ((zin v3 6 = true) ∧ ((K2 ((v3 + 1), (zw A 36 ((v3).toNatClampNeg) v2))))))))) at h0
  obtain ⟨h2, h3⟩ := h0
  by_cases h1 : ((I 11 0) : Int32) ≤ v3
  · refine zS1 (fun r he => B_X6_note_r35_2 Ln _ _ _ _ _  (fun _ => he) (fun n => absurd h1 n)) ?_
    have h2 := h2 h1
    exact ⟨_, B_X6_note_r35_35 Ln _ _ _ _ _ , _, rfl, h2⟩
  · refine zS1 (fun r he => B_X6_note_r35_2 Ln _ _ _ _ _  (fun n => absurd n h1) (fun _ => he)) ?_
    have h3 := h3 h1
    obtain ⟨h5, h6⟩ := h3
    by_cases h4 : (((v1 >>> (v3 &&& 31)) &&& 1) : Int32) ≠ 1
    · refine zS1 (fun r he => B_X6_note_r35_13 Ln _ _ _ _ _  (fun _ => he) (fun n => absurd h4 n)) ?_
      have h5 := h5 h4
      refine zS1 (fun r he => B_X6_note_r35_29 Ln _ _ _ _ _  he) ?_
      have q := hK2 _ h5
      exact q
    · refine zS1 (fun r he => B_X6_note_r35_13 Ln _ _ _ _ _  (fun n => absurd n h4) (fun _ => he)) ?_
      have h6 := h6 h4
      obtain ⟨h7, h8⟩ := h6
      refine zS1 (fun r he => B_X6_note_r35_22 Ln _ _ _ _ _ h7 he) ?_
      refine zS1 (fun r he => B_X6_note_r35_29 Ln _ _ _ _ _  he) ?_
      have q := hK2 _ h8
      exact q
def W_X6_note_r35 (Ln : Nat) (I A : Nat → Nat → Int32) (v1 : Int32) (v2 : Int32) (Q : (Nat → Nat → Int32) → Prop) : Prop := ((zLoop (L_X6_note_r35_2 Ln I v1 v2  Q) (0, A)))
set_option maxRecDepth 100000 in
theorem T_X6_note_r35 (Ln : Nat) (I A : Nat → Nat → Int32) (v1 : Int32) (v2 : Int32) (Q : (Nat → Nat → Int32) → Prop) (h0 : W_X6_note_r35 Ln I A v1 v2 Q) : zSem 41 0 0 0 [some (.ref 35), some (.int v1), some (.int v2), none] [] (zGs Ln I A) (fun r => ∃ A1, r = (none, zGs Ln I A1) ∧ Q A1) := by
  unfold W_X6_note_r35 at h0
  refine zS1 (fun r he => B_X6_note_r35_0 Ln _ _ _ _  he) ?_
  exact TL_X6_note_r35_2  _ h0
def W_X6_waitOf_r35 (Ln : Nat) (I A : Nat → Nat → Int32) (v1 : Int32) (Q : Int32 → Prop) : Prop := ((zin v1 6 = true) ∧ (((A 36 (v1).toNatClampNeg) : Int32) ≠ (-9) → ((zin v1 6 = true) ∧ ((zin v1 6 = true) ∧ Q ((A 36 (v1).toNatClampNeg) - (A 15 (v1).toNatClampNeg))))) ∧ (¬ (((A 36 (v1).toNatClampNeg) : Int32) ≠ (-9)) → (((zin v1 6 = true) ∧ Q (60 - (A 15 (v1).toNatClampNeg))))))
set_option maxRecDepth 100000 in
theorem T_X6_waitOf_r35 (Ln : Nat) (I A : Nat → Nat → Int32) (v1 : Int32) (Q : Int32 → Prop) (h0 : W_X6_waitOf_r35 Ln I A v1 Q) : zSem 42 0 0 0 [some (.ref 35), some (.int v1), none] [] (zGs Ln I A) (fun r => ∃ x, r = (some (.int x), zGs Ln I A) ∧ Q x) := by
  unfold W_X6_waitOf_r35 at h0
  obtain ⟨h1, h2⟩ := h0
  obtain ⟨h4, h5⟩ := h2
  by_cases h3 : ((A 36 (v1).toNatClampNeg) : Int32) ≠ (-9)
  · refine zS1 (fun r he => B_X6_waitOf_r35_0 Ln _ _ _ h1 (fun _ => he) (fun n => absurd h3 n)) ?_
    have h4 := h4 h3
    obtain ⟨h6, h7⟩ := h4
    refine zS1 (fun r he => B_X6_waitOf_r35_16 Ln _ _ _ h6 he) ?_
    obtain ⟨h8, h9⟩ := h7
    exact ⟨_, B_X6_waitOf_r35_22_s1 Ln _ _ _ _ h8, _, rfl, h9⟩
  · refine zS1 (fun r he => B_X6_waitOf_r35_0 Ln _ _ _ h1 (fun n => absurd n h3) (fun _ => he)) ?_
    have h5 := h5 h3
    refine zS1 (fun r he => B_X6_waitOf_r35_11 Ln _ _ _  he) ?_
    obtain ⟨h10, h11⟩ := h5
    exact ⟨_, B_X6_waitOf_r35_22_s1 Ln _ _ _ _ h10, _, rfl, h11⟩
def SL_X2_sum_r18_r20_5 (Ln : Nat) (I A : Nat → Nat → Int32) (v2 : Int32) (Q : Int32 → Prop) : Int32 × Int32 → Prop
  | (v3, v4) => zSem 17 5 0 0 [some (.ref 18), some (.ref 20), some (.int v2), some (.int v3), some (.int v4)] [] (zGs Ln I A) (fun r => ∃ x, r = (some (.int x), zGs Ln I A) ∧ Q x)
def L_X2_sum_r18_r20_5 (Ln : Nat) (I A : Nat → Nat → Int32) (v2 : Int32) (Q : Int32 → Prop) : Int32 × Int32 → (Int32 × Int32 → Prop) → Prop
  | (v3, v4), K5 => ((((I 18 3) : Int32) ≤ v4 → (Q v3)) ∧ (¬ (((I 18 3) : Int32) ≤ v4) → ((zin v4 6 = true) ∧ (((A 20 (v4).toNatClampNeg) : Int32) ≠ v2 → ((K5 (v3, (v4 + 1))))) ∧ (¬ (((A 20 (v4).toNatClampNeg) : Int32) ≠ v2) → ((zin v4 6 = true) ∧ ((K5 ((v3 + (A 21 (v4).toNatClampNeg)), (v4 + 1)))))))))
set_option maxRecDepth 100000 in
theorem TL_X2_sum_r18_r20_5 {Ln : Nat} {I A : Nat → Nat → Int32} {v2 : Int32} {Q : Int32 → Prop} : ∀ p, zLoop (L_X2_sum_r18_r20_5 Ln I A v2  Q) p → SL_X2_sum_r18_r20_5 Ln I A v2 Q p := by
  refine zLoop.sound (Sem := SL_X2_sum_r18_r20_5 Ln I A v2 Q) ?_
  rintro ⟨v3, v4⟩ K5 hK5 h0
  show zSem 17 5 0 0 [some (.ref 18), some (.ref 20), some (.int v2), some (.int v3), some (.int v4)] [] (zGs Ln I A) (fun r => ∃ x, r = (some (.int x), zGs Ln I A) ∧ Q x)
  change ((((I 18 3) : Int32) ≤ v4 → (Q v3)) ∧ (¬ (((I 18 3) : Int32) ≤ v4) → ((zin v4 6 = true) ∧ (((A 20 (v4).toNatClampNeg) : Int32) ≠ v2 → ((K5 (v3, (v4 + 1))))) ∧ (¬ (((A 20 (v4).toNatClampNeg) : Int32) ≠ v2) → ((zin v4 6 = true) ∧ ((K5 ((v3 + (A 21 (v4).toNatClampNeg)), (v4 + 1))))))))) at h0
  obtain ⟨h2, h3⟩ := h0
  by_cases h1 : ((I 18 3) : Int32) ≤ v4
  · refine zS1 (fun r he => B_X2_sum_r18_r20_5 Ln _ _ _ _ _  (fun _ => he) (fun n => absurd h1 n)) ?_
    have h2 := h2 h1
    exact ⟨_, B_X2_sum_r18_r20_38 Ln _ _ _ _ _ , _, rfl, h2⟩
  · refine zS1 (fun r he => B_X2_sum_r18_r20_5 Ln _ _ _ _ _  (fun n => absurd n h1) (fun _ => he)) ?_
    have h3 := h3 h1
    obtain ⟨h4, h5⟩ := h3
    obtain ⟨h7, h8⟩ := h5
    by_cases h6 : ((A 20 (v4).toNatClampNeg) : Int32) ≠ v2
    · refine zS1 (fun r he => B_X2_sum_r18_r20_14 Ln _ _ _ _ _ h4 (fun _ => he) (fun n => absurd h6 n)) ?_
      have h7 := h7 h6
      refine zS1 (fun r he => B_X2_sum_r18_r20_32 Ln _ _ _ _ _  he) ?_
      have q := hK5 _ h7
      exact q
    · refine zS1 (fun r he => B_X2_sum_r18_r20_14 Ln _ _ _ _ _ h4 (fun n => absurd n h6) (fun _ => he)) ?_
      have h8 := h8 h6
      obtain ⟨h9, h10⟩ := h8
      refine zS1 (fun r he => B_X2_sum_r18_r20_22 Ln _ _ _ _ _ h9 he) ?_
      refine zS1 (fun r he => B_X2_sum_r18_r20_32 Ln _ _ _ _ _  he) ?_
      have q := hK5 _ h10
      exact q
def W_X2_sum_r18_r20 (Ln : Nat) (I A : Nat → Nat → Int32) (v2 : Int32) (Q : Int32 → Prop) : Prop := ((zLoop (L_X2_sum_r18_r20_5 Ln I A v2  Q) (0, 0)))
set_option maxRecDepth 100000 in
theorem T_X2_sum_r18_r20 (Ln : Nat) (I A : Nat → Nat → Int32) (v2 : Int32) (Q : Int32 → Prop) (h0 : W_X2_sum_r18_r20 Ln I A v2 Q) : zSem 17 0 0 0 [some (.ref 18), some (.ref 20), some (.int v2), none, none] [] (zGs Ln I A) (fun r => ∃ x, r = (some (.int x), zGs Ln I A) ∧ Q x) := by
  unfold W_X2_sum_r18_r20 at h0
  refine zS1 (fun r he => B_X2_sum_r18_r20_0 Ln _ _ _  he) ?_
  exact TL_X2_sum_r18_r20_5  _ h0
