/-! what a method asks, by program (wip/whole/gen_wp.py) -/
def SL_X6_lineUp_r28_r42_2 (Ln : Nat) (I : Nat → Nat → Int32) (v2 : Int32) (Q : (Nat → Nat → Int32) → Prop) : Int32 × (Nat → Nat → Int32) → Prop
  | (v3, A) => ∀  (j4 : Option Int32), zSem 36 2 0 0 [some (.ref 28), some (.ref 42), some (.int v2), some (.int v3), (Option.map Value.int j4)] [] (zGs Ln I A) (fun r => ∃ A1, r = (none, zGs Ln I A1) ∧ Q A1)
def SL_X6_lineUp_r28_r42_16 (Ln : Nat) (I : Nat → Nat → Int32) (v2 : Int32) (v3 : Int32) (Q : (Nat → Nat → Int32) → Prop) : Int32 × (Nat → Nat → Int32) → Prop
  | (v4, A) => zSem 36 16 0 0 [some (.ref 28), some (.ref 42), some (.int v2), some (.int v3), some (.int v4)] [] (zGs Ln I A) (fun r => ∃ A1, r = (none, zGs Ln I A1) ∧ Q A1)
def L_X6_lineUp_r28_r42_16 (Ln : Nat) (I : Nat → Nat → Int32) (v2 : Int32) (v3 : Int32) (K2 : Int32 × (Nat → Nat → Int32) → Prop) (Q : (Nat → Nat → Int32) → Prop) : Int32 × (Nat → Nat → Int32) → (Int32 × (Nat → Nat → Int32) → Prop) → Prop
  | (v4, A), K16 => (((v4 : Int32) ≤ 0 → ((zin v4 6 = true) ∧ (K2 ((v3 + 1), (zw A 33 ((v4).toNatClampNeg) v3))))) ∧ (¬ ((v4 : Int32) ≤ 0) → ((zin (v4 - 1) 6 = true) ∧ (W_X6_rank_r28_r42 Ln I A (A 33 (v4 - 1).toNatClampNeg) v2 (fun (r1 : Int32) => ((W_X6_rank_r28_r42 Ln I A v3 v2 (fun (r2 : Int32) => (((r1 : Int32) ≤ r2 → ((zin v4 6 = true) ∧ (K2 ((v3 + 1), (zw A 33 ((v4).toNatClampNeg) v3))))) ∧ (¬ ((r1 : Int32) ≤ r2) → ((zin (v4 - 1) 6 = true) ∧ (zin v4 6 = true) ∧ (K16 ((v4 + (Int32.ofInt (-1))), (zw A 33 ((v4).toNatClampNeg) (A 33 (v4 - 1).toNatClampNeg)))))))))))))))
set_option maxRecDepth 100000 in
theorem TL_X6_lineUp_r28_r42_16 {Ln : Nat} {I : Nat → Nat → Int32} {v2 : Int32} {v3 : Int32} {K2 : Int32 × (Nat → Nat → Int32) → Prop} {Q : (Nat → Nat → Int32) → Prop} (hK2 : ∀ p, K2 p → SL_X6_lineUp_r28_r42_2 Ln I v2 Q p) : ∀ p, zLoop (L_X6_lineUp_r28_r42_16 Ln I v2 v3 K2 Q) p → SL_X6_lineUp_r28_r42_16 Ln I v2 v3 Q p := by
  refine zLoop.sound (Sem := SL_X6_lineUp_r28_r42_16 Ln I v2 v3 Q) ?_
  rintro ⟨v4, A⟩ K16 hK16 h0
  show zSem 36 16 0 0 [some (.ref 28), some (.ref 42), some (.int v2), some (.int v3), some (.int v4)] [] (zGs Ln I A) (fun r => ∃ A1, r = (none, zGs Ln I A1) ∧ Q A1)
  change (((v4 : Int32) ≤ 0 → ((zin v4 6 = true) ∧ (K2 ((v3 + 1), (zw A 33 ((v4).toNatClampNeg) v3))))) ∧ (¬ ((v4 : Int32) ≤ 0) → ((zin (v4 - 1) 6 = true) ∧ (W_X6_rank_r28_r42 Ln I A (A 33 (v4 - 1).toNatClampNeg) v2 (fun (r1 : Int32) => ((W_X6_rank_r28_r42 Ln I A v3 v2 (fun (r2 : Int32) => (((r1 : Int32) ≤ r2 → ((zin v4 6 = true) ∧ (K2 ((v3 + 1), (zw A 33 ((v4).toNatClampNeg) v3))))) ∧ (¬ ((r1 : Int32) ≤ r2) → ((zin (v4 - 1) 6 = true) ∧ (zin v4 6 = true) ∧ (K16 ((v4 + (Int32.ofInt (-1))), (zw A 33 ((v4).toNatClampNeg) (A 33 (v4 - 1).toNatClampNeg))))))))))))))) at h0
  obtain ⟨h2, h3⟩ := h0
  by_cases h1 : (v4 : Int32) ≤ 0
  · refine zS1 (fun r he => B_X6_lineUp_r28_r42_16 Ln _ _ _ _ _  (fun _ => he) (fun n => absurd h1 n)) ?_
    have h2 := h2 h1
    obtain ⟨h4, h5⟩ := h2
    refine zS1 (fun r he => B_X6_lineUp_r28_r42_68 Ln _ _ _ _ _ h4 he) ?_
    have q := hK2 _ h5
    exact q (some _)
  · refine zS1 (fun r he => B_X6_lineUp_r28_r42_16 Ln _ _ _ _ _  (fun n => absurd n h1) (fun _ => he)) ?_
    have h3 := h3 h1
    obtain ⟨h6, h7⟩ := h3
    obtain ⟨_, h8, r1, rfl, h9⟩ := T_X6_rank_r28_r42 Ln _ _ _ _ _ h7
    refine zS1 (fun r he => B_X6_lineUp_r28_r42_21 Ln _ _ _ _ _ h6 h8 rfl he) ?_
    obtain ⟨_, h10, r2, rfl, h11⟩ := T_X6_rank_r28_r42 Ln _ _ _ _ _ h9
    refine zS1 (fun r he => B_X6_lineUp_r28_r42_36_s1 Ln _ _ _ _ _ _  h10 rfl he) ?_
    obtain ⟨h13, h14⟩ := h11
    by_cases h12 : (r1 : Int32) ≤ r2
    · refine zS1 (fun r he => B_X6_lineUp_r28_r42_43_s2 Ln _ _ _ _ _ _ _  (fun _ => he) (fun n => absurd h12 n)) ?_
      have h13 := h13 h12
      obtain ⟨h15, h16⟩ := h13
      refine zS1 (fun r he => B_X6_lineUp_r28_r42_68 Ln _ _ _ _ _ h15 he) ?_
      have q := hK2 _ h16
      exact q (some _)
    · refine zS1 (fun r he => B_X6_lineUp_r28_r42_43_s2 Ln _ _ _ _ _ _ _  (fun n => absurd n h12) (fun _ => he)) ?_
      have h14 := h14 h12
      obtain ⟨h17, h18⟩ := h14
      obtain ⟨h19, h20⟩ := h18
      refine zS1 (fun r he => B_X6_lineUp_r28_r42_46 Ln _ _ _ _ _ h17 h19 he) ?_
      have q := hK16 _ h20
      exact q
def L_X6_lineUp_r28_r42_2 (Ln : Nat) (I : Nat → Nat → Int32) (v2 : Int32) (Q : (Nat → Nat → Int32) → Prop) : Int32 × (Nat → Nat → Int32) → (Int32 × (Nat → Nat → Int32) → Prop) → Prop
  | (v3, A), K2 => ((((I 11 0) : Int32) ≤ v3 → (Q A)) ∧ (¬ (((I 11 0) : Int32) ≤ v3) → ((zLoop (L_X6_lineUp_r28_r42_16 Ln I v2 v3 K2 Q) (v3, A)))))
set_option maxRecDepth 100000 in
theorem TL_X6_lineUp_r28_r42_2 {Ln : Nat} {I : Nat → Nat → Int32} {v2 : Int32} {Q : (Nat → Nat → Int32) → Prop} : ∀ p, zLoop (L_X6_lineUp_r28_r42_2 Ln I v2  Q) p → SL_X6_lineUp_r28_r42_2 Ln I v2 Q p := by
  refine zLoop.sound (Sem := SL_X6_lineUp_r28_r42_2 Ln I v2 Q) ?_
  rintro ⟨v3, A⟩ K2 hK2 h0
  intro j4
  show zSem 36 2 0 0 [some (.ref 28), some (.ref 42), some (.int v2), some (.int v3), (Option.map Value.int j4)] [] (zGs Ln I A) (fun r => ∃ A1, r = (none, zGs Ln I A1) ∧ Q A1)
  change ((((I 11 0) : Int32) ≤ v3 → (Q A)) ∧ (¬ (((I 11 0) : Int32) ≤ v3) → ((zLoop (L_X6_lineUp_r28_r42_16 Ln I v2 v3 K2 Q) (v3, A))))) at h0
  obtain ⟨h2, h3⟩ := h0
  by_cases h1 : ((I 11 0) : Int32) ≤ v3
  · refine zS1 (fun r he => B_X6_lineUp_r28_r42_2 Ln _ _ _ _ j4  (fun _ => he) (fun n => absurd h1 n)) ?_
    have h2 := h2 h1
    exact ⟨_, B_X6_lineUp_r28_r42_82 Ln _ _ _ _ j4 , _, rfl, h2⟩
  · refine zS1 (fun r he => B_X6_lineUp_r28_r42_2 Ln _ _ _ _ j4  (fun n => absurd n h1) (fun _ => he)) ?_
    have h3 := h3 h1
    refine zS1 (fun r he => B_X6_lineUp_r28_r42_13 Ln _ _ _ _ j4  he) ?_
    exact TL_X6_lineUp_r28_r42_16 hK2 _ h3
def W_X6_lineUp_r28_r42 (Ln : Nat) (I A : Nat → Nat → Int32) (v2 : Int32) (Q : (Nat → Nat → Int32) → Prop) : Prop := ((zLoop (L_X6_lineUp_r28_r42_2 Ln I v2  Q) (0, A)))
set_option maxRecDepth 100000 in
theorem T_X6_lineUp_r28_r42 (Ln : Nat) (I A : Nat → Nat → Int32) (v2 : Int32) (Q : (Nat → Nat → Int32) → Prop) (h0 : W_X6_lineUp_r28_r42 Ln I A v2 Q) : zSem 36 0 0 0 [some (.ref 28), some (.ref 42), some (.int v2), none, none] [] (zGs Ln I A) (fun r => ∃ A1, r = (none, zGs Ln I A1) ∧ Q A1) := by
  unfold W_X6_lineUp_r28_r42 at h0
  refine zS1 (fun r he => B_X6_lineUp_r28_r42_0 Ln _ _ _  he) ?_
  exact TL_X6_lineUp_r28_r42_2  _ h0 none
def SL_X6_seat_r28_4 (Ln : Nat) (I A : Nat → Nat → Int32) (v1 : Int32) (Q : Int32 → Prop) : Int32 × Int32 → Prop
  | (v2, v3) => ∀  (j4 : Option Int32), zSem 39 4 0 0 [some (.ref 28), some (.int v1), some (.int v2), some (.int v3), (Option.map Value.int j4)] [] (zGs Ln I A) (fun r => ∃ x, r = (some (.int x), zGs Ln I A) ∧ Q x)
def L_X6_seat_r28_4 (Ln : Nat) (I A : Nat → Nat → Int32) (v1 : Int32) (Q : Int32 → Prop) : Int32 × Int32 → (Int32 × Int32 → Prop) → Prop
  | (v2, v3), K4 => ((((I 11 0) : Int32) ≤ v3 → (Q v2)) ∧ (¬ (((I 11 0) : Int32) ≤ v3) → ((zin v3 6 = true) ∧ (W_X0_carries_r11 Ln I A (v2 ||| (v1 &&& (1 <<< ((A 33 (v3).toNatClampNeg) &&& 31)))) (fun (r1 : Int32) => (∀ x2 : Int32, x2 = v1 &&& (1 <<< ((A 33 (v3).toNatClampNeg) &&& 31)) → (((r1 : Int32) = 0 → ((K4 (v2, (v3 + 1))))) ∧ (¬ ((r1 : Int32) = 0) → (((K4 ((v2 ||| x2), (v3 + 1)))))))))))))
set_option maxRecDepth 100000 in
theorem TL_X6_seat_r28_4 {Ln : Nat} {I A : Nat → Nat → Int32} {v1 : Int32} {Q : Int32 → Prop} : ∀ p, zLoop (L_X6_seat_r28_4 Ln I A v1  Q) p → SL_X6_seat_r28_4 Ln I A v1 Q p := by
  refine zLoop.sound (Sem := SL_X6_seat_r28_4 Ln I A v1 Q) ?_
  rintro ⟨v2, v3⟩ K4 hK4 h0
  intro j4
  show zSem 39 4 0 0 [some (.ref 28), some (.int v1), some (.int v2), some (.int v3), (Option.map Value.int j4)] [] (zGs Ln I A) (fun r => ∃ x, r = (some (.int x), zGs Ln I A) ∧ Q x)
  change ((((I 11 0) : Int32) ≤ v3 → (Q v2)) ∧ (¬ (((I 11 0) : Int32) ≤ v3) → ((zin v3 6 = true) ∧ (W_X0_carries_r11 Ln I A (v2 ||| (v1 &&& (1 <<< ((A 33 (v3).toNatClampNeg) &&& 31)))) (fun (r1 : Int32) => (∀ x2 : Int32, x2 = v1 &&& (1 <<< ((A 33 (v3).toNatClampNeg) &&& 31)) → (((r1 : Int32) = 0 → ((K4 (v2, (v3 + 1))))) ∧ (¬ ((r1 : Int32) = 0) → (((K4 ((v2 ||| x2), (v3 + 1))))))))))))) at h0
  obtain ⟨h2, h3⟩ := h0
  by_cases h1 : ((I 11 0) : Int32) ≤ v3
  · refine zS1 (fun r he => B_X6_seat_r28_4 Ln _ _ _ _ _ j4  (fun _ => he) (fun n => absurd h1 n)) ?_
    have h2 := h2 h1
    exact ⟨_, B_X6_seat_r28_52 Ln _ _ _ _ _ j4 , _, rfl, h2⟩
  · refine zS1 (fun r he => B_X6_seat_r28_4 Ln _ _ _ _ _ j4  (fun n => absurd n h1) (fun _ => he)) ?_
    have h3 := h3 h1
    obtain ⟨h4, h5⟩ := h3
    obtain ⟨_, h6, r1, rfl, h7⟩ := T_X0_carries_r11 Ln _ _ _ _ h5
    refine zS1 (fun r he => B_X6_seat_r28_15 Ln _ _ _ _ _ j4 h4 h6 rfl he) ?_
    have h8 := h7 _ rfl
    obtain ⟨h10, h11⟩ := h8
    by_cases h9 : (r1 : Int32) = 0
    · refine zS1 (fun r he => B_X6_seat_r28_38_s1 Ln _ _ _ _ _ _ _  (fun _ => he) (fun n => absurd h9 n)) ?_
      have h10 := h10 h9
      refine zS1 (fun r he => B_X6_seat_r28_46 Ln _ _ _ _ _ _  he) ?_
      have q := hK4 _ h10
      exact q (some _)
    · refine zS1 (fun r he => B_X6_seat_r28_38_s1 Ln _ _ _ _ _ _ _  (fun n => absurd n h9) (fun _ => he)) ?_
      have h11 := h11 h9
      refine zS1 (fun r he => B_X6_seat_r28_41 Ln _ _ _ _ _ _  he) ?_
      refine zS1 (fun r he => B_X6_seat_r28_46 Ln _ _ _ _ _ _  he) ?_
      have q := hK4 _ h11
      exact q (some _)
def W_X6_seat_r28 (Ln : Nat) (I A : Nat → Nat → Int32) (v1 : Int32) (Q : Int32 → Prop) : Prop := ((zLoop (L_X6_seat_r28_4 Ln I A v1  Q) (0, 0)))
set_option maxRecDepth 100000 in
theorem T_X6_seat_r28 (Ln : Nat) (I A : Nat → Nat → Int32) (v1 : Int32) (Q : Int32 → Prop) (h0 : W_X6_seat_r28 Ln I A v1 Q) : zSem 39 0 0 0 [some (.ref 28), some (.int v1), none, none, none] [] (zGs Ln I A) (fun r => ∃ x, r = (some (.int x), zGs Ln I A) ∧ Q x) := by
  unfold W_X6_seat_r28 at h0
  refine zS1 (fun r he => B_X6_seat_r28_0 Ln _ _ _  he) ?_
  exact TL_X6_seat_r28_4  _ h0 none
def J_X5_mayStandInHead_70 (Ln : Nat) (I A : Nat → Nat → Int32) (v0 : Int32) (v1 : Int32) (v2 : Int32) (Q : Int32 → Prop) : Prop := ((W_X5_isDigit Ln I A v1 1 4 (fun (r1 : Int32) => ((r1 = 0 ∨ r1 = 1) ∧ Q r1))))
set_option maxRecDepth 100000 in
theorem TJ_X5_mayStandInHead_70 {Ln : Nat} {I A : Nat → Nat → Int32} {v0 : Int32} {v1 : Int32} {v2 : Int32} {Q : Int32 → Prop} (h0 : J_X5_mayStandInHead_70 Ln I A v0 v1 v2   Q) : zSem 28 70 0 0 [some (.int v0), some (.int v1), some (.int v2)] [] (zGs Ln I A) (fun r => ∃ x, r = (some (.int x), zGs Ln I A) ∧ Q x) := by
  unfold J_X5_mayStandInHead_70 at h0
  obtain ⟨_, h1, r1, rfl, h2⟩ := T_X5_isDigit Ln _ _ _ _ _ _ h0
  refine zS1 (fun r he => B_X5_mayStandInHead_70 Ln _ _ _ _ _  h1 rfl he) ?_
  obtain ⟨h3, h4⟩ := h2
  exact ⟨_, B_X5_mayStandInHead_76_s1 Ln _ _ _ _ _ _  h3, _, rfl, h4⟩
def J_X5_mayStandInHead_64_s2 (Ln : Nat) (I A : Nat → Nat → Int32) (v0 : Int32) (v1 : Int32) (v2 : Int32) (s0 : Int32) (s1 : Int32) (Q : Int32 → Prop) : Prop := ((W_X5_isDigit Ln I A s0 s1 9 (fun (r3 : Int32) => ((r3 = 0 ∨ r3 = 1) ∧ Q r3))))
set_option maxRecDepth 100000 in
theorem TJ_X5_mayStandInHead_64_s2 {Ln : Nat} {I A : Nat → Nat → Int32} {v0 : Int32} {v1 : Int32} {v2 : Int32} {s0 : Int32} {s1 : Int32} {Q : Int32 → Prop} (h0 : J_X5_mayStandInHead_64_s2 Ln I A v0 v1 v2 s0 s1  Q) : zSem 28 64 0 0 [some (.int v0), some (.int v1), some (.int v2)] [.int s1, .int s0] (zGs Ln I A) (fun r => ∃ x, r = (some (.int x), zGs Ln I A) ∧ Q x) := by
  unfold J_X5_mayStandInHead_64_s2 at h0
  obtain ⟨_, h1, r3, rfl, h2⟩ := T_X5_isDigit Ln _ _ _ _ _ _ h0
  refine zS1 (fun r he => B_X5_mayStandInHead_64_s2 Ln _ _ _ _ _ _ _  h1 rfl he) ?_
  obtain ⟨h3, h4⟩ := h2
  exact ⟨_, B_X5_mayStandInHead_69_s1 Ln _ _ _ _ _ _  h3, _, rfl, h4⟩
def W_X5_mayStandInHead (Ln : Nat) (I A : Nat → Nat → Int32) (v0 : Int32) (v1 : Int32) (v2 : Int32) (Q : Int32 → Prop) : Prop := (((v0 : Int32).toInt = 0 → (((v1 : Int32) ≠ 114 → ((Q 0))) ∧ (¬ ((v1 : Int32) ≠ 114) → ((Q 1))))) ∧ ((v0 : Int32).toInt = 1 → (J_X5_mayStandInHead_70 Ln I A v0 v1 v2  Q)) ∧ ((v0 : Int32).toInt = 2 → ((W_X5_isDigit Ln I A v1 0 9 (fun (r2 : Int32) => ((r2 = 0 ∨ r2 = 1) ∧ Q r2))))) ∧ ((v0 : Int32).toInt = 3 → (((v2 : Int32) ≠ 48 → ((J_X5_mayStandInHead_64_s2 Ln I A v0 v1 v2 v1 0  Q))) ∧ (¬ ((v2 : Int32) ≠ 48) → ((J_X5_mayStandInHead_64_s2 Ln I A v0 v1 v2 v1 1  Q))))) ∧ (¬ ((v0 : Int32).toInt = 0) → ¬ ((v0 : Int32).toInt = 1) → ¬ ((v0 : Int32).toInt = 2) → ¬ ((v0 : Int32).toInt = 3) → (J_X5_mayStandInHead_70 Ln I A v0 v1 v2  Q)))
set_option maxRecDepth 100000 in
theorem T_X5_mayStandInHead (Ln : Nat) (I A : Nat → Nat → Int32) (v0 : Int32) (v1 : Int32) (v2 : Int32) (Q : Int32 → Prop) (h0 : W_X5_mayStandInHead Ln I A v0 v1 v2 Q) : zSem 28 0 0 0 [some (.int v0), some (.int v1), some (.int v2)] [] (zGs Ln I A) (fun r => ∃ x, r = (some (.int x), zGs Ln I A) ∧ Q x) := by
  unfold W_X5_mayStandInHead at h0
  obtain ⟨h1, h2, h3, h4, h5⟩ := h0
  by_cases h6 : (v0 : Int32).toInt = 0
  · refine zS1 (fun r he => B_X5_mayStandInHead_0 Ln _ _ _ _ _  (fun _ => he) (fun q => absurd (q.symm.trans h6) (by decide)) (fun q => absurd (q.symm.trans h6) (by decide)) (fun q => absurd (q.symm.trans h6) (by decide)) (fun n0 n1 n2 n3 => absurd h6 n0)) ?_
    have h1 := h1 h6
    obtain ⟨h11, h12⟩ := h1
    by_cases h10 : (v1 : Int32) ≠ 114
    · refine zS1 (fun r he => B_X5_mayStandInHead_32 Ln _ _ _ _ _  (fun _ => he) (fun n => absurd h10 n)) ?_
      have h11 := h11 h10
      refine zS1 (fun r he => B_X5_mayStandInHead_42 Ln _ _ _ _ _  he) ?_
      exact ⟨_, B_X5_mayStandInHead_43_s1 Ln _ _ _ _ _ _  (by decide), _, rfl, h11⟩
    · refine zS1 (fun r he => B_X5_mayStandInHead_32 Ln _ _ _ _ _  (fun n => absurd n h10) (fun _ => he)) ?_
      have h12 := h12 h10
      refine zS1 (fun r he => B_X5_mayStandInHead_38 Ln _ _ _ _ _  he) ?_
      exact ⟨_, B_X5_mayStandInHead_43_s1 Ln _ _ _ _ _ _  (by decide), _, rfl, h12⟩
  by_cases h7 : (v0 : Int32).toInt = 1
  · refine zS1 (fun r he => B_X5_mayStandInHead_0 Ln _ _ _ _ _  (fun q => absurd (q.symm.trans h7) (by decide)) (fun _ => he) (fun q => absurd (q.symm.trans h7) (by decide)) (fun q => absurd (q.symm.trans h7) (by decide)) (fun n0 n1 n2 n3 => absurd h7 n1)) ?_
    have h2 := h2 h7
    exact TJ_X5_mayStandInHead_70  h2
  by_cases h8 : (v0 : Int32).toInt = 2
  · refine zS1 (fun r he => B_X5_mayStandInHead_0 Ln _ _ _ _ _  (fun q => absurd (q.symm.trans h8) (by decide)) (fun q => absurd (q.symm.trans h8) (by decide)) (fun _ => he) (fun q => absurd (q.symm.trans h8) (by decide)) (fun n0 n1 n2 n3 => absurd h8 n2)) ?_
    have h3 := h3 h8
    obtain ⟨_, h13, r2, rfl, h14⟩ := T_X5_isDigit Ln _ _ _ _ _ _ h3
    refine zS1 (fun r he => B_X5_mayStandInHead_44 Ln _ _ _ _ _  h13 rfl he) ?_
    obtain ⟨h15, h16⟩ := h14
    exact ⟨_, B_X5_mayStandInHead_51_s1 Ln _ _ _ _ _ _  h15, _, rfl, h16⟩
  by_cases h9 : (v0 : Int32).toInt = 3
  · refine zS1 (fun r he => B_X5_mayStandInHead_0 Ln _ _ _ _ _  (fun q => absurd (q.symm.trans h9) (by decide)) (fun q => absurd (q.symm.trans h9) (by decide)) (fun q => absurd (q.symm.trans h9) (by decide)) (fun _ => he) (fun n0 n1 n2 n3 => absurd h9 n3)) ?_
    have h4 := h4 h9
    obtain ⟨h18, h19⟩ := h4
    by_cases h17 : (v2 : Int32) ≠ 48
    · refine zS1 (fun r he => B_X5_mayStandInHead_52 Ln _ _ _ _ _  (fun _ => he) (fun n => absurd h17 n)) ?_
      have h18 := h18 h17
      refine zS1 (fun r he => B_X5_mayStandInHead_63_s1 Ln _ _ _ _ _ _  he) ?_
      exact TJ_X5_mayStandInHead_64_s2  h18
    · refine zS1 (fun r he => B_X5_mayStandInHead_52 Ln _ _ _ _ _  (fun n => absurd n h17) (fun _ => he)) ?_
      have h19 := h19 h17
      refine zS1 (fun r he => B_X5_mayStandInHead_59_s1 Ln _ _ _ _ _ _  he) ?_
      exact TJ_X5_mayStandInHead_64_s2  h19
  refine zS1 (fun r he => B_X5_mayStandInHead_0 Ln _ _ _ _ _  (fun q => absurd q h6) (fun q => absurd q h7) (fun q => absurd q h8) (fun q => absurd q h9) (fun _ _ _ _ => he)) ?_
  have h5 := h5 h6 h7 h8 h9
  exact TJ_X5_mayStandInHead_70  h5
def W_X5_mayStandInPart (Ln : Nat) (I A : Nat → Nat → Int32) (v0 : Int32) (v1 : Int32) (Q : Int32 → Prop) : Prop := (((v0 : Int32).toInt = 0 → (((v1 : Int32) ≠ 59 → ((Q 0))) ∧ (¬ ((v1 : Int32) ≠ 59) → ((Q 1))))) ∧ ((v0 : Int32).toInt = 1 → (((v1 : Int32) = 115 → ((Q 1))) ∧ (¬ ((v1 : Int32) = 115) → (((v1 : Int32) = 100 → ((Q 1))) ∧ (¬ ((v1 : Int32) = 100) → (((v1 : Int32) ≠ 108 → ((Q 0))) ∧ (¬ ((v1 : Int32) ≠ 108) → ((Q 1))))))))) ∧ ((v0 : Int32).toInt = 2 → ((W_X5_isDigit Ln I A v1 0 3 (fun (r1 : Int32) => ((r1 = 0 ∨ r1 = 1) ∧ Q r1))))) ∧ ((v0 : Int32).toInt = 3 → ((W_X5_isDigit Ln I A v1 1 9 (fun (r2 : Int32) => ((r2 = 0 ∨ r2 = 1) ∧ Q r2))))) ∧ ((v0 : Int32).toInt = 4 → ((W_X5_isDigit Ln I A v1 0 2 (fun (r3 : Int32) => ((r3 = 0 ∨ r3 = 1) ∧ Q r3))))) ∧ (¬ ((v0 : Int32).toInt = 0) → ¬ ((v0 : Int32).toInt = 1) → ¬ ((v0 : Int32).toInt = 2) → ¬ ((v0 : Int32).toInt = 3) → ¬ ((v0 : Int32).toInt = 4) → ((W_X5_isDigit Ln I A v1 0 9 (fun (r4 : Int32) => ((r4 = 0 ∨ r4 = 1) ∧ Q r4))))))
set_option maxRecDepth 100000 in
theorem T_X5_mayStandInPart (Ln : Nat) (I A : Nat → Nat → Int32) (v0 : Int32) (v1 : Int32) (Q : Int32 → Prop) (h0 : W_X5_mayStandInPart Ln I A v0 v1 Q) : zSem 29 0 0 0 [some (.int v0), some (.int v1)] [] (zGs Ln I A) (fun r => ∃ x, r = (some (.int x), zGs Ln I A) ∧ Q x) := by
  unfold W_X5_mayStandInPart at h0
  obtain ⟨h1, h2, h3, h4, h5, h6⟩ := h0
  by_cases h7 : (v0 : Int32).toInt = 0
  · refine zS1 (fun r he => B_X5_mayStandInPart_0 Ln _ _ _ _  (fun _ => he) (fun q => absurd (q.symm.trans h7) (by decide)) (fun q => absurd (q.symm.trans h7) (by decide)) (fun q => absurd (q.symm.trans h7) (by decide)) (fun q => absurd (q.symm.trans h7) (by decide)) (fun n0 n1 n2 n3 n4 => absurd h7 n0)) ?_
    have h1 := h1 h7
    obtain ⟨h13, h14⟩ := h1
    by_cases h12 : (v1 : Int32) ≠ 59
    · refine zS1 (fun r he => B_X5_mayStandInPart_36 Ln _ _ _ _  (fun _ => he) (fun n => absurd h12 n)) ?_
      have h13 := h13 h12
      refine zS1 (fun r he => B_X5_mayStandInPart_46 Ln _ _ _ _  he) ?_
      exact ⟨_, B_X5_mayStandInPart_47_s1 Ln _ _ _ _ _  (by decide), _, rfl, h13⟩
    · refine zS1 (fun r he => B_X5_mayStandInPart_36 Ln _ _ _ _  (fun n => absurd n h12) (fun _ => he)) ?_
      have h14 := h14 h12
      refine zS1 (fun r he => B_X5_mayStandInPart_42 Ln _ _ _ _  he) ?_
      exact ⟨_, B_X5_mayStandInPart_47_s1 Ln _ _ _ _ _  (by decide), _, rfl, h14⟩
  by_cases h8 : (v0 : Int32).toInt = 1
  · refine zS1 (fun r he => B_X5_mayStandInPart_0 Ln _ _ _ _  (fun q => absurd (q.symm.trans h8) (by decide)) (fun _ => he) (fun q => absurd (q.symm.trans h8) (by decide)) (fun q => absurd (q.symm.trans h8) (by decide)) (fun q => absurd (q.symm.trans h8) (by decide)) (fun n0 n1 n2 n3 n4 => absurd h8 n1)) ?_
    have h2 := h2 h8
    obtain ⟨h16, h17⟩ := h2
    by_cases h15 : (v1 : Int32) = 115
    · refine zS1 (fun r he => B_X5_mayStandInPart_48 Ln _ _ _ _  (fun _ => he) (fun n => absurd h15 n)) ?_
      have h16 := h16 h15
      refine zS1 (fun r he => B_X5_mayStandInPart_66 Ln _ _ _ _  he) ?_
      exact ⟨_, B_X5_mayStandInPart_71_s1 Ln _ _ _ _ _  (by decide), _, rfl, h16⟩
    · refine zS1 (fun r he => B_X5_mayStandInPart_48 Ln _ _ _ _  (fun n => absurd n h15) (fun _ => he)) ?_
      have h17 := h17 h15
      obtain ⟨h19, h20⟩ := h17
      by_cases h18 : (v1 : Int32) = 100
      · refine zS1 (fun r he => B_X5_mayStandInPart_54 Ln _ _ _ _  (fun _ => he) (fun n => absurd h18 n)) ?_
        have h19 := h19 h18
        refine zS1 (fun r he => B_X5_mayStandInPart_66 Ln _ _ _ _  he) ?_
        exact ⟨_, B_X5_mayStandInPart_71_s1 Ln _ _ _ _ _  (by decide), _, rfl, h19⟩
      · refine zS1 (fun r he => B_X5_mayStandInPart_54 Ln _ _ _ _  (fun n => absurd n h18) (fun _ => he)) ?_
        have h20 := h20 h18
        obtain ⟨h22, h23⟩ := h20
        by_cases h21 : (v1 : Int32) ≠ 108
        · refine zS1 (fun r he => B_X5_mayStandInPart_60 Ln _ _ _ _  (fun _ => he) (fun n => absurd h21 n)) ?_
          have h22 := h22 h21
          refine zS1 (fun r he => B_X5_mayStandInPart_70 Ln _ _ _ _  he) ?_
          exact ⟨_, B_X5_mayStandInPart_71_s1 Ln _ _ _ _ _  (by decide), _, rfl, h22⟩
        · refine zS1 (fun r he => B_X5_mayStandInPart_60 Ln _ _ _ _  (fun n => absurd n h21) (fun _ => he)) ?_
          have h23 := h23 h21
          refine zS1 (fun r he => B_X5_mayStandInPart_66 Ln _ _ _ _  he) ?_
          exact ⟨_, B_X5_mayStandInPart_71_s1 Ln _ _ _ _ _  (by decide), _, rfl, h23⟩
  by_cases h9 : (v0 : Int32).toInt = 2
  · refine zS1 (fun r he => B_X5_mayStandInPart_0 Ln _ _ _ _  (fun q => absurd (q.symm.trans h9) (by decide)) (fun q => absurd (q.symm.trans h9) (by decide)) (fun _ => he) (fun q => absurd (q.symm.trans h9) (by decide)) (fun q => absurd (q.symm.trans h9) (by decide)) (fun n0 n1 n2 n3 n4 => absurd h9 n2)) ?_
    have h3 := h3 h9
    obtain ⟨_, h24, r1, rfl, h25⟩ := T_X5_isDigit Ln _ _ _ _ _ _ h3
    refine zS1 (fun r he => B_X5_mayStandInPart_72 Ln _ _ _ _  h24 rfl he) ?_
    obtain ⟨h26, h27⟩ := h25
    exact ⟨_, B_X5_mayStandInPart_78_s1 Ln _ _ _ _ _  h26, _, rfl, h27⟩
  by_cases h10 : (v0 : Int32).toInt = 3
  · refine zS1 (fun r he => B_X5_mayStandInPart_0 Ln _ _ _ _  (fun q => absurd (q.symm.trans h10) (by decide)) (fun q => absurd (q.symm.trans h10) (by decide)) (fun q => absurd (q.symm.trans h10) (by decide)) (fun _ => he) (fun q => absurd (q.symm.trans h10) (by decide)) (fun n0 n1 n2 n3 n4 => absurd h10 n3)) ?_
    have h4 := h4 h10
    obtain ⟨_, h28, r2, rfl, h29⟩ := T_X5_isDigit Ln _ _ _ _ _ _ h4
    refine zS1 (fun r he => B_X5_mayStandInPart_79 Ln _ _ _ _  h28 rfl he) ?_
    obtain ⟨h30, h31⟩ := h29
    exact ⟨_, B_X5_mayStandInPart_86_s1 Ln _ _ _ _ _  h30, _, rfl, h31⟩
  by_cases h11 : (v0 : Int32).toInt = 4
  · refine zS1 (fun r he => B_X5_mayStandInPart_0 Ln _ _ _ _  (fun q => absurd (q.symm.trans h11) (by decide)) (fun q => absurd (q.symm.trans h11) (by decide)) (fun q => absurd (q.symm.trans h11) (by decide)) (fun q => absurd (q.symm.trans h11) (by decide)) (fun _ => he) (fun n0 n1 n2 n3 n4 => absurd h11 n4)) ?_
    have h5 := h5 h11
    obtain ⟨_, h32, r3, rfl, h33⟩ := T_X5_isDigit Ln _ _ _ _ _ _ h5
    refine zS1 (fun r he => B_X5_mayStandInPart_87 Ln _ _ _ _  h32 rfl he) ?_
    obtain ⟨h34, h35⟩ := h33
    exact ⟨_, B_X5_mayStandInPart_93_s1 Ln _ _ _ _ _  h34, _, rfl, h35⟩
  refine zS1 (fun r he => B_X5_mayStandInPart_0 Ln _ _ _ _  (fun q => absurd q h7) (fun q => absurd q h8) (fun q => absurd q h9) (fun q => absurd q h10) (fun q => absurd q h11) (fun _ _ _ _ _ => he)) ?_
  have h6 := h6 h7 h8 h9 h10 h11
  obtain ⟨_, h36, r4, rfl, h37⟩ := T_X5_isDigit Ln _ _ _ _ _ _ h6
  refine zS1 (fun r he => B_X5_mayStandInPart_94 Ln _ _ _ _  h36 rfl he) ?_
  obtain ⟨h38, h39⟩ := h37
  exact ⟨_, B_X5_mayStandInPart_101_s1 Ln _ _ _ _ _  h38, _, rfl, h39⟩
def W_X7_overBy_r1 (Ln : Nat) (I A : Nat → Nat → Int32) (v1 : Int32) (Q : Int32 → Prop) : Prop := ((W_X7_ofNight_r1_r32 Ln I A v1 (fun (r1 : Int32) => (Q r1))))
set_option maxRecDepth 100000 in
theorem T_X7_overBy_r1 (Ln : Nat) (I A : Nat → Nat → Int32) (v1 : Int32) (Q : Int32 → Prop) (h0 : W_X7_overBy_r1 Ln I A v1 Q) : zSem 52 0 0 0 [some (.ref 1), some (.int v1)] [] (zGs Ln I A) (fun r => ∃ x, r = (some (.int x), zGs Ln I A) ∧ Q x) := by
  unfold W_X7_overBy_r1 at h0
  obtain ⟨_, h1, r1, rfl, h2⟩ := T_X7_ofNight_r1_r32 Ln _ _ _ _ h0
  refine zS1 (fun r he => B_X7_overBy_r1_0 Ln _ _ _  h1 rfl he) ?_
  exact ⟨_, B_X7_overBy_r1_12_s1 Ln _ _ _ _ , _, rfl, h2⟩
def W_X7_rower_r1 (Ln : Nat) (I A : Nat → Nat → Int32) (v1 : Int32) (Q : Int32 → Prop) : Prop := ((W_X7_ofNight_r1_r30 Ln I A v1 (fun (r1 : Int32) => (Q r1))))
set_option maxRecDepth 100000 in
theorem T_X7_rower_r1 (Ln : Nat) (I A : Nat → Nat → Int32) (v1 : Int32) (Q : Int32 → Prop) (h0 : W_X7_rower_r1 Ln I A v1 Q) : zSem 53 0 0 0 [some (.ref 1), some (.int v1)] [] (zGs Ln I A) (fun r => ∃ x, r = (some (.int x), zGs Ln I A) ∧ Q x) := by
  unfold W_X7_rower_r1 at h0
  obtain ⟨_, h1, r1, rfl, h2⟩ := T_X7_ofNight_r1_r30 Ln _ _ _ _ h0
  refine zS1 (fun r he => B_X7_rower_r1_0 Ln _ _ _  h1 rfl he) ?_
  exact ⟨_, B_X7_rower_r1_12_s1 Ln _ _ _ _ , _, rfl, h2⟩
def W_X7_sits_r1 (Ln : Nat) (I A : Nat → Nat → Int32) (v1 : Int32) (Q : Int32 → Prop) : Prop := ((W_X7_ofNight_r1_r31 Ln I A v1 (fun (r1 : Int32) => (Q r1))))
set_option maxRecDepth 100000 in
theorem T_X7_sits_r1 (Ln : Nat) (I A : Nat → Nat → Int32) (v1 : Int32) (Q : Int32 → Prop) (h0 : W_X7_sits_r1 Ln I A v1 Q) : zSem 54 0 0 0 [some (.ref 1), some (.int v1)] [] (zGs Ln I A) (fun r => ∃ x, r = (some (.int x), zGs Ln I A) ∧ Q x) := by
  unfold W_X7_sits_r1 at h0
  obtain ⟨_, h1, r1, rfl, h2⟩ := T_X7_ofNight_r1_r31 Ln _ _ _ _ h0
  refine zS1 (fun r he => B_X7_sits_r1_0 Ln _ _ _  h1 rfl he) ?_
  exact ⟨_, B_X7_sits_r1_12_s1 Ln _ _ _ _ , _, rfl, h2⟩
def SL_X8_bank_r44_114 (Ln : Nat) (I : Nat → Nat → Int32) (v1 : Int32) (v2 : Int32) (v3 : Int32) (v4 : Int32) (v5 : Int32) (Q : Int32 → (Nat → Nat → Int32) → (Nat → Nat → Int32) → Prop) : Int32 × (Nat → Nat → Int32) → Prop
  | (v6, A) => zSem 109 114 0 0 [some (.ref 44), some (.int v1), some (.int v2), some (.int v3), some (.int v4), some (.int v5), some (.int v6)] [] (zGs Ln I A) (fun r => ∃ x I1 A1, r = (some (.int x), zGs Ln I1 A1) ∧ Q x I1 A1)
def L_X8_bank_r44_114 (Ln : Nat) (I : Nat → Nat → Int32) (v1 : Int32) (v2 : Int32) (v3 : Int32) (v4 : Int32) (v5 : Int32) (Q : Int32 → (Nat → Nat → Int32) → (Nat → Nat → Int32) → Prop) : Int32 × (Nat → Nat → Int32) → (Int32 × (Nat → Nat → Int32) → Prop) → Prop
  | (v6, A), K114 => ((((I 44 4) : Int32) ≤ v6 → ((W_X8_refused_r44 Ln (zp (zp (zp I 44 10 0) 44 20 0) 44 31 0) A (I 44 4) (fun (r8 : Int32) (I9 : Nat → Nat → Int32) => (Q r8 I9 A))))) ∧ (¬ (((I 44 4) : Int32) ≤ v6) → ((zin v6 6 = true) ∧ (zin v6 6 = true) ∧ (zin v6 6 = true) ∧ (zin v6 6 = true) ∧ (zin v6 6 = true) ∧ (zin v6 6 = true) ∧ (zin v6 6 = true) ∧ (zin v6 6 = true) ∧ (zin v6 6 = true) ∧ (zin v6 6 = true) ∧ (K114 ((v6 + 1), (zw (zw (zw (zw (zw A 45 ((v6).toNatClampNeg) (A 50 (v6).toNatClampNeg)) 46 ((v6).toNatClampNeg) (A 51 (v6).toNatClampNeg)) 47 ((v6).toNatClampNeg) (A 52 (v6).toNatClampNeg)) 48 ((v6).toNatClampNeg) (A 53 (v6).toNatClampNeg)) 49 ((v6).toNatClampNeg) (A 51 (v6).toNatClampNeg)))))))
set_option maxRecDepth 100000 in
theorem TL_X8_bank_r44_114 {Ln : Nat} {I : Nat → Nat → Int32} {v1 : Int32} {v2 : Int32} {v3 : Int32} {v4 : Int32} {v5 : Int32} {Q : Int32 → (Nat → Nat → Int32) → (Nat → Nat → Int32) → Prop} : ∀ p, zLoop (L_X8_bank_r44_114 Ln I v1 v2 v3 v4 v5  Q) p → SL_X8_bank_r44_114 Ln I v1 v2 v3 v4 v5 Q p := by
  refine zLoop.sound (Sem := SL_X8_bank_r44_114 Ln I v1 v2 v3 v4 v5 Q) ?_
  rintro ⟨v6, A⟩ K114 hK114 h0
  show zSem 109 114 0 0 [some (.ref 44), some (.int v1), some (.int v2), some (.int v3), some (.int v4), some (.int v5), some (.int v6)] [] (zGs Ln I A) (fun r => ∃ x I1 A1, r = (some (.int x), zGs Ln I1 A1) ∧ Q x I1 A1)
  change ((((I 44 4) : Int32) ≤ v6 → ((W_X8_refused_r44 Ln (zp (zp (zp I 44 10 0) 44 20 0) 44 31 0) A (I 44 4) (fun (r8 : Int32) (I9 : Nat → Nat → Int32) => (Q r8 I9 A))))) ∧ (¬ (((I 44 4) : Int32) ≤ v6) → ((zin v6 6 = true) ∧ (zin v6 6 = true) ∧ (zin v6 6 = true) ∧ (zin v6 6 = true) ∧ (zin v6 6 = true) ∧ (zin v6 6 = true) ∧ (zin v6 6 = true) ∧ (zin v6 6 = true) ∧ (zin v6 6 = true) ∧ (zin v6 6 = true) ∧ (K114 ((v6 + 1), (zw (zw (zw (zw (zw A 45 ((v6).toNatClampNeg) (A 50 (v6).toNatClampNeg)) 46 ((v6).toNatClampNeg) (A 51 (v6).toNatClampNeg)) 47 ((v6).toNatClampNeg) (A 52 (v6).toNatClampNeg)) 48 ((v6).toNatClampNeg) (A 53 (v6).toNatClampNeg)) 49 ((v6).toNatClampNeg) (A 51 (v6).toNatClampNeg))))))) at h0
  obtain ⟨h2, h3⟩ := h0
  by_cases h1 : ((I 44 4) : Int32) ≤ v6
  · refine zS1 (fun r he => B_X8_bank_r44_114 Ln _ _ _ _ _ _ _ _  (fun _ => he) (fun n => absurd h1 n)) ?_
    have h2 := h2 h1
    obtain ⟨_, h4, r8, I9, rfl, h5⟩ := T_X8_refused_r44 Ln _ _ _ _ h2
    refine zS1 (fun r he => B_X8_bank_r44_199 Ln _ _ _ _ _ _ _ _  h4 rfl he) ?_
    exact ⟨_, B_X8_bank_r44_222_s1 Ln _ _ _ _ _ _ _ _ _ , _, _, _, rfl, h5⟩
  · refine zS1 (fun r he => B_X8_bank_r44_114 Ln _ _ _ _ _ _ _ _  (fun n => absurd n h1) (fun _ => he)) ?_
    have h3 := h3 h1
    obtain ⟨h6, h7⟩ := h3
    obtain ⟨h8, h9⟩ := h7
    obtain ⟨h10, h11⟩ := h9
    obtain ⟨h12, h13⟩ := h11
    obtain ⟨h14, h15⟩ := h13
    obtain ⟨h16, h17⟩ := h15
    obtain ⟨h18, h19⟩ := h17
    obtain ⟨h20, h21⟩ := h19
    obtain ⟨h22, h23⟩ := h21
    obtain ⟨h24, h25⟩ := h23
    refine zS1 (fun r he => B_X8_bank_r44_123 Ln _ _ _ _ _ _ _ _ h6 h8 h10 h12 h14 h16 h18 h20 h22 h24 he) ?_
    have q := hK114 _ h25
    exact q
def W_X8_bank_r44 (Ln : Nat) (I A : Nat → Nat → Int32) (v1 : Int32) (v2 : Int32) (v3 : Int32) (v4 : Int32) (Q : Int32 → (Nat → Nat → Int32) → (Nat → Nat → Int32) → Prop) : Prop := ((W_X8_noSheet Ln I A v1 (fun (r1 : Int32) => (((r1 : Int32) = 0 → ((W_X8_in Ln I A (Int32.toInt64 v2) 0 2 (fun (r2 : Int32) => (((r2 : Int32) ≠ 0 → ((W_X8_cellsBarred_r44 Ln I A v1 v2 v3 (Int32.toInt64 v4) (fun (r3 : Int32) (I4 : Nat → Nat → Int32) => (((0 : Int32) ≤ r3 → ((W_X8_readsBank_r44 Ln I4 A ((60 * v1) + v3) v4 (fun (r5 : Int32) (I6 : Nat → Nat → Int32) (A7 : Nat → Nat → Int32) => (((r5 : Int32) ≠ 0 → ((zLoop (L_X8_bank_r44_114 Ln (zp (zp (zp (zp I6 44 1 (I6 44 12)) 44 2 (I6 44 13)) 44 3 (I6 44 14)) 44 4 (I6 44 15)) v1 v2 v3 v4 r3  Q) (0, A7)))) ∧ (¬ ((r5 : Int32) ≠ 0) → ((W_X8_refused_r44 Ln I6 A7 (((-100)) - (I6 44 11)) (fun (r10 : Int32) (I11 : Nat → Nat → Int32) => (Q r10 I11 A7)))))))))) ∧ (¬ ((0 : Int32) ≤ r3) → (Q r3 I4 A))))))) ∧ (¬ ((r2 : Int32) ≠ 0) → ((W_X8_refused_r44 Ln I A (-2) (fun (r12 : Int32) (I13 : Nat → Nat → Int32) => (Q r12 I13 A)))))))))) ∧ (¬ ((r1 : Int32) = 0) → ((W_X8_refused_r44 Ln I A (-1) (fun (r14 : Int32) (I15 : Nat → Nat → Int32) => (Q r14 I15 A)))))))))
set_option maxRecDepth 100000 in
theorem T_X8_bank_r44 (Ln : Nat) (I A : Nat → Nat → Int32) (v1 : Int32) (v2 : Int32) (v3 : Int32) (v4 : Int32) (Q : Int32 → (Nat → Nat → Int32) → (Nat → Nat → Int32) → Prop) (h0 : W_X8_bank_r44 Ln I A v1 v2 v3 v4 Q) : zSem 109 0 0 0 [some (.ref 44), some (.int v1), some (.int v2), some (.int v3), some (.int v4), none, none] [] (zGs Ln I A) (fun r => ∃ x I1 A1, r = (some (.int x), zGs Ln I1 A1) ∧ Q x I1 A1) := by
  unfold W_X8_bank_r44 at h0
  obtain ⟨_, h1, r1, rfl, h2⟩ := T_X8_noSheet Ln _ _ _ _ h0
  refine zS1 (fun r he => B_X8_bank_r44_0 Ln _ _ _ _ _ _  h1 rfl he) ?_
  obtain ⟨h4, h5⟩ := h2
  by_cases h3 : (r1 : Int32) = 0
  · refine zS1 (fun r he => B_X8_bank_r44_4_s1 Ln _ _ _ _ _ _ _  (fun _ => he) (fun n => absurd h3 n)) ?_
    have h4 := h4 h3
    obtain ⟨_, h6, r2, rfl, h7⟩ := T_X8_in Ln _ _ _ _ _ _ h4
    refine zS1 (fun r he => B_X8_bank_r44_13 Ln _ _ _ _ _ _  h6 rfl he) ?_
    obtain ⟨h9, h10⟩ := h7
    by_cases h8 : (r2 : Int32) ≠ 0
    · refine zS1 (fun r he => B_X8_bank_r44_22_s1 Ln _ _ _ _ _ _ _  (fun _ => he) (fun n => absurd h8 n)) ?_
      have h9 := h9 h8
      obtain ⟨_, h11, r3, I4, rfl, h12⟩ := T_X8_cellsBarred_r44 Ln _ _ _ _ _ _ _ h9
      refine zS1 (fun r he => B_X8_bank_r44_32 Ln _ _ _ _ _ _  h11 rfl he) ?_
      obtain ⟨h14, h15⟩ := h12
      by_cases h13 : (0 : Int32) ≤ r3
      · refine zS1 (fun r he => B_X8_bank_r44_42_s1 Ln _ _ _ _ _ _ _  (fun _ => he) (fun n => absurd h13 n)) ?_
        have h14 := h14 h13
        obtain ⟨_, h16, r5, I6, A7, rfl, h17⟩ := T_X8_readsBank_r44 Ln _ _ _ _ _ h14
        refine zS1 (fun r he => B_X8_bank_r44_52 Ln _ _ _ _ _ _ _  h16 rfl he) ?_
        obtain ⟨h19, h20⟩ := h17
        by_cases h18 : (r5 : Int32) ≠ 0
        · refine zS1 (fun r he => B_X8_bank_r44_64_s1 Ln _ _ _ _ _ _ _ _  (fun _ => he) (fun n => absurd h18 n)) ?_
          have h19 := h19 h18
          refine zS1 (fun r he => B_X8_bank_r44_79 Ln _ _ _ _ _ _ _  he) ?_
          exact TL_X8_bank_r44_114  _ h19
        · refine zS1 (fun r he => B_X8_bank_r44_64_s1 Ln _ _ _ _ _ _ _ _  (fun n => absurd n h18) (fun _ => he)) ?_
          have h20 := h20 h18
          obtain ⟨_, h21, r10, I11, rfl, h22⟩ := T_X8_refused_r44 Ln _ _ _ _ h20
          refine zS1 (fun r he => B_X8_bank_r44_67 Ln _ _ _ _ _ _ _  h21 rfl he) ?_
          exact ⟨_, B_X8_bank_r44_78_s1 Ln _ _ _ _ _ _ _ _ , _, _, _, rfl, h22⟩
      · refine zS1 (fun r he => B_X8_bank_r44_42_s1 Ln _ _ _ _ _ _ _  (fun n => absurd n h13) (fun _ => he)) ?_
        have h15 := h15 h13
        exact ⟨_, B_X8_bank_r44_49 Ln _ _ _ _ _ _ _ , _, _, _, rfl, h15⟩
    · refine zS1 (fun r he => B_X8_bank_r44_22_s1 Ln _ _ _ _ _ _ _  (fun n => absurd n h8) (fun _ => he)) ?_
      have h10 := h10 h8
      obtain ⟨_, h23, r12, I13, rfl, h24⟩ := T_X8_refused_r44 Ln _ _ _ _ h10
      refine zS1 (fun r he => B_X8_bank_r44_25 Ln _ _ _ _ _ _  h23 rfl he) ?_
      exact ⟨_, B_X8_bank_r44_31_s1 Ln _ _ _ _ _ _ _ , _, _, _, rfl, h24⟩
  · refine zS1 (fun r he => B_X8_bank_r44_4_s1 Ln _ _ _ _ _ _ _  (fun n => absurd n h3) (fun _ => he)) ?_
    have h5 := h5 h3
    obtain ⟨_, h25, r14, I15, rfl, h26⟩ := T_X8_refused_r44 Ln _ _ _ _ h5
    refine zS1 (fun r he => B_X8_bank_r44_7 Ln _ _ _ _ _ _  h25 rfl he) ?_
    exact ⟨_, B_X8_bank_r44_12_s1 Ln _ _ _ _ _ _ _ , _, _, _, rfl, h26⟩
