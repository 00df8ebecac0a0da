/-! methods, by program (wip/whole/gen_fun.py, gen_loop.py) -/
def LA_X8_readsBank_r44_166 : Nat → (Ln : Nat) → (I A : Nat → Nat → Int32) → Int32 → Int32 → Int32 → Int32 → Int32 → Int32 × (Nat → Nat → Int32) × (Nat → Nat → Int32)
  | 0, Ln, I, A, v1, v2, v3, v4, v5 => (0, I, A)
  | m + 1, Ln, I, A, v1, v2, v3, v4, v5 => if v3 = 0 then (v3, I, A) else (if (I 44 15) = 0 then (LA_X8_readsBank_r44_166 m Ln (SI_X8_readsShade_r44 Ln I A v1 v2) (SA_X8_readsShade_r44 Ln I A v1 v2) v1 v2 (V_X8_readsShade_r44 Ln I A v1 v2) v4 v5) else (if v2 ≤ (I 44 11) then (v3, I, A) else (LA_X8_readsBank_r44_166 m Ln (SI_X8_readsShade_r44 Ln I A v1 v2) (SA_X8_readsShade_r44 Ln I A v1 v2) v1 v2 (V_X8_readsShade_r44 Ln I A v1 v2) v4 v5)))
def PLA_X8_readsBank_r44_166 : Nat → (Ln : Nat) → (I A : Nat → Nat → Int32) → Int32 → Int32 → Int32 → Int32 → Int32 → Prop
  | 0, Ln, I, A, v1, v2, v3, v4, v5 => False
  | m + 1, Ln, I, A, v1, v2, v3, v4, v5 => (v3 = 0 → True) ∧ (¬ (v3 = 0) → (((I 44 15) = 0 → ((P_X8_readsShade_r44 Ln I A v1 v2) ∧ (PLA_X8_readsBank_r44_166 m Ln (SI_X8_readsShade_r44 Ln I A v1 v2) (SA_X8_readsShade_r44 Ln I A v1 v2) v1 v2 (V_X8_readsShade_r44 Ln I A v1 v2) v4 v5))) ∧ (¬ ((I 44 15) = 0) → ((v2 ≤ (I 44 11) → True) ∧ (¬ (v2 ≤ (I 44 11)) → ((P_X8_readsShade_r44 Ln I A v1 v2) ∧ (PLA_X8_readsBank_r44_166 m Ln (SI_X8_readsShade_r44 Ln I A v1 v2) (SA_X8_readsShade_r44 Ln I A v1 v2) v1 v2 (V_X8_readsShade_r44 Ln I A v1 v2) v4 v5)))))))
set_option maxRecDepth 100000 in
theorem MLA_X8_readsBank_r44_166 (m Ln : Nat) : ∀ (I A : Nat → Nat → Int32) (v1 : Int32) (v2 : Int32) (v3 : Int32) (v4 : Int32) (v5 : Int32), PLA_X8_readsBank_r44_166 m Ln I A v1 v2 v3 v4 v5 → zEv 107 166 0 0 [some (.ref 44), some (.int v1), some (.int v2), some (.int v3), some (.int v4), some (.int v5)] [] (zGs Ln I A) (some (.int (LA_X8_readsBank_r44_166 m Ln I A v1 v2 v3 v4 v5).1), zGs Ln (LA_X8_readsBank_r44_166 m Ln I A v1 v2 v3 v4 v5).2.1 (LA_X8_readsBank_r44_166 m Ln I A v1 v2 v3 v4 v5).2.2) := by
  induction m with
  | zero => intro I A v1 v2 v3 v4 v5 h; exact h.elim
  | succ m ih =>
    intro I A v1 v2 v3 v4 v5 h
    simp only [PLA_X8_readsBank_r44_166] at h
    simp only [LA_X8_readsBank_r44_166]
    refine B_X8_readsBank_r44_166 Ln I A v1 v2 v3 v4 v5  (fun q2 => ?_) (fun q2 => ?_)
    · try simp only [if_pos q2]
      exact B_X8_readsBank_r44_195 Ln I A v1 v2 v3 v4 v5 
    · try simp only [if_neg q2]
      have h3 := h.2 q2
      refine B_X8_readsBank_r44_170 Ln I A v1 v2 v3 v4 v5  (fun q6 => ?_) (fun q6 => ?_)
      · try simp only [if_pos q6]
        have h7 := h3.1 q6
        obtain ⟨g8_0, r9_⟩ := h7
        refine B_X8_readsBank_r44_185 Ln I A v1 v2 v3 v4 v5  (M_X8_readsShade_r44 Ln I A v1 v2 g8_0) rfl ?_
        refine B_X8_readsBank_r44_191_s1 Ln (SI_X8_readsShade_r44 Ln I A v1 v2) (SA_X8_readsShade_r44 Ln I A v1 v2) v1 v2 v3 v4 v5 (V_X8_readsShade_r44 Ln I A v1 v2)  ?_
        exact ih (SI_X8_readsShade_r44 Ln I A v1 v2) (SA_X8_readsShade_r44 Ln I A v1 v2) v1 v2 (V_X8_readsShade_r44 Ln I A v1 v2) v4 v5 r9_
      · try simp only [if_neg q6]
        have h12 := h3.2 q6
        refine B_X8_readsBank_r44_177 Ln I A v1 v2 v3 v4 v5  (fun q15 => ?_) (fun q15 => ?_)
        · try simp only [if_pos q15]
          exact B_X8_readsBank_r44_195 Ln I A v1 v2 v3 v4 v5 
        · try simp only [if_neg q15]
          have h16 := h12.2 q15
          obtain ⟨g17_0, r18_⟩ := h16
          refine B_X8_readsBank_r44_185 Ln I A v1 v2 v3 v4 v5  (M_X8_readsShade_r44 Ln I A v1 v2 g17_0) rfl ?_
          refine B_X8_readsBank_r44_191_s1 Ln (SI_X8_readsShade_r44 Ln I A v1 v2) (SA_X8_readsShade_r44 Ln I A v1 v2) v1 v2 v3 v4 v5 (V_X8_readsShade_r44 Ln I A v1 v2)  ?_
          exact ih (SI_X8_readsShade_r44 Ln I A v1 v2) (SA_X8_readsShade_r44 Ln I A v1 v2) v1 v2 (V_X8_readsShade_r44 Ln I A v1 v2) v4 v5 r18_
def J_X8_readsBank_r44_165_s1 (Ln : Nat) (I A : Nat → Nat → Int32) (v1 : Int32) (v2 : Int32) (v3 : Int32) (v4 : Int32) (v5 : Int32) (s0 : Int32) : Int32 × (Nat → Nat → Int32) × (Nat → Nat → Int32) := LA_X8_readsBank_r44_166 1000 Ln I A v1 v2 s0 v4 v5
def PJ_X8_readsBank_r44_165_s1 (Ln : Nat) (I A : Nat → Nat → Int32) (v1 : Int32) (v2 : Int32) (v3 : Int32) (v4 : Int32) (v5 : Int32) (s0 : Int32) : Prop := PLA_X8_readsBank_r44_166 1000 Ln I A v1 v2 s0 v4 v5
set_option maxRecDepth 100000 in
theorem MJ_X8_readsBank_r44_165_s1 (Ln : Nat) (I A : Nat → Nat → Int32) (v1 : Int32) (v2 : Int32) (v3 : Int32) (v4 : Int32) (v5 : Int32) (s0 : Int32) (h : PJ_X8_readsBank_r44_165_s1 Ln I A v1 v2 v3 v4 v5 s0) : zEv 107 165 0 0 [some (.ref 44), some (.int v1), some (.int v2), some (.int v3), some (.int v4), some (.int v5)] [.int s0] (zGs Ln I A) (some (.int (J_X8_readsBank_r44_165_s1 Ln I A v1 v2 v3 v4 v5 s0).1), zGs Ln (J_X8_readsBank_r44_165_s1 Ln I A v1 v2 v3 v4 v5 s0).2.1 (J_X8_readsBank_r44_165_s1 Ln I A v1 v2 v3 v4 v5 s0).2.2) := by
  unfold PJ_X8_readsBank_r44_165_s1 at h
  unfold J_X8_readsBank_r44_165_s1
  refine B_X8_readsBank_r44_165_s1 Ln I A v1 v2 v3 v4 v5 s0  ?_
  exact MLA_X8_readsBank_r44_166 1000 Ln I A v1 v2 s0 v4 v5 h
def J_X8_readsBank_r44_150_s2 (Ln : Nat) (I A : Nat → Nat → Int32) (v1 : Int32) (v2 : Int32) (v3 : Int32) (v4 : Int32) (v5 : Int32) (s1 : Int32) : Int32 × (Nat → Nat → Int32) × (Nat → Nat → Int32) := if s1 ≤ 0 then (J_X8_readsBank_r44_165_s1 Ln (zp I 44 14 s1) A v1 v2 v3 v4 v5 0) else (J_X8_readsBank_r44_165_s1 Ln (zp I 44 14 s1) A v1 v2 v3 v4 v5 1)
def PJ_X8_readsBank_r44_150_s2 (Ln : Nat) (I A : Nat → Nat → Int32) (v1 : Int32) (v2 : Int32) (v3 : Int32) (v4 : Int32) (v5 : Int32) (s1 : Int32) : Prop := (s1 ≤ 0 → (PJ_X8_readsBank_r44_165_s1 Ln (zp I 44 14 s1) A v1 v2 v3 v4 v5 0)) ∧ (¬ (s1 ≤ 0) → (PJ_X8_readsBank_r44_165_s1 Ln (zp I 44 14 s1) A v1 v2 v3 v4 v5 1))
set_option maxRecDepth 100000 in
theorem MJ_X8_readsBank_r44_150_s2 (Ln : Nat) (I A : Nat → Nat → Int32) (v1 : Int32) (v2 : Int32) (v3 : Int32) (v4 : Int32) (v5 : Int32) (s1 : Int32) (h : PJ_X8_readsBank_r44_150_s2 Ln I A v1 v2 v3 v4 v5 s1) : zEv 107 150 0 0 [some (.ref 44), some (.int v1), some (.int v2), some (.int v3), some (.int v4), some (.int v5)] [.int s1, .ref 44] (zGs Ln I A) (some (.int (J_X8_readsBank_r44_150_s2 Ln I A v1 v2 v3 v4 v5 s1).1), zGs Ln (J_X8_readsBank_r44_150_s2 Ln I A v1 v2 v3 v4 v5 s1).2.1 (J_X8_readsBank_r44_150_s2 Ln I A v1 v2 v3 v4 v5 s1).2.2) := by
  unfold PJ_X8_readsBank_r44_150_s2 at h
  unfold J_X8_readsBank_r44_150_s2
  refine B_X8_readsBank_r44_150_s2 Ln I A v1 v2 v3 v4 v5 s1  (fun q2 => ?_) (fun q2 => ?_)
  · try simp only [if_pos q2]
    have h3 := h.1 q2
    refine B_X8_readsBank_r44_164 Ln (zp I 44 14 s1) A v1 v2 v3 v4 v5  ?_
    exact MJ_X8_readsBank_r44_165_s1 Ln (zp I 44 14 s1) A v1 v2 v3 v4 v5 0 h3
  · try simp only [if_neg q2]
    have h6 := h.2 q2
    refine B_X8_readsBank_r44_160 Ln (zp I 44 14 s1) A v1 v2 v3 v4 v5  ?_
    exact MJ_X8_readsBank_r44_165_s1 Ln (zp I 44 14 s1) A v1 v2 v3 v4 v5 1 h6
def J_X8_readsBank_r44_117_s1 (Ln : Nat) (I A : Nat → Nat → Int32) (v1 : Int32) (v2 : Int32) (v3 : Int32) (v4 : Int32) (s0 : Int32) : Int32 × (Nat → Nat → Int32) × (Nat → Nat → Int32) := if 0 ≤ s0 then (J_X8_readsBank_r44_150_s2 Ln (SI_X8_figure_r44 Ln (zp I 44 13 ((10 * v4) + s0)) A v1 v2 1 4) A v1 v2 v3 v4 s0 (V_X8_figure_r44 Ln (zp I 44 13 ((10 * v4) + s0)) A v1 v2 1 4)) else (J_X8_readsBank_r44_150_s2 Ln (zp I 44 13 ((10 * v4) + s0)) A v1 v2 v3 v4 s0 (-9))
def PJ_X8_readsBank_r44_117_s1 (Ln : Nat) (I A : Nat → Nat → Int32) (v1 : Int32) (v2 : Int32) (v3 : Int32) (v4 : Int32) (s0 : Int32) : Prop := (0 ≤ s0 → ((P_X8_figure_r44 Ln (zp I 44 13 ((10 * v4) + s0)) A v1 v2 1 4) ∧ (PJ_X8_readsBank_r44_150_s2 Ln (SI_X8_figure_r44 Ln (zp I 44 13 ((10 * v4) + s0)) A v1 v2 1 4) A v1 v2 v3 v4 s0 (V_X8_figure_r44 Ln (zp I 44 13 ((10 * v4) + s0)) A v1 v2 1 4)))) ∧ (¬ (0 ≤ s0) → (PJ_X8_readsBank_r44_150_s2 Ln (zp I 44 13 ((10 * v4) + s0)) A v1 v2 v3 v4 s0 (-9)))
set_option maxRecDepth 100000 in
theorem MJ_X8_readsBank_r44_117_s1 (Ln : Nat) (I A : Nat → Nat → Int32) (v1 : Int32) (v2 : Int32) (v3 : Int32) (v4 : Int32) (s0 : Int32) (h : PJ_X8_readsBank_r44_117_s1 Ln I A v1 v2 v3 v4 s0) : zEv 107 117 0 0 [some (.ref 44), some (.int v1), some (.int v2), some (.int v3), some (.int v4), none] [.int s0] (zGs Ln I A) (some (.int (J_X8_readsBank_r44_117_s1 Ln I A v1 v2 v3 v4 s0).1), zGs Ln (J_X8_readsBank_r44_117_s1 Ln I A v1 v2 v3 v4 s0).2.1 (J_X8_readsBank_r44_117_s1 Ln I A v1 v2 v3 v4 s0).2.2) := by
  unfold PJ_X8_readsBank_r44_117_s1 at h
  unfold J_X8_readsBank_r44_117_s1
  refine B_X8_readsBank_r44_117_s1 Ln I A v1 v2 v3 v4 s0  (fun q2 => ?_) (fun q2 => ?_)
  · try simp only [if_pos q2]
    have h3 := h.1 q2
    obtain ⟨g4_0, r5_⟩ := h3
    refine B_X8_readsBank_r44_142_s1 Ln (zp I 44 13 ((10 * v4) + s0)) A v1 v2 v3 v4 s0  (M_X8_figure_r44 Ln (zp I 44 13 ((10 * v4) + s0)) A v1 v2 1 4 g4_0) rfl ?_
    exact MJ_X8_readsBank_r44_150_s2 Ln (SI_X8_figure_r44 Ln (zp I 44 13 ((10 * v4) + s0)) A v1 v2 1 4) A v1 v2 v3 v4 s0 (V_X8_figure_r44 Ln (zp I 44 13 ((10 * v4) + s0)) A v1 v2 1 4) r5_
  · try simp only [if_neg q2]
    have h6 := h.2 q2
    refine B_X8_readsBank_r44_137_s1 Ln (zp I 44 13 ((10 * v4) + s0)) A v1 v2 v3 v4 s0  ?_
    exact MJ_X8_readsBank_r44_150_s2 Ln (zp I 44 13 ((10 * v4) + s0)) A v1 v2 v3 v4 s0 (-9) h6
def J_X8_readsBank_r44_112_s4 (Ln : Nat) (I A : Nat → Nat → Int32) (v1 : Int32) (v2 : Int32) (v3 : Int32) (v4 : Int32) (s1 : Int32) (s2 : Int32) (s3 : Int32) : Int32 × (Nat → Nat → Int32) × (Nat → Nat → Int32) := J_X8_readsBank_r44_117_s1 Ln (SI_X8_figure_r44 Ln I A s1 s2 s3 9) A v1 v2 v3 v4 (V_X8_figure_r44 Ln I A s1 s2 s3 9)
def PJ_X8_readsBank_r44_112_s4 (Ln : Nat) (I A : Nat → Nat → Int32) (v1 : Int32) (v2 : Int32) (v3 : Int32) (v4 : Int32) (s1 : Int32) (s2 : Int32) (s3 : Int32) : Prop := (P_X8_figure_r44 Ln I A s1 s2 s3 9) ∧ (PJ_X8_readsBank_r44_117_s1 Ln (SI_X8_figure_r44 Ln I A s1 s2 s3 9) A v1 v2 v3 v4 (V_X8_figure_r44 Ln I A s1 s2 s3 9))
set_option maxRecDepth 100000 in
theorem MJ_X8_readsBank_r44_112_s4 (Ln : Nat) (I A : Nat → Nat → Int32) (v1 : Int32) (v2 : Int32) (v3 : Int32) (v4 : Int32) (s1 : Int32) (s2 : Int32) (s3 : Int32) (h : PJ_X8_readsBank_r44_112_s4 Ln I A v1 v2 v3 v4 s1 s2 s3) : zEv 107 112 0 0 [some (.ref 44), some (.int v1), some (.int v2), some (.int v3), some (.int v4), none] [.int s3, .int s2, .int s1, .ref 44] (zGs Ln I A) (some (.int (J_X8_readsBank_r44_112_s4 Ln I A v1 v2 v3 v4 s1 s2 s3).1), zGs Ln (J_X8_readsBank_r44_112_s4 Ln I A v1 v2 v3 v4 s1 s2 s3).2.1 (J_X8_readsBank_r44_112_s4 Ln I A v1 v2 v3 v4 s1 s2 s3).2.2) := by
  unfold PJ_X8_readsBank_r44_112_s4 at h
  unfold J_X8_readsBank_r44_112_s4
  obtain ⟨g0_0, r1_⟩ := h
  refine B_X8_readsBank_r44_112_s4 Ln I A v1 v2 v3 v4 s1 s2 s3  (M_X8_figure_r44 Ln I A s1 s2 s3 9 g0_0) rfl ?_
  exact MJ_X8_readsBank_r44_117_s1 Ln (SI_X8_figure_r44 Ln I A s1 s2 s3 9) A v1 v2 v3 v4 (V_X8_figure_r44 Ln I A s1 s2 s3 9) r1_
def J_X8_readsBank_r44_87_s1 (Ln : Nat) (I A : Nat → Nat → Int32) (v1 : Int32) (v2 : Int32) (v3 : Int32) (s0 : Int32) : Int32 × (Nat → Nat → Int32) × (Nat → Nat → Int32) := if 0 ≤ s0 then (if s0 ≠ 0 then (J_X8_readsBank_r44_112_s4 Ln I A v1 v2 v3 s0 v1 v2 0) else (J_X8_readsBank_r44_112_s4 Ln I A v1 v2 v3 s0 v1 v2 1)) else (J_X8_readsBank_r44_117_s1 Ln I A v1 v2 v3 s0 (-9))
def PJ_X8_readsBank_r44_87_s1 (Ln : Nat) (I A : Nat → Nat → Int32) (v1 : Int32) (v2 : Int32) (v3 : Int32) (s0 : Int32) : Prop := (0 ≤ s0 → ((s0 ≠ 0 → (PJ_X8_readsBank_r44_112_s4 Ln I A v1 v2 v3 s0 v1 v2 0)) ∧ (¬ (s0 ≠ 0) → (PJ_X8_readsBank_r44_112_s4 Ln I A v1 v2 v3 s0 v1 v2 1)))) ∧ (¬ (0 ≤ s0) → (PJ_X8_readsBank_r44_117_s1 Ln I A v1 v2 v3 s0 (-9)))
set_option maxRecDepth 100000 in
theorem MJ_X8_readsBank_r44_87_s1 (Ln : Nat) (I A : Nat → Nat → Int32) (v1 : Int32) (v2 : Int32) (v3 : Int32) (s0 : Int32) (h : PJ_X8_readsBank_r44_87_s1 Ln I A v1 v2 v3 s0) : zEv 107 87 0 0 [some (.ref 44), some (.int v1), some (.int v2), some (.int v3), none, none] [.int s0] (zGs Ln I A) (some (.int (J_X8_readsBank_r44_87_s1 Ln I A v1 v2 v3 s0).1), zGs Ln (J_X8_readsBank_r44_87_s1 Ln I A v1 v2 v3 s0).2.1 (J_X8_readsBank_r44_87_s1 Ln I A v1 v2 v3 s0).2.2) := by
  unfold PJ_X8_readsBank_r44_87_s1 at h
  unfold J_X8_readsBank_r44_87_s1
  refine B_X8_readsBank_r44_87_s1 Ln I A v1 v2 v3 s0  (fun q2 => ?_) (fun q2 => ?_)
  · try simp only [if_pos q2]
    have h3 := h.1 q2
    refine B_X8_readsBank_r44_99 Ln I A v1 v2 v3 s0  (fun q6 => ?_) (fun q6 => ?_)
    · try simp only [if_pos q6]
      have h7 := h3.1 q6
      refine B_X8_readsBank_r44_111_s3 Ln I A v1 v2 v3 s0 v1 v2  ?_
      exact MJ_X8_readsBank_r44_112_s4 Ln I A v1 v2 v3 s0 v1 v2 0 h7
    · try simp only [if_neg q6]
      have h10 := h3.2 q6
      refine B_X8_readsBank_r44_107_s3 Ln I A v1 v2 v3 s0 v1 v2  ?_
      exact MJ_X8_readsBank_r44_112_s4 Ln I A v1 v2 v3 s0 v1 v2 1 h10
  · try simp only [if_neg q2]
    have h13 := h.2 q2
    refine B_X8_readsBank_r44_94 Ln I A v1 v2 v3 s0  ?_
    exact MJ_X8_readsBank_r44_117_s1 Ln I A v1 v2 v3 s0 (-9) h13
def J_X8_readsBank_r44_63_s2 (Ln : Nat) (I A : Nat → Nat → Int32) (v1 : Int32) (v2 : Int32) (v3 : Int32) (s1 : Int32) : Int32 × (Nat → Nat → Int32) × (Nat → Nat → Int32) := if 0 ≤ s1 then (J_X8_readsBank_r44_87_s1 Ln (SI_X8_figure_r44 Ln (zp I 44 12 s1) A v1 v2 0 9) A v1 v2 v3 (V_X8_figure_r44 Ln (zp I 44 12 s1) A v1 v2 0 9)) else (J_X8_readsBank_r44_87_s1 Ln (zp I 44 12 s1) A v1 v2 v3 (-9))
def PJ_X8_readsBank_r44_63_s2 (Ln : Nat) (I A : Nat → Nat → Int32) (v1 : Int32) (v2 : Int32) (v3 : Int32) (s1 : Int32) : Prop := (0 ≤ s1 → ((P_X8_figure_r44 Ln (zp I 44 12 s1) A v1 v2 0 9) ∧ (PJ_X8_readsBank_r44_87_s1 Ln (SI_X8_figure_r44 Ln (zp I 44 12 s1) A v1 v2 0 9) A v1 v2 v3 (V_X8_figure_r44 Ln (zp I 44 12 s1) A v1 v2 0 9)))) ∧ (¬ (0 ≤ s1) → (PJ_X8_readsBank_r44_87_s1 Ln (zp I 44 12 s1) A v1 v2 v3 (-9)))
set_option maxRecDepth 100000 in
theorem MJ_X8_readsBank_r44_63_s2 (Ln : Nat) (I A : Nat → Nat → Int32) (v1 : Int32) (v2 : Int32) (v3 : Int32) (s1 : Int32) (h : PJ_X8_readsBank_r44_63_s2 Ln I A v1 v2 v3 s1) : zEv 107 63 0 0 [some (.ref 44), some (.int v1), some (.int v2), some (.int v3), none, none] [.int s1, .ref 44] (zGs Ln I A) (some (.int (J_X8_readsBank_r44_63_s2 Ln I A v1 v2 v3 s1).1), zGs Ln (J_X8_readsBank_r44_63_s2 Ln I A v1 v2 v3 s1).2.1 (J_X8_readsBank_r44_63_s2 Ln I A v1 v2 v3 s1).2.2) := by
  unfold PJ_X8_readsBank_r44_63_s2 at h
  unfold J_X8_readsBank_r44_63_s2
  refine B_X8_readsBank_r44_63_s2 Ln I A v1 v2 v3 s1  (fun q2 => ?_) (fun q2 => ?_)
  · try simp only [if_pos q2]
    have h3 := h.1 q2
    obtain ⟨g4_0, r5_⟩ := h3
    refine B_X8_readsBank_r44_78 Ln (zp I 44 12 s1) A v1 v2 v3  (M_X8_figure_r44 Ln (zp I 44 12 s1) A v1 v2 0 9 g4_0) rfl ?_
    exact MJ_X8_readsBank_r44_87_s1 Ln (SI_X8_figure_r44 Ln (zp I 44 12 s1) A v1 v2 0 9) A v1 v2 v3 (V_X8_figure_r44 Ln (zp I 44 12 s1) A v1 v2 0 9) r5_
  · try simp only [if_neg q2]
    have h6 := h.2 q2
    refine B_X8_readsBank_r44_73 Ln (zp I 44 12 s1) A v1 v2 v3  ?_
    exact MJ_X8_readsBank_r44_87_s1 Ln (zp I 44 12 s1) A v1 v2 v3 (-9) h6
def J_X8_readsBank_r44_41_s3 (Ln : Nat) (I A : Nat → Nat → Int32) (v1 : Int32) (v2 : Int32) (v3 : Int32) (s1 : Int32) (s2 : Int32) : Int32 × (Nat → Nat → Int32) × (Nat → Nat → Int32) := if v3 = 0 then (J_X8_readsBank_r44_63_s2 Ln (zp I 44 11 (s1 + s2)) A v1 v2 v3 (-9)) else (J_X8_readsBank_r44_63_s2 Ln (SI_X8_figure_r44 Ln (zp I 44 11 (s1 + s2)) A v1 v2 1 4) A v1 v2 v3 (V_X8_figure_r44 Ln (zp I 44 11 (s1 + s2)) A v1 v2 1 4))
def PJ_X8_readsBank_r44_41_s3 (Ln : Nat) (I A : Nat → Nat → Int32) (v1 : Int32) (v2 : Int32) (v3 : Int32) (s1 : Int32) (s2 : Int32) : Prop := (v3 = 0 → (PJ_X8_readsBank_r44_63_s2 Ln (zp I 44 11 (s1 + s2)) A v1 v2 v3 (-9))) ∧ (¬ (v3 = 0) → ((P_X8_figure_r44 Ln (zp I 44 11 (s1 + s2)) A v1 v2 1 4) ∧ (PJ_X8_readsBank_r44_63_s2 Ln (SI_X8_figure_r44 Ln (zp I 44 11 (s1 + s2)) A v1 v2 1 4) A v1 v2 v3 (V_X8_figure_r44 Ln (zp I 44 11 (s1 + s2)) A v1 v2 1 4))))
set_option maxRecDepth 100000 in
theorem MJ_X8_readsBank_r44_41_s3 (Ln : Nat) (I A : Nat → Nat → Int32) (v1 : Int32) (v2 : Int32) (v3 : Int32) (s1 : Int32) (s2 : Int32) (h : PJ_X8_readsBank_r44_41_s3 Ln I A v1 v2 v3 s1 s2) : zEv 107 41 0 0 [some (.ref 44), some (.int v1), some (.int v2), some (.int v3), none, none] [.int s2, .int s1, .ref 44] (zGs Ln I A) (some (.int (J_X8_readsBank_r44_41_s3 Ln I A v1 v2 v3 s1 s2).1), zGs Ln (J_X8_readsBank_r44_41_s3 Ln I A v1 v2 v3 s1 s2).2.1 (J_X8_readsBank_r44_41_s3 Ln I A v1 v2 v3 s1 s2).2.2) := by
  unfold PJ_X8_readsBank_r44_41_s3 at h
  unfold J_X8_readsBank_r44_41_s3
  refine B_X8_readsBank_r44_41_s3 Ln I A v1 v2 v3 s1 s2  (fun q2 => ?_) (fun q2 => ?_)
  · try simp only [if_pos q2]
    have h3 := h.1 q2
    refine B_X8_readsBank_r44_61_s1 Ln (zp I 44 11 (s1 + s2)) A v1 v2 v3  ?_
    exact MJ_X8_readsBank_r44_63_s2 Ln (zp I 44 11 (s1 + s2)) A v1 v2 v3 (-9) h3
  · try simp only [if_neg q2]
    have h6 := h.2 q2
    obtain ⟨g7_0, r8_⟩ := h6
    refine B_X8_readsBank_r44_50_s1 Ln (zp I 44 11 (s1 + s2)) A v1 v2 v3  (M_X8_figure_r44 Ln (zp I 44 11 (s1 + s2)) A v1 v2 1 4 g7_0) rfl ?_
    refine B_X8_readsBank_r44_58_s2 Ln (SI_X8_figure_r44 Ln (zp I 44 11 (s1 + s2)) A v1 v2 1 4) A v1 v2 v3 (V_X8_figure_r44 Ln (zp I 44 11 (s1 + s2)) A v1 v2 1 4)  ?_
    exact MJ_X8_readsBank_r44_63_s2 Ln (SI_X8_figure_r44 Ln (zp I 44 11 (s1 + s2)) A v1 v2 1 4) A v1 v2 v3 (V_X8_figure_r44 Ln (zp I 44 11 (s1 + s2)) A v1 v2 1 4) r8_
def J_X8_readsBank_r44_26_s1 (Ln : Nat) (I A : Nat → Nat → Int32) (v1 : Int32) (v2 : Int32) (s0 : Int32) : Int32 × (Nat → Nat → Int32) × (Nat → Nat → Int32) := if s0 = 0 then (J_X8_readsBank_r44_41_s3 Ln I A v1 v2 s0 (I 44 11) 0) else (J_X8_readsBank_r44_41_s3 Ln I A v1 v2 s0 (I 44 11) 1)
def PJ_X8_readsBank_r44_26_s1 (Ln : Nat) (I A : Nat → Nat → Int32) (v1 : Int32) (v2 : Int32) (s0 : Int32) : Prop := (s0 = 0 → (PJ_X8_readsBank_r44_41_s3 Ln I A v1 v2 s0 (I 44 11) 0)) ∧ (¬ (s0 = 0) → (PJ_X8_readsBank_r44_41_s3 Ln I A v1 v2 s0 (I 44 11) 1))
set_option maxRecDepth 100000 in
theorem MJ_X8_readsBank_r44_26_s1 (Ln : Nat) (I A : Nat → Nat → Int32) (v1 : Int32) (v2 : Int32) (s0 : Int32) (h : PJ_X8_readsBank_r44_26_s1 Ln I A v1 v2 s0) : zEv 107 26 0 0 [some (.ref 44), some (.int v1), some (.int v2), none, none, none] [.int s0] (zGs Ln I A) (some (.int (J_X8_readsBank_r44_26_s1 Ln I A v1 v2 s0).1), zGs Ln (J_X8_readsBank_r44_26_s1 Ln I A v1 v2 s0).2.1 (J_X8_readsBank_r44_26_s1 Ln I A v1 v2 s0).2.2) := by
  unfold PJ_X8_readsBank_r44_26_s1 at h
  unfold J_X8_readsBank_r44_26_s1
  refine B_X8_readsBank_r44_26_s1 Ln I A v1 v2 s0  (fun q2 => ?_) (fun q2 => ?_)
  · try simp only [if_pos q2]
    have h3 := h.1 q2
    refine B_X8_readsBank_r44_40_s2 Ln I A v1 v2 s0 (I 44 11)  ?_
    exact MJ_X8_readsBank_r44_41_s3 Ln I A v1 v2 s0 (I 44 11) 0 h3
  · try simp only [if_neg q2]
    have h6 := h.2 q2
    refine B_X8_readsBank_r44_36_s2 Ln I A v1 v2 s0 (I 44 11)  ?_
    exact MJ_X8_readsBank_r44_41_s3 Ln I A v1 v2 s0 (I 44 11) 1 h6
def V_X8_readsBank_r44 (Ln : Nat) (I A : Nat → Nat → Int32) (v1 : Int32) (v2 : Int32) : Int32 := if (V_X8_codeAt_r44 Ln (zp (zp I 44 11 0) 44 15 0) A v1 v2) ≠ 114 then ((J_X8_readsBank_r44_26_s1 Ln (zp (zp I 44 11 0) 44 15 0) A v1 v2 0).1) else ((J_X8_readsBank_r44_26_s1 Ln (zp (zp I 44 11 0) 44 15 0) A v1 v2 1).1)
def SI_X8_readsBank_r44 (Ln : Nat) (I A : Nat → Nat → Int32) (v1 : Int32) (v2 : Int32) : Nat → Nat → Int32 := if (V_X8_codeAt_r44 Ln (zp (zp I 44 11 0) 44 15 0) A v1 v2) ≠ 114 then ((J_X8_readsBank_r44_26_s1 Ln (zp (zp I 44 11 0) 44 15 0) A v1 v2 0).2.1) else ((J_X8_readsBank_r44_26_s1 Ln (zp (zp I 44 11 0) 44 15 0) A v1 v2 1).2.1)
def SA_X8_readsBank_r44 (Ln : Nat) (I A : Nat → Nat → Int32) (v1 : Int32) (v2 : Int32) : Nat → Nat → Int32 := if (V_X8_codeAt_r44 Ln (zp (zp I 44 11 0) 44 15 0) A v1 v2) ≠ 114 then ((J_X8_readsBank_r44_26_s1 Ln (zp (zp I 44 11 0) 44 15 0) A v1 v2 0).2.2) else ((J_X8_readsBank_r44_26_s1 Ln (zp (zp I 44 11 0) 44 15 0) A v1 v2 1).2.2)
def P_X8_readsBank_r44 (Ln : Nat) (I A : Nat → Nat → Int32) (v1 : Int32) (v2 : Int32) : Prop := (P_X8_codeAt_r44 Ln (zp (zp I 44 11 0) 44 15 0) A v1 v2) ∧ (((V_X8_codeAt_r44 Ln (zp (zp I 44 11 0) 44 15 0) A v1 v2) ≠ 114 → (PJ_X8_readsBank_r44_26_s1 Ln (zp (zp I 44 11 0) 44 15 0) A v1 v2 0)) ∧ (¬ ((V_X8_codeAt_r44 Ln (zp (zp I 44 11 0) 44 15 0) A v1 v2) ≠ 114) → (PJ_X8_readsBank_r44_26_s1 Ln (zp (zp I 44 11 0) 44 15 0) A v1 v2 1)))
set_option maxRecDepth 100000 in
theorem M_X8_readsBank_r44 (Ln : Nat) (I A : Nat → Nat → Int32) (v1 : Int32) (v2 : Int32) (h : P_X8_readsBank_r44 Ln I A v1 v2) : zEv 107 0 0 0 [some (.ref 44), some (.int v1), some (.int v2), none, none, none] [] (zGs Ln I A) (some (.int (V_X8_readsBank_r44 Ln I A v1 v2)), zGs Ln (SI_X8_readsBank_r44 Ln I A v1 v2) (SA_X8_readsBank_r44 Ln I A v1 v2)) := by
  unfold P_X8_readsBank_r44 at h
  unfold V_X8_readsBank_r44 SI_X8_readsBank_r44 SA_X8_readsBank_r44
  obtain ⟨g0_0, r1_⟩ := h
  refine B_X8_readsBank_r44_0 Ln I A v1 v2  (M_X8_codeAt_r44 Ln (zp (zp I 44 11 0) 44 15 0) A v1 v2 g0_0) rfl ?_
  refine B_X8_readsBank_r44_16_s1 Ln (zp (zp I 44 11 0) 44 15 0) A v1 v2 (V_X8_codeAt_r44 Ln (zp (zp I 44 11 0) 44 15 0) A v1 v2)  (fun q4 => ?_) (fun q4 => ?_)
  · try simp only [if_pos q4]
    have h5 := r1_.1 q4
    refine B_X8_readsBank_r44_25 Ln (zp (zp I 44 11 0) 44 15 0) A v1 v2  ?_
    exact MJ_X8_readsBank_r44_26_s1 Ln (zp (zp I 44 11 0) 44 15 0) A v1 v2 0 h5
  · try simp only [if_neg q4]
    have h8 := r1_.2 q4
    refine B_X8_readsBank_r44_21 Ln (zp (zp I 44 11 0) 44 15 0) A v1 v2  ?_
    exact MJ_X8_readsBank_r44_26_s1 Ln (zp (zp I 44 11 0) 44 15 0) A v1 v2 1 h8
def V_X8_ofShade_r44 (Ln : Nat) (I A : Nat → Nat → Int32) (v1 : Int32) (v2 : Int32) : Int32 := if (V_X8_noShade_r44 Ln I A v1) = 0 then (if (v2 : Int32).toInt = 0 then (A 45 (v1).toNatClampNeg) else (if (v2 : Int32).toInt = 1 then (A 46 (v1).toNatClampNeg) else (if (v2 : Int32).toInt = 2 then (A 47 (v1).toNatClampNeg) else (if (v2 : Int32).toInt = 3 then (A 48 (v1).toNatClampNeg) else (if (v2 : Int32).toInt = 4 then (V_X8_paysOf_r44 Ln I A v1) else (if (v2 : Int32).toInt = 5 then (V_X8_heavyOf_r44 Ln I A v1) else (if (v2 : Int32).toInt = 6 then (A 49 (v1).toNatClampNeg) else (-2)))))))) else (-1)
def P_X8_ofShade_r44 (Ln : Nat) (I A : Nat → Nat → Int32) (v1 : Int32) (v2 : Int32) : Prop := ((V_X8_noShade_r44 Ln I A v1) = 0 → (((v2 : Int32).toInt = 0 → (zin v1 6 = true)) ∧ ((v2 : Int32).toInt = 1 → (zin v1 6 = true)) ∧ ((v2 : Int32).toInt = 2 → (zin v1 6 = true)) ∧ ((v2 : Int32).toInt = 3 → (zin v1 6 = true)) ∧ ((v2 : Int32).toInt = 4 → (P_X8_paysOf_r44 Ln I A v1)) ∧ ((v2 : Int32).toInt = 5 → (P_X8_heavyOf_r44 Ln I A v1)) ∧ ((v2 : Int32).toInt = 6 → (zin v1 6 = true)) ∧ (¬ (v2 : Int32).toInt = 0 → ¬ (v2 : Int32).toInt = 1 → ¬ (v2 : Int32).toInt = 2 → ¬ (v2 : Int32).toInt = 3 → ¬ (v2 : Int32).toInt = 4 → ¬ (v2 : Int32).toInt = 5 → ¬ (v2 : Int32).toInt = 6 → True))) ∧ (¬ ((V_X8_noShade_r44 Ln I A v1) = 0) → True)
set_option maxRecDepth 100000 in
theorem M_X8_ofShade_r44 (Ln : Nat) (I A : Nat → Nat → Int32) (v1 : Int32) (v2 : Int32) (h : P_X8_ofShade_r44 Ln I A v1 v2) : zEv 112 0 0 0 [some (.ref 44), some (.int v1), some (.int v2)] [] (zGs Ln I A) (some (.int (V_X8_ofShade_r44 Ln I A v1 v2)), zGs Ln (I) (A)) := by
  unfold P_X8_ofShade_r44 at h
  unfold V_X8_ofShade_r44
  refine B_X8_ofShade_r44_0 Ln I A v1 v2  (M_X8_noShade_r44 Ln I A v1 ) rfl ?_
  refine B_X8_ofShade_r44_5_s1 Ln I A v1 v2 (V_X8_noShade_r44 Ln I A v1)  (fun q4 => ?_) (fun q4 => ?_)
  · try simp only [if_pos q4]
    have h5 := h.1 q4
    refine B_X8_ofShade_r44_10 Ln I A v1 v2  (fun c0 => ?_) (fun c1 => ?_) (fun c2 => ?_) (fun c3 => ?_) (fun c4 => ?_) (fun c5 => ?_) (fun c6 => ?_) (fun c0 c1 c2 c3 c4 c5 c6 => ?_)
    ·  try simp only [if_pos c0]
      have h8 := h5.1 c0
      exact B_X8_ofShade_r44_52 Ln I A v1 v2 h8
    · have n0 : ¬ (v2 : Int32).toInt = 0 := (fun q => absurd (q.symm.trans c1) (by decide)); try simp only [if_neg n0, if_pos c1]
      have h10 := h5.2.1 c1
      exact B_X8_ofShade_r44_59 Ln I A v1 v2 h10
    · have n0 : ¬ (v2 : Int32).toInt = 0 := (fun q => absurd (q.symm.trans c2) (by decide)); have n1 : ¬ (v2 : Int32).toInt = 1 := (fun q => absurd (q.symm.trans c2) (by decide)); try simp only [if_neg n0, if_neg n1, if_pos c2]
      have h12 := h5.2.2.1 c2
      exact B_X8_ofShade_r44_66 Ln I A v1 v2 h12
    · have n0 : ¬ (v2 : Int32).toInt = 0 := (fun q => absurd (q.symm.trans c3) (by decide)); have n1 : ¬ (v2 : Int32).toInt = 1 := (fun q => absurd (q.symm.trans c3) (by decide)); have n2 : ¬ (v2 : Int32).toInt = 2 := (fun q => absurd (q.symm.trans c3) (by decide)); try simp only [if_neg n0, if_neg n1, if_neg n2, if_pos c3]
      have h14 := h5.2.2.2.1 c3
      exact B_X8_ofShade_r44_73 Ln I A v1 v2 h14
    · have n0 : ¬ (v2 : Int32).toInt = 0 := (fun q => absurd (q.symm.trans c4) (by decide)); have n1 : ¬ (v2 : Int32).toInt = 1 := (fun q => absurd (q.symm.trans c4) (by decide)); have n2 : ¬ (v2 : Int32).toInt = 2 := (fun q => absurd (q.symm.trans c4) (by decide)); have n3 : ¬ (v2 : Int32).toInt = 3 := (fun q => absurd (q.symm.trans c4) (by decide)); try simp only [if_neg n0, if_neg n1, if_neg n2, if_neg n3, if_pos c4]
      have h16 := h5.2.2.2.2.1 c4
      refine B_X8_ofShade_r44_80 Ln I A v1 v2  (M_X8_paysOf_r44 Ln I A v1 h16) rfl ?_
      exact B_X8_ofShade_r44_85_s1 Ln I A v1 v2 (V_X8_paysOf_r44 Ln I A v1) 
    · have n0 : ¬ (v2 : Int32).toInt = 0 := (fun q => absurd (q.symm.trans c5) (by decide)); have n1 : ¬ (v2 : Int32).toInt = 1 := (fun q => absurd (q.symm.trans c5) (by decide)); have n2 : ¬ (v2 : Int32).toInt = 2 := (fun q => absurd (q.symm.trans c5) (by decide)); have n3 : ¬ (v2 : Int32).toInt = 3 := (fun q => absurd (q.symm.trans c5) (by decide)); have n4 : ¬ (v2 : Int32).toInt = 4 := (fun q => absurd (q.symm.trans c5) (by decide)); try simp only [if_neg n0, if_neg n1, if_neg n2, if_neg n3, if_neg n4, if_pos c5]
      have h18 := h5.2.2.2.2.2.1 c5
      refine B_X8_ofShade_r44_86 Ln I A v1 v2  (M_X8_heavyOf_r44 Ln I A v1 h18) rfl ?_
      exact B_X8_ofShade_r44_91_s1 Ln I A v1 v2 (V_X8_heavyOf_r44 Ln I A v1) 
    · have n0 : ¬ (v2 : Int32).toInt = 0 := (fun q => absurd (q.symm.trans c6) (by decide)); have n1 : ¬ (v2 : Int32).toInt = 1 := (fun q => absurd (q.symm.trans c6) (by decide)); have n2 : ¬ (v2 : Int32).toInt = 2 := (fun q => absurd (q.symm.trans c6) (by decide)); have n3 : ¬ (v2 : Int32).toInt = 3 := (fun q => absurd (q.symm.trans c6) (by decide)); have n4 : ¬ (v2 : Int32).toInt = 4 := (fun q => absurd (q.symm.trans c6) (by decide)); have n5 : ¬ (v2 : Int32).toInt = 5 := (fun q => absurd (q.symm.trans c6) (by decide)); try simp only [if_neg n0, if_neg n1, if_neg n2, if_neg n3, if_neg n4, if_neg n5, if_pos c6]
      have h20 := h5.2.2.2.2.2.2.1 c6
      exact B_X8_ofShade_r44_92 Ln I A v1 v2 h20
    · try simp only [if_neg c0, if_neg c1, if_neg c2, if_neg c3, if_neg c4, if_neg c5, if_neg c6]
      exact B_X8_ofShade_r44_99 Ln I A v1 v2 
  · try simp only [if_neg q4]
    exact B_X8_ofShade_r44_8 Ln I A v1 v2 
def V_X8_law_r44 (Ln : Nat) (I A : Nat → Nat → Int32) (v1 : Int32) : Int32 := if (V_X8_in Ln I A (Int32.toInt64 v1) 0 2) ≠ 0 then (if (I 44 4) ≠ 0 then (I 44 10) else (-3)) else (-2)
def SI_X8_law_r44 (Ln : Nat) (I A : Nat → Nat → Int32) (v1 : Int32) : Nat → Nat → Int32 := if (V_X8_in Ln I A (Int32.toInt64 v1) 0 2) ≠ 0 then (if (I 44 4) ≠ 0 then (zp I 44 10 v1) else I) else I
set_option maxRecDepth 100000 in
theorem M_X8_law_r44 (Ln : Nat) (I A : Nat → Nat → Int32) (v1 : Int32) : zEv 113 0 0 0 [some (.ref 44), some (.int v1), none] [] (zGs Ln I A) (some (.int (V_X8_law_r44 Ln I A v1)), zGs Ln (SI_X8_law_r44 Ln I A v1) (A)) := by
  unfold V_X8_law_r44 SI_X8_law_r44
  refine B_X8_law_r44_0 Ln I A v1  (M_X8_in Ln I A (Int32.toInt64 v1) 0 2 ) rfl ?_
  refine B_X8_law_r44_9_s1 Ln I A v1 (V_X8_in Ln I A (Int32.toInt64 v1) 0 2)  (fun q0 => ?_) (fun q0 => ?_)
  · try simp only [if_pos q0]
    refine B_X8_law_r44_15 Ln I A v1  (fun q1 => ?_) (fun q1 => ?_)
    · try simp only [if_pos q1]
      exact B_X8_law_r44_25 Ln I A v1 
    · try simp only [if_neg q1]
      exact B_X8_law_r44_22 Ln I A v1 
  · try simp only [if_neg q0]
    exact B_X8_law_r44_12 Ln I A v1 
def V_X8_loan_r44 (Ln : Nat) (I A : Nat → Nat → Int32) (v1 : Int32) (v2 : Int32) (v3 : Int32) : Int32 := if (V_X8_noShade_r44 Ln I A v1) ≠ 0 then (-1) else (if (V_X8_noShade_r44 Ln I A v2) ≠ 0 then (-1) else (if v1 ≠ v2 then (if (V_X8_in Ln I A (Int32.toInt64 v3) 1 3) ≠ 0 then (if v3 ≤ (A 49 (v1).toNatClampNeg) then (if (I 44 20) ≠ 6 then (((I 44 20) + 1) - 1) else (-4)) else (-3)) else (-2)) else (-1)))
def SI_X8_loan_r44 (Ln : Nat) (I A : Nat → Nat → Int32) (v1 : Int32) (v2 : Int32) (v3 : Int32) : Nat → Nat → Int32 := if (V_X8_noShade_r44 Ln I A v1) ≠ 0 then I else (if (V_X8_noShade_r44 Ln I A v2) ≠ 0 then I else (if v1 ≠ v2 then (if (V_X8_in Ln I A (Int32.toInt64 v3) 1 3) ≠ 0 then (if v3 ≤ (A 49 (v1).toNatClampNeg) then (if (I 44 20) ≠ 6 then (zp I 44 20 ((I 44 20) + 1)) else I) else I) else I) else I))
def SA_X8_loan_r44 (Ln : Nat) (I A : Nat → Nat → Int32) (v1 : Int32) (v2 : Int32) (v3 : Int32) : Nat → Nat → Int32 := if (V_X8_noShade_r44 Ln I A v1) ≠ 0 then A else (if (V_X8_noShade_r44 Ln I A v2) ≠ 0 then A else (if v1 ≠ v2 then (if (V_X8_in Ln I A (Int32.toInt64 v3) 1 3) ≠ 0 then (if v3 ≤ (A 49 (v1).toNatClampNeg) then (if (I 44 20) ≠ 6 then (SA_X8_lend_r44 Ln I (zw (zw (zw A 54 ((I 44 20).toNatClampNeg) v1) 55 ((I 44 20).toNatClampNeg) v2) 56 ((I 44 20).toNatClampNeg) v3) v1 v2 v3) else A) else A) else A) else A))
def P_X8_loan_r44 (Ln : Nat) (I A : Nat → Nat → Int32) (v1 : Int32) (v2 : Int32) (v3 : Int32) : Prop := ((V_X8_noShade_r44 Ln I A v1) ≠ 0 → True) ∧ (¬ ((V_X8_noShade_r44 Ln I A v1) ≠ 0) → (((V_X8_noShade_r44 Ln I A v2) ≠ 0 → True) ∧ (¬ ((V_X8_noShade_r44 Ln I A v2) ≠ 0) → ((v1 ≠ v2 → (((V_X8_in Ln I A (Int32.toInt64 v3) 1 3) ≠ 0 → ((zin v1 6 = true) ∧ ((v3 ≤ (A 49 (v1).toNatClampNeg) → (((I 44 20) ≠ 6 → ((zin (I 44 20) 6 = true) ∧ (zin (I 44 20) 6 = true) ∧ (zin (I 44 20) 6 = true) ∧ (P_X8_lend_r44 Ln I (zw (zw (zw A 54 ((I 44 20).toNatClampNeg) v1) 55 ((I 44 20).toNatClampNeg) v2) 56 ((I 44 20).toNatClampNeg) v3) v1 v2 v3))) ∧ (¬ ((I 44 20) ≠ 6) → True))) ∧ (¬ (v3 ≤ (A 49 (v1).toNatClampNeg)) → True)))) ∧ (¬ ((V_X8_in Ln I A (Int32.toInt64 v3) 1 3) ≠ 0) → True))) ∧ (¬ (v1 ≠ v2) → True)))))
set_option maxRecDepth 100000 in
theorem M_X8_loan_r44 (Ln : Nat) (I A : Nat → Nat → Int32) (v1 : Int32) (v2 : Int32) (v3 : Int32) (h : P_X8_loan_r44 Ln I A v1 v2 v3) : zEv 115 0 0 0 [some (.ref 44), some (.int v1), some (.int v2), some (.int v3)] [] (zGs Ln I A) (some (.int (V_X8_loan_r44 Ln I A v1 v2 v3)), zGs Ln (SI_X8_loan_r44 Ln I A v1 v2 v3) (SA_X8_loan_r44 Ln I A v1 v2 v3)) := by
  unfold P_X8_loan_r44 at h
  unfold V_X8_loan_r44 SI_X8_loan_r44 SA_X8_loan_r44
  refine B_X8_loan_r44_0 Ln I A v1 v2 v3  (M_X8_noShade_r44 Ln I A v1 ) rfl ?_
  refine B_X8_loan_r44_5_s1 Ln I A v1 v2 v3 (V_X8_noShade_r44 Ln I A v1)  (fun q4 => ?_) (fun q4 => ?_)
  · try simp only [if_pos q4]
    exact B_X8_loan_r44_21 Ln I A v1 v2 v3 
  · try simp only [if_neg q4]
    have h5 := h.2 q4
    refine B_X8_loan_r44_8 Ln I A v1 v2 v3  (M_X8_noShade_r44 Ln I A v2 ) rfl ?_
    refine B_X8_loan_r44_13_s1 Ln I A v1 v2 v3 (V_X8_noShade_r44 Ln I A v2)  (fun q10 => ?_) (fun q10 => ?_)
    · try simp only [if_pos q10]
      exact B_X8_loan_r44_21 Ln I A v1 v2 v3 
    · try simp only [if_neg q10]
      have h11 := h5.2 q10
      refine B_X8_loan_r44_16 Ln I A v1 v2 v3  (fun q14 => ?_) (fun q14 => ?_)
      · try simp only [if_pos q14]
        have h15 := h11.1 q14
        refine B_X8_loan_r44_23 Ln I A v1 v2 v3  (M_X8_in Ln I A (Int32.toInt64 v3) 1 3 ) rfl ?_
        refine B_X8_loan_r44_32_s1 Ln I A v1 v2 v3 (V_X8_in Ln I A (Int32.toInt64 v3) 1 3)  (fun q20 => ?_) (fun q20 => ?_)
        · try simp only [if_pos q20]
          have h21 := h15.1 q20
          obtain ⟨g22_0, r23_⟩ := h21
          refine B_X8_loan_r44_38 Ln I A v1 v2 v3 g22_0 (fun q24 => ?_) (fun q24 => ?_)
          · try simp only [if_pos q24]
            have h25 := r23_.1 q24
            refine B_X8_loan_r44_51 Ln I A v1 v2 v3  (fun q28 => ?_) (fun q28 => ?_)
            · try simp only [if_pos q28]
              have h29 := h25.1 q28
              obtain ⟨g30_0, g30_1, g30_2, g30_3⟩ := h29
              refine B_X8_loan_r44_63 Ln I A v1 v2 v3 g30_0 g30_1 g30_2 (M_X8_lend_r44 Ln I (zw (zw (zw A 54 ((I 44 20).toNatClampNeg) v1) 55 ((I 44 20).toNatClampNeg) v2) 56 ((I 44 20).toNatClampNeg) v3) v1 v2 v3 g30_3) rfl ?_
              exact B_X8_loan_r44_100 Ln I (SA_X8_lend_r44 Ln I (zw (zw (zw A 54 ((I 44 20).toNatClampNeg) v1) 55 ((I 44 20).toNatClampNeg) v2) 56 ((I 44 20).toNatClampNeg) v3) v1 v2 v3) v1 v2 v3 
            · try simp only [if_neg q28]
              exact B_X8_loan_r44_60 Ln I A v1 v2 v3 
          · try simp only [if_neg q24]
            exact B_X8_loan_r44_48 Ln I A v1 v2 v3 
        · try simp only [if_neg q20]
          exact B_X8_loan_r44_35 Ln I A v1 v2 v3 
      · try simp only [if_neg q14]
        exact B_X8_loan_r44_21 Ln I A v1 v2 v3 
def LA_X8_undo_r44_19 : Nat → (Ln : Nat) → (I A : Nat → Nat → Int32) → Int32 → Int32 → Int32 × (Nat → Nat → Int32) × (Nat → Nat → Int32)
  | 0, Ln, I, A, v1, v2 => (0, I, A)
  | m + 1, Ln, I, A, v1, v2 => if v1 ≤ v2 then (I 44 20, I, A) else (LA_X8_undo_r44_19 m Ln (zp I 44 20 ((I 44 20) - 1)) (SA_X8_lend_r44 Ln (zp I 44 20 ((I 44 20) - 1)) A (A 55 ((I 44 20) - 1).toNatClampNeg) (A 54 ((I 44 20) - 1).toNatClampNeg) (A 56 ((I 44 20) - 1).toNatClampNeg)) v1 (v2 + 1))
def PLA_X8_undo_r44_19 : Nat → (Ln : Nat) → (I A : Nat → Nat → Int32) → Int32 → Int32 → Prop
  | 0, Ln, I, A, v1, v2 => False
  | m + 1, Ln, I, A, v1, v2 => (v1 ≤ v2 → True) ∧ (¬ (v1 ≤ v2) → ((zin ((I 44 20) - 1) 6 = true) ∧ (zin ((I 44 20) - 1) 6 = true) ∧ (zin ((I 44 20) - 1) 6 = true) ∧ (P_X8_lend_r44 Ln (zp I 44 20 ((I 44 20) - 1)) A (A 55 ((I 44 20) - 1).toNatClampNeg) (A 54 ((I 44 20) - 1).toNatClampNeg) (A 56 ((I 44 20) - 1).toNatClampNeg)) ∧ (PLA_X8_undo_r44_19 m Ln (zp I 44 20 ((I 44 20) - 1)) (SA_X8_lend_r44 Ln (zp I 44 20 ((I 44 20) - 1)) A (A 55 ((I 44 20) - 1).toNatClampNeg) (A 54 ((I 44 20) - 1).toNatClampNeg) (A 56 ((I 44 20) - 1).toNatClampNeg)) v1 (v2 + 1))))
set_option maxRecDepth 100000 in
theorem MLA_X8_undo_r44_19 (m Ln : Nat) : ∀ (I A : Nat → Nat → Int32) (v1 : Int32) (v2 : Int32), PLA_X8_undo_r44_19 m Ln I A v1 v2 → zEv 116 19 0 0 [some (.ref 44), some (.int v1), some (.int v2)] [] (zGs Ln I A) (some (.int (LA_X8_undo_r44_19 m Ln I A v1 v2).1), zGs Ln (LA_X8_undo_r44_19 m Ln I A v1 v2).2.1 (LA_X8_undo_r44_19 m Ln I A v1 v2).2.2) := by
  induction m with
  | zero => intro I A v1 v2 h; exact h.elim
  | succ m ih =>
    intro I A v1 v2 h
    simp only [PLA_X8_undo_r44_19] at h
    simp only [LA_X8_undo_r44_19]
    refine B_X8_undo_r44_19 Ln I A v1 v2  (fun q2 => ?_) (fun q2 => ?_)
    · try simp only [if_pos q2]
      exact B_X8_undo_r44_71 Ln I A v1 v2 
    · try simp only [if_neg q2]
      have h3 := h.2 q2
      obtain ⟨g4_0, g4_1, g4_2, g4_3, r5_⟩ := h3
      refine B_X8_undo_r44_24 Ln I A v1 v2 g4_0 g4_1 g4_2 (M_X8_lend_r44 Ln (zp I 44 20 ((I 44 20) - 1)) A (A 55 ((I 44 20) - 1).toNatClampNeg) (A 54 ((I 44 20) - 1).toNatClampNeg) (A 56 ((I 44 20) - 1).toNatClampNeg) g4_3) rfl ?_
      refine B_X8_undo_r44_65 Ln (zp I 44 20 ((I 44 20) - 1)) (SA_X8_lend_r44 Ln (zp I 44 20 ((I 44 20) - 1)) A (A 55 ((I 44 20) - 1).toNatClampNeg) (A 54 ((I 44 20) - 1).toNatClampNeg) (A 56 ((I 44 20) - 1).toNatClampNeg)) v1 v2  ?_
      exact ih (zp I 44 20 ((I 44 20) - 1)) (SA_X8_lend_r44 Ln (zp I 44 20 ((I 44 20) - 1)) A (A 55 ((I 44 20) - 1).toNatClampNeg) (A 54 ((I 44 20) - 1).toNatClampNeg) (A 56 ((I 44 20) - 1).toNatClampNeg)) v1 (v2 + 1) r5_
def V_X8_undo_r44 (Ln : Nat) (I A : Nat → Nat → Int32) (v1 : Int32) : Int32 := if (V_X8_in Ln I A (Int32.toInt64 v1) 0 (Int32.toInt64 (I 44 20))) ≠ 0 then ((LA_X8_undo_r44_19 1000 Ln I A v1 0).1) else (-2)
def SI_X8_undo_r44 (Ln : Nat) (I A : Nat → Nat → Int32) (v1 : Int32) : Nat → Nat → Int32 := if (V_X8_in Ln I A (Int32.toInt64 v1) 0 (Int32.toInt64 (I 44 20))) ≠ 0 then ((LA_X8_undo_r44_19 1000 Ln I A v1 0).2.1) else I
def SA_X8_undo_r44 (Ln : Nat) (I A : Nat → Nat → Int32) (v1 : Int32) : Nat → Nat → Int32 := if (V_X8_in Ln I A (Int32.toInt64 v1) 0 (Int32.toInt64 (I 44 20))) ≠ 0 then ((LA_X8_undo_r44_19 1000 Ln I A v1 0).2.2) else A
def P_X8_undo_r44 (Ln : Nat) (I A : Nat → Nat → Int32) (v1 : Int32) : Prop := ((V_X8_in Ln I A (Int32.toInt64 v1) 0 (Int32.toInt64 (I 44 20))) ≠ 0 → (PLA_X8_undo_r44_19 1000 Ln I A v1 0)) ∧ (¬ ((V_X8_in Ln I A (Int32.toInt64 v1) 0 (Int32.toInt64 (I 44 20))) ≠ 0) → True)
set_option maxRecDepth 100000 in
theorem M_X8_undo_r44 (Ln : Nat) (I A : Nat → Nat → Int32) (v1 : Int32) (h : P_X8_undo_r44 Ln I A v1) : zEv 116 0 0 0 [some (.ref 44), some (.int v1), none] [] (zGs Ln I A) (some (.int (V_X8_undo_r44 Ln I A v1)), zGs Ln (SI_X8_undo_r44 Ln I A v1) (SA_X8_undo_r44 Ln I A v1)) := by
  unfold P_X8_undo_r44 at h
  unfold V_X8_undo_r44 SI_X8_undo_r44 SA_X8_undo_r44
  refine B_X8_undo_r44_0 Ln I A v1  (M_X8_in Ln I A (Int32.toInt64 v1) 0 (Int32.toInt64 (I 44 20)) ) rfl ?_
  refine B_X8_undo_r44_11_s1 Ln I A v1 (V_X8_in Ln I A (Int32.toInt64 v1) 0 (Int32.toInt64 (I 44 20)))  (fun q4 => ?_) (fun q4 => ?_)
  · try simp only [if_pos q4]
    have h5 := h.1 q4
    refine B_X8_undo_r44_17 Ln I A v1  ?_
    exact MLA_X8_undo_r44_19 1000 Ln I A v1 0 h5
  · try simp only [if_neg q4]
    exact B_X8_undo_r44_14 Ln I A v1 
def LA_X8_firstOf_r44_5 : Nat → (Ln : Nat) → (I A : Nat → Nat → Int32) → Int32 → Int32 → Int32 → Int32
  | 0, Ln, I, A, v1, v2, v3 => 0
  | m + 1, Ln, I, A, v1, v2, v3 => if (I 44 4) ≤ v3 then v2 else (if (V_X8_isIn Ln I A v1 v3) = 0 then (LA_X8_firstOf_r44_5 m Ln I A v1 v2 (v3 + 1)) else (if v2 < 0 then (LA_X8_firstOf_r44_5 m Ln I A v1 v3 (v3 + 1)) else (if (V_X8_isAhead_r44 Ln I A v3 v2) = 0 then (LA_X8_firstOf_r44_5 m Ln I A v1 v2 (v3 + 1)) else (LA_X8_firstOf_r44_5 m Ln I A v1 v3 (v3 + 1)))))
def PLA_X8_firstOf_r44_5 : Nat → (Ln : Nat) → (I A : Nat → Nat → Int32) → Int32 → Int32 → Int32 → Prop
  | 0, Ln, I, A, v1, v2, v3 => False
  | m + 1, Ln, I, A, v1, v2, v3 => ((I 44 4) ≤ v3 → True) ∧ (¬ ((I 44 4) ≤ v3) → (((V_X8_isIn Ln I A v1 v3) = 0 → (PLA_X8_firstOf_r44_5 m Ln I A v1 v2 (v3 + 1))) ∧ (¬ ((V_X8_isIn Ln I A v1 v3) = 0) → ((v2 < 0 → (PLA_X8_firstOf_r44_5 m Ln I A v1 v3 (v3 + 1))) ∧ (¬ (v2 < 0) → ((P_X8_isAhead_r44 Ln I A v3 v2) ∧ (((V_X8_isAhead_r44 Ln I A v3 v2) = 0 → (PLA_X8_firstOf_r44_5 m Ln I A v1 v2 (v3 + 1))) ∧ (¬ ((V_X8_isAhead_r44 Ln I A v3 v2) = 0) → (PLA_X8_firstOf_r44_5 m Ln I A v1 v3 (v3 + 1))))))))))
set_option maxRecDepth 100000 in
theorem MLA_X8_firstOf_r44_5 (m Ln : Nat) : ∀ (I A : Nat → Nat → Int32) (v1 : Int32) (v2 : Int32) (v3 : Int32), PLA_X8_firstOf_r44_5 m Ln I A v1 v2 v3 → zEv 120 5 0 0 [some (.ref 44), some (.int v1), some (.int v2), some (.int v3)] [] (zGs Ln I A) (some (.int (LA_X8_firstOf_r44_5 m Ln I A v1 v2 v3)), zGs Ln I A) := by
  induction m with
  | zero => intro I A v1 v2 v3 h; exact h.elim
  | succ m ih =>
    intro I A v1 v2 v3 h
    simp only [PLA_X8_firstOf_r44_5] at h
    simp only [LA_X8_firstOf_r44_5]
    refine B_X8_firstOf_r44_5 Ln I A v1 v2 v3  (fun q2 => ?_) (fun q2 => ?_)
    · try simp only [if_pos q2]
      exact B_X8_firstOf_r44_46 Ln I A v1 v2 v3 
    · try simp only [if_neg q2]
      have h3 := h.2 q2
      refine B_X8_firstOf_r44_13 Ln I A v1 v2 v3  (M_X8_isIn Ln I A v1 v3 ) rfl ?_
      refine B_X8_firstOf_r44_18_s1 Ln I A v1 v2 v3 (V_X8_isIn Ln I A v1 v3)  (fun q8 => ?_) (fun q8 => ?_)
      · try simp only [if_pos q8]
        have h9 := h3.1 q8
        refine B_X8_firstOf_r44_38 Ln I A v1 v2 v3  ?_
        refine B_X8_firstOf_r44_39_s1 Ln I A v1 v2 v3 v2  ?_
        exact ih I A v1 v2 (v3 + 1) h9
      · try simp only [if_neg q8]
        have h14 := h3.2 q8
        refine B_X8_firstOf_r44_21 Ln I A v1 v2 v3  (fun q17 => ?_) (fun q17 => ?_)
        · try simp only [if_pos q17]
          have h18 := h14.1 q17
          refine B_X8_firstOf_r44_34 Ln I A v1 v2 v3  ?_
          refine B_X8_firstOf_r44_39_s1 Ln I A v1 v2 v3 v3  ?_
          exact ih I A v1 v3 (v3 + 1) h18
        · try simp only [if_neg q17]
          have h23 := h14.2 q17
          obtain ⟨g24_0, r25_⟩ := h23
          refine B_X8_firstOf_r44_25 Ln I A v1 v2 v3  (M_X8_isAhead_r44 Ln I A v3 v2 g24_0) rfl ?_
          refine B_X8_firstOf_r44_31_s1 Ln I A v1 v2 v3 (V_X8_isAhead_r44 Ln I A v3 v2)  (fun q28 => ?_) (fun q28 => ?_)
          · try simp only [if_pos q28]
            have h29 := r25_.1 q28
            refine B_X8_firstOf_r44_38 Ln I A v1 v2 v3  ?_
            refine B_X8_firstOf_r44_39_s1 Ln I A v1 v2 v3 v2  ?_
            exact ih I A v1 v2 (v3 + 1) h29
          · try simp only [if_neg q28]
            have h34 := r25_.2 q28
            refine B_X8_firstOf_r44_34 Ln I A v1 v2 v3  ?_
            refine B_X8_firstOf_r44_39_s1 Ln I A v1 v2 v3 v3  ?_
            exact ih I A v1 v3 (v3 + 1) h34
def V_X8_firstOf_r44 (Ln : Nat) (I A : Nat → Nat → Int32) (v1 : Int32) : Int32 := LA_X8_firstOf_r44_5 1000 Ln I A v1 (-9) 0
def P_X8_firstOf_r44 (Ln : Nat) (I A : Nat → Nat → Int32) (v1 : Int32) : Prop := PLA_X8_firstOf_r44_5 1000 Ln I A v1 (-9) 0
set_option maxRecDepth 100000 in
theorem M_X8_firstOf_r44 (Ln : Nat) (I A : Nat → Nat → Int32) (v1 : Int32) (h : P_X8_firstOf_r44 Ln I A v1) : zEv 120 0 0 0 [some (.ref 44), some (.int v1), none, none] [] (zGs Ln I A) (some (.int (V_X8_firstOf_r44 Ln I A v1)), zGs Ln (I) (A)) := by
  unfold P_X8_firstOf_r44 at h
  unfold V_X8_firstOf_r44
  refine B_X8_firstOf_r44_0 Ln I A v1  ?_
  exact MLA_X8_firstOf_r44_5 1000 Ln I A v1 (-9) 0 h
