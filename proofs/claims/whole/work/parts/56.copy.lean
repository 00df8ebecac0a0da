/-! copies -/
theorem K_copyLoops {Ln : Nat} {k m i j n : Nat} {I A : Nat → Nat → Int32} {Q : Int32 → (Nat → Nat → Int32) → (Nat → Nat → Int32) → Prop} (hk : k < 4) (hm : m < 4) (hi : i + n ≤ 60) (hj : j + n ≤ 60) (hq : ∀ A', (∀ a, a ≠ 67 → a ≠ 68 → A' a = A a) → (∀ q, A' 67 q = if 60 * m + j ≤ q ∧ q < 60 * m + j + n then A 67 (60 * k + i + (q - (60 * m + j))) else A 67 q) → Q (zi n) (zp I 44 0 0) A') : zLoop (L_X8_copy_r44_107 Ln I (zi k) (zi i) (zi m) (zi j) (zi n) Q) (0, A) := by
  refine zLoop.inv (fun x σ => σ.1 = zi x ∧ (∀ a, a ≠ 68 → σ.2 a = A a) ∧ ∀ q, q < x → σ.2 68 q = A 67 (60 * k + i + q)) n ⟨rfl, fun _ _ => rfl, fun s h => by omega⟩ ?_ ?_
  · rintro x ⟨v3, A2⟩ hx ⟨h3, hf, h2⟩ K hk2
    simp only at h3 hf h2
    subst h3
    simp only [L_X8_copy_r44_107]
    rw [zle_n (by omega) (by omega), show (60 : Int32) * zi k + zi i + zi x = zi ((60 * k + i + x : Nat) : Int) from by rw [zq60, zi_mul, zi_add, zi_add]; rfl, zi_nat' (by omega), zi_nat' (by omega)]
    refine ⟨fun c => by omega, fun _ => ⟨zin_n (by omega) (by decide), zin_n (by omega) (by decide), ?_⟩⟩
    rw [zi_succ]
    refine hk2 _ ⟨rfl, fun a ha => (zw_ne ha).trans (hf a ha), fun q hq2 => ?_⟩
    dsimp only
    rw [zw_at, hf 67 (by decide)]
    by_cases e : q = x
    · rw [if_pos e, e]
    · rw [if_neg e]; exact h2 q (by omega)
  · rintro ⟨v3, A1⟩ ⟨h3, hf, h2⟩ K
    simp only at h3 hf h2
    subst h3
    simp only [L_X8_copy_r44_107]
    rw [zle_n (by omega) (by omega)]
    refine ⟨fun _ => ?_, fun c => absurd (Nat.le_refl _) c⟩
    refine zLoop.inv (fun x σ => σ.1 = zi x ∧ (∀ a, a ≠ 67 → σ.2 a = A1 a) ∧ ∀ q, σ.2 67 q = if 60 * m + j ≤ q ∧ q < 60 * m + j + x then A 67 (60 * k + i + (q - (60 * m + j))) else A 67 q) n ⟨rfl, fun _ _ => rfl, fun q => by rw [if_neg (by omega)]; exact congrFun (hf 67 (by decide)) q⟩ ?_ ?_
    · rintro x ⟨v4, A2⟩ hx ⟨h4, hf2, h5⟩ K2 hk2
      simp only at h4 hf2 h5
      subst h4
      simp only [L_X8_copy_r44_144]
      rw [zle_n (by omega) (by omega), show (60 : Int32) * zi m + zi j + zi x = zi ((60 * m + j + x : Nat) : Int) from by rw [zq60, zi_mul, zi_add, zi_add]; rfl, zi_nat' (by omega), zi_nat' (by omega)]
      refine ⟨fun c => by omega, fun _ => ⟨zin_n (by omega) (by decide), zin_n (by omega) (by decide), ?_⟩⟩
      rw [zi_succ]
      refine hk2 _ ⟨rfl, fun a ha => (zw_ne ha).trans (hf2 a ha), fun q => ?_⟩
      dsimp only
      rw [zw_at, hf2 68 (by decide), h2 x hx]
      by_cases e : q = 60 * m + j + x
      · rw [if_pos e, if_pos (by omega), show q - (60 * m + j) = x by omega]
      · rw [if_neg e, h5]
        by_cases e2 : 60 * m + j ≤ q ∧ q < 60 * m + j + x
        · rw [if_pos e2, if_pos (by omega)]
        · rw [if_neg e2, if_neg (by omega)]
    · rintro ⟨v4, A2⟩ ⟨h4, hf2, h5⟩ K2
      simp only at h4 hf2 h5
      subst h4
      simp only [L_X8_copy_r44_144]
      rw [zle_n (by omega) (by omega)]
      refine ⟨fun _ => ?_, fun c => absurd (Nat.le_refl _) c⟩
      unfold W_X8_refused_r44
      exact hq A2 (fun a h6 h7 => (hf2 a h6).trans (hf a h7)) h5
theorem K_copyR {Ln : Nat} {k m l l2 n n2 : Nat} {b b2 : Bool} {I A : Nat → Nat → Int32} {i j c : Int32} {Q : Int32 → (Nat → Nat → Int32) → (Nat → Nat → Int32) → Prop} (hk : k < 4) (hm : m < 4) (hn : n ≤ 60) (hn2 : n2 ≤ 60) (h65 : A 65 k = (if b = true then zi n else zi (-1))) (h65b : A 65 m = (if b2 = true then zi n2 else zi (-1))) (h66 : b = true → A 66 k = zi l) (h66b : b2 = true → A 66 m = zi l2)
    (hnull : ¬ (b = true ∧ b2 = true) → Q ((-10) - 1) (zp I 44 0 1) A) (hcast : b = true ∧ b2 = true → zi l ≠ zi l2 → Q ((-10) - 2) (zp I 44 0 2) A) (hidx : b = true ∧ b2 = true → zi l = zi l2 → ¬ (0 ≤ c.toInt ∧ (0 ≤ i.toInt ∧ i.toInt + c.toInt ≤ n) ∧ 0 ≤ j.toInt ∧ j.toInt + c.toInt ≤ n2) → Q ((-10) - 3) (zp I 44 0 3) A)
    (hgo : b = true ∧ b2 = true → zi l = zi l2 → 0 ≤ c.toInt ∧ (0 ≤ i.toInt ∧ i.toInt + c.toInt ≤ n) ∧ 0 ≤ j.toInt ∧ j.toInt + c.toInt ≤ n2 → zLoop (L_X8_copy_r44_107 Ln I (zi k) i (zi m) j c Q) (0, A)) : W_X8_copy_r44 Ln I A (zi k) i (zi m) j c Q := by
  have hz := zin_n (L := 4) (s := k) hk (by decide)
  have hz2 := zin_n (L := 4) (s := m) hm (by decide)
  unfold W_X8_copy_r44 J_X8_copy_r44_38 J_X8_copy_r44_98 W_X8_failed_r44
  refine K_noSheet_y hk ⟨fun c2 => absurd rfl c2, fun _ => K_noSheet_y hm ⟨fun _ => ⟨hz, ?_⟩, fun c2 => absurd rfl c2⟩⟩
  rw [zi_nat' (by omega), zi_nat' (by omega), h65, h65b]
  have hb : ∀ {b3 : Bool} {n3 : Nat}, n3 ≤ 60 → ((if b3 = true then zi (n3 : Int) else zi (-1)) < 0 ↔ b3 = false) := by
    intro b3 n3 h3
    cases b3 with
    | false => exact ⟨fun _ => rfl, fun _ => (show zi (-1) < 0 by decide)⟩
    | true => rw [if_pos rfl, zq0, zi_lt (by omega) (by omega) (by omega) (by omega)]; exact ⟨fun c2 => by omega, fun c2 => by cases c2⟩
  rw [hb hn, ← Int32.not_lt, hb hn2]
  refine ⟨fun c2 => hnull (by rw [c2]; exact fun q => by cases q.1), fun c2 => ⟨hz2, fun c3 => ⟨hz, hz2, fun c4 => ?_, fun c4 => ?_⟩, fun c3 => hnull (fun q => c3 (by rw [q.2]; decide))⟩⟩
  · have hbb : b = true ∧ b2 = true := ⟨by simpa using c2, by simpa using c3⟩
    rw [h66 hbb.1, h66b hbb.2] at c4
    rw [if_pos hbb.1, if_pos hbb.2]
    refine ⟨hz, K_isBeyond hn (fun c5 => ⟨fun _ => hidx hbb c4 (by omega), fun c6 => absurd (show (1 : Int32) ≠ 0 by decide) c6⟩) (fun c5 c6 c7 => ⟨fun c8 => absurd rfl c8, fun _ => ⟨hz2, K_isBeyond hn2 (fun c9 => ⟨fun c10 => absurd c10 (by decide), fun _ => hidx hbb c4 (by omega)⟩) (fun c9 c10 c11 => ⟨fun _ => hgo hbb c4 ⟨c6, ⟨c5, c7⟩, c9, c11⟩, fun c12 => absurd rfl c12⟩)⟩⟩)⟩
  · have hbb : b = true ∧ b2 = true := ⟨by simpa using c2, by simpa using c3⟩
    rw [h66 hbb.1, h66b hbb.2] at c4
    exact hcast hbb c4
theorem OP_copy_c0_c0 {Ln : Nat} {xs : Nat → Int32} {I A : Nat → Nat → Int32} {v w u : Int32} {Q : Int32 → (Nat → Nat → Int32) → (Nat → Nat → Int32) → Prop} (hv : INV xs I A) (hq : ∀ x I' A', A' 0 = A 0 → (∀ Q2 : Int32 → (Nat → Nat → Int32) → (Nat → Nat → Int32) → Prop, (∀ I2 A2, INV xs I2 A2 → Q2 x I2 A2) → W_X8_copy_r44 Ln I' A' (zi (0 : Nat)) v (zi (0 : Nat)) w u Q2) → Q x I' A') : W_X7_copy_r1_c0_c0 Ln I A v w u Q := by
  obtain ⟨D, E, hv⟩ := hv
  obtain ⟨b, l, n, hs⟩ := hv.sh.at_0.d
  obtain ⟨b2, l2, n2, ht⟩ := hv.sh.at_0.d
  obtain ⟨h1, hl3, h3, h4, h5⟩ := hs
  obtain ⟨t1, tl3, t3, t4, t5⟩ := ht
  unfold W_X7_copy_r1_c0_c0
  refine C_isSheet_0 ⟨fun c => absurd c (by decide), fun _ => C_isSheet_0 ⟨fun _ => ?_, fun c => absurd (show (1 : Int32) ≠ 0 by decide) c⟩⟩
  have hnull : ¬ (b = true ∧ b2 = true) → J_X7_copy_r1_c0_c0_52 Ln I A v w u Q := by
    intro hb
    unfold J_X7_copy_r1_c0_c0_52 W_X7_faulted_r1
    exact hq _ _ _ rfl (fun Q2 h2 => K_copyR (by decide) (by decide) h1 t1 h4 t4 (fun q => (h5 q).2.2.1) (fun q => (t5 q).2.2.1) (fun _ => h2 _ _ ⟨D, E, hv.ft 1⟩) (fun c => absurd c hb) (fun c => absurd c hb) (fun c => absurd c hb))
  have hidx : b = true ∧ b2 = true → zi l = zi l2 → ¬ (0 ≤ u.toInt ∧ (0 ≤ v.toInt ∧ v.toInt + u.toInt ≤ n) ∧ 0 ≤ w.toInt ∧ w.toInt + u.toInt ≤ n2) → J_X7_copy_r1_c0_c0_105 Ln I A v w u Q := by
    intro hb hl hx
    unfold J_X7_copy_r1_c0_c0_105 W_X7_faulted_r1
    exact hq _ _ _ rfl (fun Q2 h2 => K_copyR (by decide) (by decide) h1 t1 h4 t4 (fun q => (h5 q).2.2.1) (fun q => (t5 q).2.2.1) (fun c => absurd hb c) (fun _ c => absurd hl c) (fun _ _ _ => h2 _ _ ⟨D, E, hv.ft 3⟩) (fun _ _ c => absurd c hx))
  have h01 : ∀ {b3 : Bool} {x : Int32}, x = (if b3 = true then 1 else 0) → (x = 0 ↔ ¬ b3 = true) := by
    rintro b3 x rfl
    cases b3 <;> decide
  refine ⟨fun c => hnull (fun q => (h01 h3).mp c q.1), fun c => ⟨fun c2 => ⟨fun c3 => ?_, fun c3 => ?_⟩, fun c2 => hnull (fun q => c2 (fun q2 => (h01 t3).mp q2 q.2))⟩⟩
  · have hbb : b = true ∧ b2 = true := ⟨Decidable.not_not.mp (fun q => c ((h01 h3).mpr q)), Decidable.not_not.mp (fun q => c2 ((h01 t3).mpr q))⟩
    obtain ⟨e1, e2, e3, e4⟩ := h5 hbb.1
    obtain ⟨f1, f2, f3, f4⟩ := t5 hbb.2
    replace c3 : zi l = zi l2 := e1.symm.trans (c3.trans f1)
    refine ⟨fun c4 => hidx hbb c3 (by rw [zlt0] at c4; omega), fun c4 => ?_⟩
    rw [zlt0] at c4
    refine C_holds_3 e2 h1 (by omega) (fun c5 => ⟨fun c6 => absurd c6 (by decide), fun _ => C_holds_3 f2 t1 (by omega) (fun c6 => ⟨fun _ => ?_, fun c7 => absurd (show (1 : Int32) ≠ 0 by decide) c7⟩) (fun c6 => ⟨fun c7 => absurd rfl c7, fun _ => hidx hbb c3 (by omega)⟩)⟩) (fun c5 => ⟨fun _ => hidx hbb c3 (by omega), fun c6 => absurd rfl c6⟩)
    obtain ⟨i, hi, rfl⟩ := zasn (v := v) (n := 61) ⟨c5.1, by omega⟩
    obtain ⟨j, hj, rfl⟩ := zasn (v := w) (n := 61) ⟨c6.1, by omega⟩
    obtain ⟨g, hg, rfl⟩ := zasn (v := u) (n := 61) ⟨by omega, by omega⟩
    rw [zi_toInt (by omega) (by omega), zi_toInt (by omega) (by omega)] at c5 c6
    rw [zi_nat' (by omega), zi_nat' (by omega), zi_nat' (by omega), zlt0, zlt0, zlt0, zi_toInt (by omega) (by omega), zi_toInt (by omega) (by omega), zi_toInt (by omega) (by omega)]
    refine ⟨by omega, by omega, by omega, by omega, by omega, fun A11 hA11 => ?_⟩
    have g11 : ∀ a, a ≠ 4 → A11 a = A a := fun a ha => by rw [hA11]; unfold zcp va_up; rw [if_neg ha]
    have gc : ∀ q, A11 4 q = if j ≤ q ∧ q < j + g then A 4 (i + (q - j)) else A 4 q := fun q => by rw [hA11]; rfl
    unfold W_X7_faultless_r1
    refine hq _ _ _ (g11 0 (by decide)) (fun Q2 h2 => K_copyR (n := n) (n2 := n2) (l := l) (l2 := l2) (b := b) (b2 := b2) (by decide) (by decide) h1 t1 (by rw [g11 65 (by decide)]; exact h4) (by rw [g11 65 (by decide)]; exact t4) (fun _ => by rw [g11 66 (by decide)]; exact e3) (fun _ => by rw [g11 66 (by decide)]; exact f3) (fun q => absurd hbb q) (fun _ q => absurd c3 q) (fun _ _ q => absurd ?_ q) (fun _ _ _ => ?_))
    · rw [zi_toInt (by omega) (by omega), zi_toInt (by omega) (by omega), zi_toInt (by omega) (by omega)]; omega
    · refine K_copyLoops (by decide) (by decide) (by omega) (by omega) (fun A2 k1 k2 => h2 _ _ ⟨D, E, ?_⟩)
      have e67 : ∀ q, A2 67 q = if 60 * 0 + j ≤ q ∧ q < 60 * 0 + j + g then A 67 (60 * 0 + i + (q - (60 * 0 + j))) else A 67 q := fun q => by rw [k2, g11 67 (by decide)]
      refine hv.stf (fun o k hk => (zpJ (f := zkI) rfl hk).trans (zpJ (f := zkI) rfl hk)) (fun a ha => ?_) ⟨rfl, rfl⟩ (by rw [zp_eq, zp_ne (by decide), zp_eq]) (hv.sh.set_0 (fun o j ho ho2 => by rw [zp_ne (by omega), zp_ne (by omega)]) (fun q hq2 => by rw [k1 65 (by decide) (by decide), g11 65 (by decide)]) (fun q hq2 => by rw [k1 66 (by decide) (by decide), g11 66 (by decide)]) (fun a ha ha2 => by rw [k1 a (by omega) (by omega), g11 a ha2]) (fun q hq2 => by rw [e67, if_neg (by omega)]) ?_)
      · rw [k1 a (by rintro rfl; cases ha) (by rintro rfl; cases ha), g11 a (by rintro rfl; cases ha)]
      · refine Or.inr ⟨n2, l2, t1, tl3, ?_, f1, f2, ?_, ?_, fun q hq2 => ?_⟩
        · show I 3 1 = 1
          rw [t3, if_pos hbb.2]
        · rw [k1 65 (by decide) (by decide), g11 65 (by decide), t4, if_pos hbb.2]
        · rw [k1 66 (by decide) (by decide), g11 66 (by decide), f3]
        · rw [k1 4 (by decide) (by decide), gc, e67]
          by_cases e : j ≤ q ∧ q < j + g
          · rw [if_pos e, if_pos (by omega), e4 _ (by omega)]; congr 1; omega
          · rw [if_neg e, if_neg (by omega)]; exact f4 q hq2
  · have hbb : b = true ∧ b2 = true := ⟨Decidable.not_not.mp (fun q => c ((h01 h3).mpr q)), Decidable.not_not.mp (fun q => c2 ((h01 t3).mpr q))⟩
    replace c3 : ¬ zi l = zi l2 := fun q => c3 ((h5 hbb.1).1.trans (q.trans (t5 hbb.2).1.symm))
    unfold W_X7_faulted_r1
    exact hq _ _ _ rfl (fun Q2 h2 => K_copyR (by decide) (by decide) h1 t1 h4 t4 (fun q => (h5 q).2.2.1) (fun q => (t5 q).2.2.1) (fun c => absurd hbb c) (fun _ _ => h2 _ _ ⟨D, E, hv.ft 2⟩) (fun _ c => absurd c c3) (fun _ c => absurd c c3))
theorem OP_copy_c0_c1 {Ln : Nat} {xs : Nat → Int32} {I A : Nat → Nat → Int32} {v w u : Int32} {Q : Int32 → (Nat → Nat → Int32) → (Nat → Nat → Int32) → Prop} (hv : INV xs I A) (hq : ∀ x I' A', A' 0 = A 0 → (∀ Q2 : Int32 → (Nat → Nat → Int32) → (Nat → Nat → Int32) → Prop, (∀ I2 A2, INV xs I2 A2 → Q2 x I2 A2) → W_X8_copy_r44 Ln I' A' (zi (0 : Nat)) v (zi (1 : Nat)) w u Q2) → Q x I' A') : W_X7_copy_r1_c0_c1 Ln I A v w u Q := by
  obtain ⟨D, E, hv⟩ := hv
  obtain ⟨b, l, n, hs⟩ := hv.sh.at_0.d
  obtain ⟨b2, l2, n2, ht⟩ := hv.sh.at_1.d
  obtain ⟨h1, hl3, h3, h4, h5⟩ := hs
  obtain ⟨t1, tl3, t3, t4, t5⟩ := ht
  unfold W_X7_copy_r1_c0_c1
  refine C_isSheet_0 ⟨fun c => absurd c (by decide), fun _ => C_isSheet_1 ⟨fun _ => ?_, fun c => absurd (show (1 : Int32) ≠ 0 by decide) c⟩⟩
  have hnull : ¬ (b = true ∧ b2 = true) → J_X7_copy_r1_c0_c1_52 Ln I A v w u Q := by
    intro hb
    unfold J_X7_copy_r1_c0_c1_52 W_X7_faulted_r1
    exact hq _ _ _ rfl (fun Q2 h2 => K_copyR (by decide) (by decide) h1 t1 h4 t4 (fun q => (h5 q).2.2.1) (fun q => (t5 q).2.2.1) (fun _ => h2 _ _ ⟨D, E, hv.ft 1⟩) (fun c => absurd c hb) (fun c => absurd c hb) (fun c => absurd c hb))
  have hidx : b = true ∧ b2 = true → zi l = zi l2 → ¬ (0 ≤ u.toInt ∧ (0 ≤ v.toInt ∧ v.toInt + u.toInt ≤ n) ∧ 0 ≤ w.toInt ∧ w.toInt + u.toInt ≤ n2) → J_X7_copy_r1_c0_c1_105 Ln I A v w u Q := by
    intro hb hl hx
    unfold J_X7_copy_r1_c0_c1_105 W_X7_faulted_r1
    exact hq _ _ _ rfl (fun Q2 h2 => K_copyR (by decide) (by decide) h1 t1 h4 t4 (fun q => (h5 q).2.2.1) (fun q => (t5 q).2.2.1) (fun c => absurd hb c) (fun _ c => absurd hl c) (fun _ _ _ => h2 _ _ ⟨D, E, hv.ft 3⟩) (fun _ _ c => absurd c hx))
  have h01 : ∀ {b3 : Bool} {x : Int32}, x = (if b3 = true then 1 else 0) → (x = 0 ↔ ¬ b3 = true) := by
    rintro b3 x rfl
    cases b3 <;> decide
  refine ⟨fun c => hnull (fun q => (h01 h3).mp c q.1), fun c => ⟨fun c2 => ⟨fun c3 => ?_, fun c3 => ?_⟩, fun c2 => hnull (fun q => c2 (fun q2 => (h01 t3).mp q2 q.2))⟩⟩
  · have hbb : b = true ∧ b2 = true := ⟨Decidable.not_not.mp (fun q => c ((h01 h3).mpr q)), Decidable.not_not.mp (fun q => c2 ((h01 t3).mpr q))⟩
    obtain ⟨e1, e2, e3, e4⟩ := h5 hbb.1
    obtain ⟨f1, f2, f3, f4⟩ := t5 hbb.2
    replace c3 : zi l = zi l2 := e1.symm.trans (c3.trans f1)
    refine ⟨fun c4 => hidx hbb c3 (by rw [zlt0] at c4; omega), fun c4 => ?_⟩
    rw [zlt0] at c4
    refine C_holds_3 e2 h1 (by omega) (fun c5 => ⟨fun c6 => absurd c6 (by decide), fun _ => C_holds_5 f2 t1 (by omega) (fun c6 => ⟨fun _ => ?_, fun c7 => absurd (show (1 : Int32) ≠ 0 by decide) c7⟩) (fun c6 => ⟨fun c7 => absurd rfl c7, fun _ => hidx hbb c3 (by omega)⟩)⟩) (fun c5 => ⟨fun _ => hidx hbb c3 (by omega), fun c6 => absurd rfl c6⟩)
    obtain ⟨i, hi, rfl⟩ := zasn (v := v) (n := 61) ⟨c5.1, by omega⟩
    obtain ⟨j, hj, rfl⟩ := zasn (v := w) (n := 61) ⟨c6.1, by omega⟩
    obtain ⟨g, hg, rfl⟩ := zasn (v := u) (n := 61) ⟨by omega, by omega⟩
    rw [zi_toInt (by omega) (by omega), zi_toInt (by omega) (by omega)] at c5 c6
    rw [zi_nat' (by omega), zi_nat' (by omega), zi_nat' (by omega), zlt0, zlt0, zlt0, zi_toInt (by omega) (by omega), zi_toInt (by omega) (by omega), zi_toInt (by omega) (by omega)]
    refine ⟨by omega, by omega, by omega, by omega, by omega, fun A11 hA11 => ?_⟩
    have g11 : ∀ a, a ≠ 6 → A11 a = A a := fun a ha => by rw [hA11]; unfold zcp va_up; rw [if_neg ha]
    have gc : ∀ q, A11 6 q = if j ≤ q ∧ q < j + g then A 4 (i + (q - j)) else A 6 q := fun q => by rw [hA11]; rfl
    unfold W_X7_faultless_r1
    refine hq _ _ _ (g11 0 (by decide)) (fun Q2 h2 => K_copyR (n := n) (n2 := n2) (l := l) (l2 := l2) (b := b) (b2 := b2) (by decide) (by decide) h1 t1 (by rw [g11 65 (by decide)]; exact h4) (by rw [g11 65 (by decide)]; exact t4) (fun _ => by rw [g11 66 (by decide)]; exact e3) (fun _ => by rw [g11 66 (by decide)]; exact f3) (fun q => absurd hbb q) (fun _ q => absurd c3 q) (fun _ _ q => absurd ?_ q) (fun _ _ _ => ?_))
    · rw [zi_toInt (by omega) (by omega), zi_toInt (by omega) (by omega), zi_toInt (by omega) (by omega)]; omega
    · refine K_copyLoops (by decide) (by decide) (by omega) (by omega) (fun A2 k1 k2 => h2 _ _ ⟨D, E, ?_⟩)
      have e67 : ∀ q, A2 67 q = if 60 * 1 + j ≤ q ∧ q < 60 * 1 + j + g then A 67 (60 * 0 + i + (q - (60 * 1 + j))) else A 67 q := fun q => by rw [k2, g11 67 (by decide)]
      refine hv.stf (fun o k hk => (zpJ (f := zkI) rfl hk).trans (zpJ (f := zkI) rfl hk)) (fun a ha => ?_) ⟨rfl, rfl⟩ (by rw [zp_eq, zp_ne (by decide), zp_eq]) (hv.sh.set_1 (fun o j ho ho2 => by rw [zp_ne (by omega), zp_ne (by omega)]) (fun q hq2 => by rw [k1 65 (by decide) (by decide), g11 65 (by decide)]) (fun q hq2 => by rw [k1 66 (by decide) (by decide), g11 66 (by decide)]) (fun a ha ha2 => by rw [k1 a (by omega) (by omega), g11 a ha2]) (fun q hq2 => by rw [e67, if_neg (by omega)]) ?_)
      · rw [k1 a (by rintro rfl; cases ha) (by rintro rfl; cases ha), g11 a (by rintro rfl; cases ha)]
      · refine Or.inr ⟨n2, l2, t1, tl3, ?_, f1, f2, ?_, ?_, fun q hq2 => ?_⟩
        · show I 5 1 = 1
          rw [t3, if_pos hbb.2]
        · rw [k1 65 (by decide) (by decide), g11 65 (by decide), t4, if_pos hbb.2]
        · rw [k1 66 (by decide) (by decide), g11 66 (by decide), f3]
        · rw [k1 6 (by decide) (by decide), gc, e67]
          by_cases e : j ≤ q ∧ q < j + g
          · rw [if_pos e, if_pos (by omega), e4 _ (by omega)]; congr 1; omega
          · rw [if_neg e, if_neg (by omega)]; exact f4 q hq2
  · have hbb : b = true ∧ b2 = true := ⟨Decidable.not_not.mp (fun q => c ((h01 h3).mpr q)), Decidable.not_not.mp (fun q => c2 ((h01 t3).mpr q))⟩
    replace c3 : ¬ zi l = zi l2 := fun q => c3 ((h5 hbb.1).1.trans (q.trans (t5 hbb.2).1.symm))
    unfold W_X7_faulted_r1
    exact hq _ _ _ rfl (fun Q2 h2 => K_copyR (by decide) (by decide) h1 t1 h4 t4 (fun q => (h5 q).2.2.1) (fun q => (t5 q).2.2.1) (fun c => absurd hbb c) (fun _ _ => h2 _ _ ⟨D, E, hv.ft 2⟩) (fun _ c => absurd c c3) (fun _ c => absurd c c3))
theorem OP_copy_c0_c2 {Ln : Nat} {xs : Nat → Int32} {I A : Nat → Nat → Int32} {v w u : Int32} {Q : Int32 → (Nat → Nat → Int32) → (Nat → Nat → Int32) → Prop} (hv : INV xs I A) (hq : ∀ x I' A', A' 0 = A 0 → (∀ Q2 : Int32 → (Nat → Nat → Int32) → (Nat → Nat → Int32) → Prop, (∀ I2 A2, INV xs I2 A2 → Q2 x I2 A2) → W_X8_copy_r44 Ln I' A' (zi (0 : Nat)) v (zi (2 : Nat)) w u Q2) → Q x I' A') : W_X7_copy_r1_c0_c2 Ln I A v w u Q := by
  obtain ⟨D, E, hv⟩ := hv
  obtain ⟨b, l, n, hs⟩ := hv.sh.at_0.d
  obtain ⟨b2, l2, n2, ht⟩ := hv.sh.at_2.d
  obtain ⟨h1, hl3, h3, h4, h5⟩ := hs
  obtain ⟨t1, tl3, t3, t4, t5⟩ := ht
  unfold W_X7_copy_r1_c0_c2
  refine C_isSheet_0 ⟨fun c => absurd c (by decide), fun _ => C_isSheet_2 ⟨fun _ => ?_, fun c => absurd (show (1 : Int32) ≠ 0 by decide) c⟩⟩
  have hnull : ¬ (b = true ∧ b2 = true) → J_X7_copy_r1_c0_c2_52 Ln I A v w u Q := by
    intro hb
    unfold J_X7_copy_r1_c0_c2_52 W_X7_faulted_r1
    exact hq _ _ _ rfl (fun Q2 h2 => K_copyR (by decide) (by decide) h1 t1 h4 t4 (fun q => (h5 q).2.2.1) (fun q => (t5 q).2.2.1) (fun _ => h2 _ _ ⟨D, E, hv.ft 1⟩) (fun c => absurd c hb) (fun c => absurd c hb) (fun c => absurd c hb))
  have hidx : b = true ∧ b2 = true → zi l = zi l2 → ¬ (0 ≤ u.toInt ∧ (0 ≤ v.toInt ∧ v.toInt + u.toInt ≤ n) ∧ 0 ≤ w.toInt ∧ w.toInt + u.toInt ≤ n2) → J_X7_copy_r1_c0_c2_105 Ln I A v w u Q := by
    intro hb hl hx
    unfold J_X7_copy_r1_c0_c2_105 W_X7_faulted_r1
    exact hq _ _ _ rfl (fun Q2 h2 => K_copyR (by decide) (by decide) h1 t1 h4 t4 (fun q => (h5 q).2.2.1) (fun q => (t5 q).2.2.1) (fun c => absurd hb c) (fun _ c => absurd hl c) (fun _ _ _ => h2 _ _ ⟨D, E, hv.ft 3⟩) (fun _ _ c => absurd c hx))
  have h01 : ∀ {b3 : Bool} {x : Int32}, x = (if b3 = true then 1 else 0) → (x = 0 ↔ ¬ b3 = true) := by
    rintro b3 x rfl
    cases b3 <;> decide
  refine ⟨fun c => hnull (fun q => (h01 h3).mp c q.1), fun c => ⟨fun c2 => ⟨fun c3 => ?_, fun c3 => ?_⟩, fun c2 => hnull (fun q => c2 (fun q2 => (h01 t3).mp q2 q.2))⟩⟩
  · have hbb : b = true ∧ b2 = true := ⟨Decidable.not_not.mp (fun q => c ((h01 h3).mpr q)), Decidable.not_not.mp (fun q => c2 ((h01 t3).mpr q))⟩
    obtain ⟨e1, e2, e3, e4⟩ := h5 hbb.1
    obtain ⟨f1, f2, f3, f4⟩ := t5 hbb.2
    replace c3 : zi l = zi l2 := e1.symm.trans (c3.trans f1)
    refine ⟨fun c4 => hidx hbb c3 (by rw [zlt0] at c4; omega), fun c4 => ?_⟩
    rw [zlt0] at c4
    refine C_holds_3 e2 h1 (by omega) (fun c5 => ⟨fun c6 => absurd c6 (by decide), fun _ => C_holds_7 f2 t1 (by omega) (fun c6 => ⟨fun _ => ?_, fun c7 => absurd (show (1 : Int32) ≠ 0 by decide) c7⟩) (fun c6 => ⟨fun c7 => absurd rfl c7, fun _ => hidx hbb c3 (by omega)⟩)⟩) (fun c5 => ⟨fun _ => hidx hbb c3 (by omega), fun c6 => absurd rfl c6⟩)
    obtain ⟨i, hi, rfl⟩ := zasn (v := v) (n := 61) ⟨c5.1, by omega⟩
    obtain ⟨j, hj, rfl⟩ := zasn (v := w) (n := 61) ⟨c6.1, by omega⟩
    obtain ⟨g, hg, rfl⟩ := zasn (v := u) (n := 61) ⟨by omega, by omega⟩
    rw [zi_toInt (by omega) (by omega), zi_toInt (by omega) (by omega)] at c5 c6
    rw [zi_nat' (by omega), zi_nat' (by omega), zi_nat' (by omega), zlt0, zlt0, zlt0, zi_toInt (by omega) (by omega), zi_toInt (by omega) (by omega), zi_toInt (by omega) (by omega)]
    refine ⟨by omega, by omega, by omega, by omega, by omega, fun A11 hA11 => ?_⟩
    have g11 : ∀ a, a ≠ 8 → A11 a = A a := fun a ha => by rw [hA11]; unfold zcp va_up; rw [if_neg ha]
    have gc : ∀ q, A11 8 q = if j ≤ q ∧ q < j + g then A 4 (i + (q - j)) else A 8 q := fun q => by rw [hA11]; rfl
    unfold W_X7_faultless_r1
    refine hq _ _ _ (g11 0 (by decide)) (fun Q2 h2 => K_copyR (n := n) (n2 := n2) (l := l) (l2 := l2) (b := b) (b2 := b2) (by decide) (by decide) h1 t1 (by rw [g11 65 (by decide)]; exact h4) (by rw [g11 65 (by decide)]; exact t4) (fun _ => by rw [g11 66 (by decide)]; exact e3) (fun _ => by rw [g11 66 (by decide)]; exact f3) (fun q => absurd hbb q) (fun _ q => absurd c3 q) (fun _ _ q => absurd ?_ q) (fun _ _ _ => ?_))
    · rw [zi_toInt (by omega) (by omega), zi_toInt (by omega) (by omega), zi_toInt (by omega) (by omega)]; omega
    · refine K_copyLoops (by decide) (by decide) (by omega) (by omega) (fun A2 k1 k2 => h2 _ _ ⟨D, E, ?_⟩)
      have e67 : ∀ q, A2 67 q = if 60 * 2 + j ≤ q ∧ q < 60 * 2 + j + g then A 67 (60 * 0 + i + (q - (60 * 2 + j))) else A 67 q := fun q => by rw [k2, g11 67 (by decide)]
      refine hv.stf (fun o k hk => (zpJ (f := zkI) rfl hk).trans (zpJ (f := zkI) rfl hk)) (fun a ha => ?_) ⟨rfl, rfl⟩ (by rw [zp_eq, zp_ne (by decide), zp_eq]) (hv.sh.set_2 (fun o j ho ho2 => by rw [zp_ne (by omega), zp_ne (by omega)]) (fun q hq2 => by rw [k1 65 (by decide) (by decide), g11 65 (by decide)]) (fun q hq2 => by rw [k1 66 (by decide) (by decide), g11 66 (by decide)]) (fun a ha ha2 => by rw [k1 a (by omega) (by omega), g11 a ha2]) (fun q hq2 => by rw [e67, if_neg (by omega)]) ?_)
      · rw [k1 a (by rintro rfl; cases ha) (by rintro rfl; cases ha), g11 a (by rintro rfl; cases ha)]
      · refine Or.inr ⟨n2, l2, t1, tl3, ?_, f1, f2, ?_, ?_, fun q hq2 => ?_⟩
        · show I 7 1 = 1
          rw [t3, if_pos hbb.2]
        · rw [k1 65 (by decide) (by decide), g11 65 (by decide), t4, if_pos hbb.2]
        · rw [k1 66 (by decide) (by decide), g11 66 (by decide), f3]
        · rw [k1 8 (by decide) (by decide), gc, e67]
          by_cases e : j ≤ q ∧ q < j + g
          · rw [if_pos e, if_pos (by omega), e4 _ (by omega)]; congr 1; omega
          · rw [if_neg e, if_neg (by omega)]; exact f4 q hq2
  · have hbb : b = true ∧ b2 = true := ⟨Decidable.not_not.mp (fun q => c ((h01 h3).mpr q)), Decidable.not_not.mp (fun q => c2 ((h01 t3).mpr q))⟩
    replace c3 : ¬ zi l = zi l2 := fun q => c3 ((h5 hbb.1).1.trans (q.trans (t5 hbb.2).1.symm))
    unfold W_X7_faulted_r1
    exact hq _ _ _ rfl (fun Q2 h2 => K_copyR (by decide) (by decide) h1 t1 h4 t4 (fun q => (h5 q).2.2.1) (fun q => (t5 q).2.2.1) (fun c => absurd hbb c) (fun _ _ => h2 _ _ ⟨D, E, hv.ft 2⟩) (fun _ c => absurd c c3) (fun _ c => absurd c c3))
theorem OP_copy_c0_c3 {Ln : Nat} {xs : Nat → Int32} {I A : Nat → Nat → Int32} {v w u : Int32} {Q : Int32 → (Nat → Nat → Int32) → (Nat → Nat → Int32) → Prop} (hv : INV xs I A) (hq : ∀ x I' A', A' 0 = A 0 → (∀ Q2 : Int32 → (Nat → Nat → Int32) → (Nat → Nat → Int32) → Prop, (∀ I2 A2, INV xs I2 A2 → Q2 x I2 A2) → W_X8_copy_r44 Ln I' A' (zi (0 : Nat)) v (zi (3 : Nat)) w u Q2) → Q x I' A') : W_X7_copy_r1_c0_c3 Ln I A v w u Q := by
  obtain ⟨D, E, hv⟩ := hv
  obtain ⟨b, l, n, hs⟩ := hv.sh.at_0.d
  obtain ⟨b2, l2, n2, ht⟩ := hv.sh.at_3.d
  obtain ⟨h1, hl3, h3, h4, h5⟩ := hs
  obtain ⟨t1, tl3, t3, t4, t5⟩ := ht
  unfold W_X7_copy_r1_c0_c3
  refine C_isSheet_0 ⟨fun c => absurd c (by decide), fun _ => C_isSheet_3 ⟨fun _ => ?_, fun c => absurd (show (1 : Int32) ≠ 0 by decide) c⟩⟩
  have hnull : ¬ (b = true ∧ b2 = true) → J_X7_copy_r1_c0_c3_52 Ln I A v w u Q := by
    intro hb
    unfold J_X7_copy_r1_c0_c3_52 W_X7_faulted_r1
    exact hq _ _ _ rfl (fun Q2 h2 => K_copyR (by decide) (by decide) h1 t1 h4 t4 (fun q => (h5 q).2.2.1) (fun q => (t5 q).2.2.1) (fun _ => h2 _ _ ⟨D, E, hv.ft 1⟩) (fun c => absurd c hb) (fun c => absurd c hb) (fun c => absurd c hb))
  have hidx : b = true ∧ b2 = true → zi l = zi l2 → ¬ (0 ≤ u.toInt ∧ (0 ≤ v.toInt ∧ v.toInt + u.toInt ≤ n) ∧ 0 ≤ w.toInt ∧ w.toInt + u.toInt ≤ n2) → J_X7_copy_r1_c0_c3_105 Ln I A v w u Q := by
    intro hb hl hx
    unfold J_X7_copy_r1_c0_c3_105 W_X7_faulted_r1
    exact hq _ _ _ rfl (fun Q2 h2 => K_copyR (by decide) (by decide) h1 t1 h4 t4 (fun q => (h5 q).2.2.1) (fun q => (t5 q).2.2.1) (fun c => absurd hb c) (fun _ c => absurd hl c) (fun _ _ _ => h2 _ _ ⟨D, E, hv.ft 3⟩) (fun _ _ c => absurd c hx))
  have h01 : ∀ {b3 : Bool} {x : Int32}, x = (if b3 = true then 1 else 0) → (x = 0 ↔ ¬ b3 = true) := by
    rintro b3 x rfl
    cases b3 <;> decide
  refine ⟨fun c => hnull (fun q => (h01 h3).mp c q.1), fun c => ⟨fun c2 => ⟨fun c3 => ?_, fun c3 => ?_⟩, fun c2 => hnull (fun q => c2 (fun q2 => (h01 t3).mp q2 q.2))⟩⟩
  · have hbb : b = true ∧ b2 = true := ⟨Decidable.not_not.mp (fun q => c ((h01 h3).mpr q)), Decidable.not_not.mp (fun q => c2 ((h01 t3).mpr q))⟩
    obtain ⟨e1, e2, e3, e4⟩ := h5 hbb.1
    obtain ⟨f1, f2, f3, f4⟩ := t5 hbb.2
    replace c3 : zi l = zi l2 := e1.symm.trans (c3.trans f1)
    refine ⟨fun c4 => hidx hbb c3 (by rw [zlt0] at c4; omega), fun c4 => ?_⟩
    rw [zlt0] at c4
    refine C_holds_3 e2 h1 (by omega) (fun c5 => ⟨fun c6 => absurd c6 (by decide), fun _ => C_holds_9 f2 t1 (by omega) (fun c6 => ⟨fun _ => ?_, fun c7 => absurd (show (1 : Int32) ≠ 0 by decide) c7⟩) (fun c6 => ⟨fun c7 => absurd rfl c7, fun _ => hidx hbb c3 (by omega)⟩)⟩) (fun c5 => ⟨fun _ => hidx hbb c3 (by omega), fun c6 => absurd rfl c6⟩)
    obtain ⟨i, hi, rfl⟩ := zasn (v := v) (n := 61) ⟨c5.1, by omega⟩
    obtain ⟨j, hj, rfl⟩ := zasn (v := w) (n := 61) ⟨c6.1, by omega⟩
    obtain ⟨g, hg, rfl⟩ := zasn (v := u) (n := 61) ⟨by omega, by omega⟩
    rw [zi_toInt (by omega) (by omega), zi_toInt (by omega) (by omega)] at c5 c6
    rw [zi_nat' (by omega), zi_nat' (by omega), zi_nat' (by omega), zlt0, zlt0, zlt0, zi_toInt (by omega) (by omega), zi_toInt (by omega) (by omega), zi_toInt (by omega) (by omega)]
    refine ⟨by omega, by omega, by omega, by omega, by omega, fun A11 hA11 => ?_⟩
    have g11 : ∀ a, a ≠ 10 → A11 a = A a := fun a ha => by rw [hA11]; unfold zcp va_up; rw [if_neg ha]
    have gc : ∀ q, A11 10 q = if j ≤ q ∧ q < j + g then A 4 (i + (q - j)) else A 10 q := fun q => by rw [hA11]; rfl
    unfold W_X7_faultless_r1
    refine hq _ _ _ (g11 0 (by decide)) (fun Q2 h2 => K_copyR (n := n) (n2 := n2) (l := l) (l2 := l2) (b := b) (b2 := b2) (by decide) (by decide) h1 t1 (by rw [g11 65 (by decide)]; exact h4) (by rw [g11 65 (by decide)]; exact t4) (fun _ => by rw [g11 66 (by decide)]; exact e3) (fun _ => by rw [g11 66 (by decide)]; exact f3) (fun q => absurd hbb q) (fun _ q => absurd c3 q) (fun _ _ q => absurd ?_ q) (fun _ _ _ => ?_))
    · rw [zi_toInt (by omega) (by omega), zi_toInt (by omega) (by omega), zi_toInt (by omega) (by omega)]; omega
    · refine K_copyLoops (by decide) (by decide) (by omega) (by omega) (fun A2 k1 k2 => h2 _ _ ⟨D, E, ?_⟩)
      have e67 : ∀ q, A2 67 q = if 60 * 3 + j ≤ q ∧ q < 60 * 3 + j + g then A 67 (60 * 0 + i + (q - (60 * 3 + j))) else A 67 q := fun q => by rw [k2, g11 67 (by decide)]
      refine hv.stf (fun o k hk => (zpJ (f := zkI) rfl hk).trans (zpJ (f := zkI) rfl hk)) (fun a ha => ?_) ⟨rfl, rfl⟩ (by rw [zp_eq, zp_ne (by decide), zp_eq]) (hv.sh.set_3 (fun o j ho ho2 => by rw [zp_ne (by omega), zp_ne (by omega)]) (fun q hq2 => by rw [k1 65 (by decide) (by decide), g11 65 (by decide)]) (fun q hq2 => by rw [k1 66 (by decide) (by decide), g11 66 (by decide)]) (fun a ha ha2 => by rw [k1 a (by omega) (by omega), g11 a ha2]) (fun q hq2 => by rw [e67, if_neg (by omega)]) ?_)
      · rw [k1 a (by rintro rfl; cases ha) (by rintro rfl; cases ha), g11 a (by rintro rfl; cases ha)]
      · refine Or.inr ⟨n2, l2, t1, tl3, ?_, f1, f2, ?_, ?_, fun q hq2 => ?_⟩
        · show I 9 1 = 1
          rw [t3, if_pos hbb.2]
        · rw [k1 65 (by decide) (by decide), g11 65 (by decide), t4, if_pos hbb.2]
        · rw [k1 66 (by decide) (by decide), g11 66 (by decide), f3]
        · rw [k1 10 (by decide) (by decide), gc, e67]
          by_cases e : j ≤ q ∧ q < j + g
          · rw [if_pos e, if_pos (by omega), e4 _ (by omega)]; congr 1; omega
          · rw [if_neg e, if_neg (by omega)]; exact f4 q hq2
  · have hbb : b = true ∧ b2 = true := ⟨Decidable.not_not.mp (fun q => c ((h01 h3).mpr q)), Decidable.not_not.mp (fun q => c2 ((h01 t3).mpr q))⟩
    replace c3 : ¬ zi l = zi l2 := fun q => c3 ((h5 hbb.1).1.trans (q.trans (t5 hbb.2).1.symm))
    unfold W_X7_faulted_r1
    exact hq _ _ _ rfl (fun Q2 h2 => K_copyR (by decide) (by decide) h1 t1 h4 t4 (fun q => (h5 q).2.2.1) (fun q => (t5 q).2.2.1) (fun c => absurd hbb c) (fun _ _ => h2 _ _ ⟨D, E, hv.ft 2⟩) (fun _ c => absurd c c3) (fun _ c => absurd c c3))
theorem OP_copy_c1_c0 {Ln : Nat} {xs : Nat → Int32} {I A : Nat → Nat → Int32} {v w u : Int32} {Q : Int32 → (Nat → Nat → Int32) → (Nat → Nat → Int32) → Prop} (hv : INV xs I A) (hq : ∀ x I' A', A' 0 = A 0 → (∀ Q2 : Int32 → (Nat → Nat → Int32) → (Nat → Nat → Int32) → Prop, (∀ I2 A2, INV xs I2 A2 → Q2 x I2 A2) → W_X8_copy_r44 Ln I' A' (zi (1 : Nat)) v (zi (0 : Nat)) w u Q2) → Q x I' A') : W_X7_copy_r1_c1_c0 Ln I A v w u Q := by
  obtain ⟨D, E, hv⟩ := hv
  obtain ⟨b, l, n, hs⟩ := hv.sh.at_1.d
  obtain ⟨b2, l2, n2, ht⟩ := hv.sh.at_0.d
  obtain ⟨h1, hl3, h3, h4, h5⟩ := hs
  obtain ⟨t1, tl3, t3, t4, t5⟩ := ht
  unfold W_X7_copy_r1_c1_c0
  refine C_isSheet_1 ⟨fun c => absurd c (by decide), fun _ => C_isSheet_0 ⟨fun _ => ?_, fun c => absurd (show (1 : Int32) ≠ 0 by decide) c⟩⟩
  have hnull : ¬ (b = true ∧ b2 = true) → J_X7_copy_r1_c1_c0_52 Ln I A v w u Q := by
    intro hb
    unfold J_X7_copy_r1_c1_c0_52 W_X7_faulted_r1
    exact hq _ _ _ rfl (fun Q2 h2 => K_copyR (by decide) (by decide) h1 t1 h4 t4 (fun q => (h5 q).2.2.1) (fun q => (t5 q).2.2.1) (fun _ => h2 _ _ ⟨D, E, hv.ft 1⟩) (fun c => absurd c hb) (fun c => absurd c hb) (fun c => absurd c hb))
  have hidx : b = true ∧ b2 = true → zi l = zi l2 → ¬ (0 ≤ u.toInt ∧ (0 ≤ v.toInt ∧ v.toInt + u.toInt ≤ n) ∧ 0 ≤ w.toInt ∧ w.toInt + u.toInt ≤ n2) → J_X7_copy_r1_c1_c0_105 Ln I A v w u Q := by
    intro hb hl hx
    unfold J_X7_copy_r1_c1_c0_105 W_X7_faulted_r1
    exact hq _ _ _ rfl (fun Q2 h2 => K_copyR (by decide) (by decide) h1 t1 h4 t4 (fun q => (h5 q).2.2.1) (fun q => (t5 q).2.2.1) (fun c => absurd hb c) (fun _ c => absurd hl c) (fun _ _ _ => h2 _ _ ⟨D, E, hv.ft 3⟩) (fun _ _ c => absurd c hx))
  have h01 : ∀ {b3 : Bool} {x : Int32}, x = (if b3 = true then 1 else 0) → (x = 0 ↔ ¬ b3 = true) := by
    rintro b3 x rfl
    cases b3 <;> decide
  refine ⟨fun c => hnull (fun q => (h01 h3).mp c q.1), fun c => ⟨fun c2 => ⟨fun c3 => ?_, fun c3 => ?_⟩, fun c2 => hnull (fun q => c2 (fun q2 => (h01 t3).mp q2 q.2))⟩⟩
  · have hbb : b = true ∧ b2 = true := ⟨Decidable.not_not.mp (fun q => c ((h01 h3).mpr q)), Decidable.not_not.mp (fun q => c2 ((h01 t3).mpr q))⟩
    obtain ⟨e1, e2, e3, e4⟩ := h5 hbb.1
    obtain ⟨f1, f2, f3, f4⟩ := t5 hbb.2
    replace c3 : zi l = zi l2 := e1.symm.trans (c3.trans f1)
    refine ⟨fun c4 => hidx hbb c3 (by rw [zlt0] at c4; omega), fun c4 => ?_⟩
    rw [zlt0] at c4
    refine C_holds_5 e2 h1 (by omega) (fun c5 => ⟨fun c6 => absurd c6 (by decide), fun _ => C_holds_3 f2 t1 (by omega) (fun c6 => ⟨fun _ => ?_, fun c7 => absurd (show (1 : Int32) ≠ 0 by decide) c7⟩) (fun c6 => ⟨fun c7 => absurd rfl c7, fun _ => hidx hbb c3 (by omega)⟩)⟩) (fun c5 => ⟨fun _ => hidx hbb c3 (by omega), fun c6 => absurd rfl c6⟩)
    obtain ⟨i, hi, rfl⟩ := zasn (v := v) (n := 61) ⟨c5.1, by omega⟩
    obtain ⟨j, hj, rfl⟩ := zasn (v := w) (n := 61) ⟨c6.1, by omega⟩
    obtain ⟨g, hg, rfl⟩ := zasn (v := u) (n := 61) ⟨by omega, by omega⟩
    rw [zi_toInt (by omega) (by omega), zi_toInt (by omega) (by omega)] at c5 c6
    rw [zi_nat' (by omega), zi_nat' (by omega), zi_nat' (by omega), zlt0, zlt0, zlt0, zi_toInt (by omega) (by omega), zi_toInt (by omega) (by omega), zi_toInt (by omega) (by omega)]
    refine ⟨by omega, by omega, by omega, by omega, by omega, fun A11 hA11 => ?_⟩
    have g11 : ∀ a, a ≠ 4 → A11 a = A a := fun a ha => by rw [hA11]; unfold zcp va_up; rw [if_neg ha]
    have gc : ∀ q, A11 4 q = if j ≤ q ∧ q < j + g then A 6 (i + (q - j)) else A 4 q := fun q => by rw [hA11]; rfl
    unfold W_X7_faultless_r1
    refine hq _ _ _ (g11 0 (by decide)) (fun Q2 h2 => K_copyR (n := n) (n2 := n2) (l := l) (l2 := l2) (b := b) (b2 := b2) (by decide) (by decide) h1 t1 (by rw [g11 65 (by decide)]; exact h4) (by rw [g11 65 (by decide)]; exact t4) (fun _ => by rw [g11 66 (by decide)]; exact e3) (fun _ => by rw [g11 66 (by decide)]; exact f3) (fun q => absurd hbb q) (fun _ q => absurd c3 q) (fun _ _ q => absurd ?_ q) (fun _ _ _ => ?_))
    · rw [zi_toInt (by omega) (by omega), zi_toInt (by omega) (by omega), zi_toInt (by omega) (by omega)]; omega
    · refine K_copyLoops (by decide) (by decide) (by omega) (by omega) (fun A2 k1 k2 => h2 _ _ ⟨D, E, ?_⟩)
      have e67 : ∀ q, A2 67 q = if 60 * 0 + j ≤ q ∧ q < 60 * 0 + j + g then A 67 (60 * 1 + i + (q - (60 * 0 + j))) else A 67 q := fun q => by rw [k2, g11 67 (by decide)]
      refine hv.stf (fun o k hk => (zpJ (f := zkI) rfl hk).trans (zpJ (f := zkI) rfl hk)) (fun a ha => ?_) ⟨rfl, rfl⟩ (by rw [zp_eq, zp_ne (by decide), zp_eq]) (hv.sh.set_0 (fun o j ho ho2 => by rw [zp_ne (by omega), zp_ne (by omega)]) (fun q hq2 => by rw [k1 65 (by decide) (by decide), g11 65 (by decide)]) (fun q hq2 => by rw [k1 66 (by decide) (by decide), g11 66 (by decide)]) (fun a ha ha2 => by rw [k1 a (by omega) (by omega), g11 a ha2]) (fun q hq2 => by rw [e67, if_neg (by omega)]) ?_)
      · rw [k1 a (by rintro rfl; cases ha) (by rintro rfl; cases ha), g11 a (by rintro rfl; cases ha)]
      · refine Or.inr ⟨n2, l2, t1, tl3, ?_, f1, f2, ?_, ?_, fun q hq2 => ?_⟩
        · show I 3 1 = 1
          rw [t3, if_pos hbb.2]
        · rw [k1 65 (by decide) (by decide), g11 65 (by decide), t4, if_pos hbb.2]
        · rw [k1 66 (by decide) (by decide), g11 66 (by decide), f3]
        · rw [k1 4 (by decide) (by decide), gc, e67]
          by_cases e : j ≤ q ∧ q < j + g
          · rw [if_pos e, if_pos (by omega), e4 _ (by omega)]; congr 1; omega
          · rw [if_neg e, if_neg (by omega)]; exact f4 q hq2
  · have hbb : b = true ∧ b2 = true := ⟨Decidable.not_not.mp (fun q => c ((h01 h3).mpr q)), Decidable.not_not.mp (fun q => c2 ((h01 t3).mpr q))⟩
    replace c3 : ¬ zi l = zi l2 := fun q => c3 ((h5 hbb.1).1.trans (q.trans (t5 hbb.2).1.symm))
    unfold W_X7_faulted_r1
    exact hq _ _ _ rfl (fun Q2 h2 => K_copyR (by decide) (by decide) h1 t1 h4 t4 (fun q => (h5 q).2.2.1) (fun q => (t5 q).2.2.1) (fun c => absurd hbb c) (fun _ _ => h2 _ _ ⟨D, E, hv.ft 2⟩) (fun _ c => absurd c c3) (fun _ c => absurd c c3))
theorem OP_copy_c1_c1 {Ln : Nat} {xs : Nat → Int32} {I A : Nat → Nat → Int32} {v w u : Int32} {Q : Int32 → (Nat → Nat → Int32) → (Nat → Nat → Int32) → Prop} (hv : INV xs I A) (hq : ∀ x I' A', A' 0 = A 0 → (∀ Q2 : Int32 → (Nat → Nat → Int32) → (Nat → Nat → Int32) → Prop, (∀ I2 A2, INV xs I2 A2 → Q2 x I2 A2) → W_X8_copy_r44 Ln I' A' (zi (1 : Nat)) v (zi (1 : Nat)) w u Q2) → Q x I' A') : W_X7_copy_r1_c1_c1 Ln I A v w u Q := by
  obtain ⟨D, E, hv⟩ := hv
  obtain ⟨b, l, n, hs⟩ := hv.sh.at_1.d
  obtain ⟨b2, l2, n2, ht⟩ := hv.sh.at_1.d
  obtain ⟨h1, hl3, h3, h4, h5⟩ := hs
  obtain ⟨t1, tl3, t3, t4, t5⟩ := ht
  unfold W_X7_copy_r1_c1_c1
  refine C_isSheet_1 ⟨fun c => absurd c (by decide), fun _ => C_isSheet_1 ⟨fun _ => ?_, fun c => absurd (show (1 : Int32) ≠ 0 by decide) c⟩⟩
  have hnull : ¬ (b = true ∧ b2 = true) → J_X7_copy_r1_c1_c1_52 Ln I A v w u Q := by
    intro hb
    unfold J_X7_copy_r1_c1_c1_52 W_X7_faulted_r1
    exact hq _ _ _ rfl (fun Q2 h2 => K_copyR (by decide) (by decide) h1 t1 h4 t4 (fun q => (h5 q).2.2.1) (fun q => (t5 q).2.2.1) (fun _ => h2 _ _ ⟨D, E, hv.ft 1⟩) (fun c => absurd c hb) (fun c => absurd c hb) (fun c => absurd c hb))
  have hidx : b = true ∧ b2 = true → zi l = zi l2 → ¬ (0 ≤ u.toInt ∧ (0 ≤ v.toInt ∧ v.toInt + u.toInt ≤ n) ∧ 0 ≤ w.toInt ∧ w.toInt + u.toInt ≤ n2) → J_X7_copy_r1_c1_c1_105 Ln I A v w u Q := by
    intro hb hl hx
    unfold J_X7_copy_r1_c1_c1_105 W_X7_faulted_r1
    exact hq _ _ _ rfl (fun Q2 h2 => K_copyR (by decide) (by decide) h1 t1 h4 t4 (fun q => (h5 q).2.2.1) (fun q => (t5 q).2.2.1) (fun c => absurd hb c) (fun _ c => absurd hl c) (fun _ _ _ => h2 _ _ ⟨D, E, hv.ft 3⟩) (fun _ _ c => absurd c hx))
  have h01 : ∀ {b3 : Bool} {x : Int32}, x = (if b3 = true then 1 else 0) → (x = 0 ↔ ¬ b3 = true) := by
    rintro b3 x rfl
    cases b3 <;> decide
  refine ⟨fun c => hnull (fun q => (h01 h3).mp c q.1), fun c => ⟨fun c2 => ⟨fun c3 => ?_, fun c3 => ?_⟩, fun c2 => hnull (fun q => c2 (fun q2 => (h01 t3).mp q2 q.2))⟩⟩
  · have hbb : b = true ∧ b2 = true := ⟨Decidable.not_not.mp (fun q => c ((h01 h3).mpr q)), Decidable.not_not.mp (fun q => c2 ((h01 t3).mpr q))⟩
    obtain ⟨e1, e2, e3, e4⟩ := h5 hbb.1
    obtain ⟨f1, f2, f3, f4⟩ := t5 hbb.2
    replace c3 : zi l = zi l2 := e1.symm.trans (c3.trans f1)
    refine ⟨fun c4 => hidx hbb c3 (by rw [zlt0] at c4; omega), fun c4 => ?_⟩
    rw [zlt0] at c4
    refine C_holds_5 e2 h1 (by omega) (fun c5 => ⟨fun c6 => absurd c6 (by decide), fun _ => C_holds_5 f2 t1 (by omega) (fun c6 => ⟨fun _ => ?_, fun c7 => absurd (show (1 : Int32) ≠ 0 by decide) c7⟩) (fun c6 => ⟨fun c7 => absurd rfl c7, fun _ => hidx hbb c3 (by omega)⟩)⟩) (fun c5 => ⟨fun _ => hidx hbb c3 (by omega), fun c6 => absurd rfl c6⟩)
    obtain ⟨i, hi, rfl⟩ := zasn (v := v) (n := 61) ⟨c5.1, by omega⟩
    obtain ⟨j, hj, rfl⟩ := zasn (v := w) (n := 61) ⟨c6.1, by omega⟩
    obtain ⟨g, hg, rfl⟩ := zasn (v := u) (n := 61) ⟨by omega, by omega⟩
    rw [zi_toInt (by omega) (by omega), zi_toInt (by omega) (by omega)] at c5 c6
    rw [zi_nat' (by omega), zi_nat' (by omega), zi_nat' (by omega), zlt0, zlt0, zlt0, zi_toInt (by omega) (by omega), zi_toInt (by omega) (by omega), zi_toInt (by omega) (by omega)]
    refine ⟨by omega, by omega, by omega, by omega, by omega, fun A11 hA11 => ?_⟩
    have g11 : ∀ a, a ≠ 6 → A11 a = A a := fun a ha => by rw [hA11]; unfold zcp va_up; rw [if_neg ha]
    have gc : ∀ q, A11 6 q = if j ≤ q ∧ q < j + g then A 6 (i + (q - j)) else A 6 q := fun q => by rw [hA11]; rfl
    unfold W_X7_faultless_r1
    refine hq _ _ _ (g11 0 (by decide)) (fun Q2 h2 => K_copyR (n := n) (n2 := n2) (l := l) (l2 := l2) (b := b) (b2 := b2) (by decide) (by decide) h1 t1 (by rw [g11 65 (by decide)]; exact h4) (by rw [g11 65 (by decide)]; exact t4) (fun _ => by rw [g11 66 (by decide)]; exact e3) (fun _ => by rw [g11 66 (by decide)]; exact f3) (fun q => absurd hbb q) (fun _ q => absurd c3 q) (fun _ _ q => absurd ?_ q) (fun _ _ _ => ?_))
    · rw [zi_toInt (by omega) (by omega), zi_toInt (by omega) (by omega), zi_toInt (by omega) (by omega)]; omega
    · refine K_copyLoops (by decide) (by decide) (by omega) (by omega) (fun A2 k1 k2 => h2 _ _ ⟨D, E, ?_⟩)
      have e67 : ∀ q, A2 67 q = if 60 * 1 + j ≤ q ∧ q < 60 * 1 + j + g then A 67 (60 * 1 + i + (q - (60 * 1 + j))) else A 67 q := fun q => by rw [k2, g11 67 (by decide)]
      refine hv.stf (fun o k hk => (zpJ (f := zkI) rfl hk).trans (zpJ (f := zkI) rfl hk)) (fun a ha => ?_) ⟨rfl, rfl⟩ (by rw [zp_eq, zp_ne (by decide), zp_eq]) (hv.sh.set_1 (fun o j ho ho2 => by rw [zp_ne (by omega), zp_ne (by omega)]) (fun q hq2 => by rw [k1 65 (by decide) (by decide), g11 65 (by decide)]) (fun q hq2 => by rw [k1 66 (by decide) (by decide), g11 66 (by decide)]) (fun a ha ha2 => by rw [k1 a (by omega) (by omega), g11 a ha2]) (fun q hq2 => by rw [e67, if_neg (by omega)]) ?_)
      · rw [k1 a (by rintro rfl; cases ha) (by rintro rfl; cases ha), g11 a (by rintro rfl; cases ha)]
      · refine Or.inr ⟨n2, l2, t1, tl3, ?_, f1, f2, ?_, ?_, fun q hq2 => ?_⟩
        · show I 5 1 = 1
          rw [t3, if_pos hbb.2]
        · rw [k1 65 (by decide) (by decide), g11 65 (by decide), t4, if_pos hbb.2]
        · rw [k1 66 (by decide) (by decide), g11 66 (by decide), f3]
        · rw [k1 6 (by decide) (by decide), gc, e67]
          by_cases e : j ≤ q ∧ q < j + g
          · rw [if_pos e, if_pos (by omega), e4 _ (by omega)]; congr 1; omega
          · rw [if_neg e, if_neg (by omega)]; exact f4 q hq2
  · have hbb : b = true ∧ b2 = true := ⟨Decidable.not_not.mp (fun q => c ((h01 h3).mpr q)), Decidable.not_not.mp (fun q => c2 ((h01 t3).mpr q))⟩
    replace c3 : ¬ zi l = zi l2 := fun q => c3 ((h5 hbb.1).1.trans (q.trans (t5 hbb.2).1.symm))
    unfold W_X7_faulted_r1
    exact hq _ _ _ rfl (fun Q2 h2 => K_copyR (by decide) (by decide) h1 t1 h4 t4 (fun q => (h5 q).2.2.1) (fun q => (t5 q).2.2.1) (fun c => absurd hbb c) (fun _ _ => h2 _ _ ⟨D, E, hv.ft 2⟩) (fun _ c => absurd c c3) (fun _ c => absurd c c3))
theorem OP_copy_c1_c2 {Ln : Nat} {xs : Nat → Int32} {I A : Nat → Nat → Int32} {v w u : Int32} {Q : Int32 → (Nat → Nat → Int32) → (Nat → Nat → Int32) → Prop} (hv : INV xs I A) (hq : ∀ x I' A', A' 0 = A 0 → (∀ Q2 : Int32 → (Nat → Nat → Int32) → (Nat → Nat → Int32) → Prop, (∀ I2 A2, INV xs I2 A2 → Q2 x I2 A2) → W_X8_copy_r44 Ln I' A' (zi (1 : Nat)) v (zi (2 : Nat)) w u Q2) → Q x I' A') : W_X7_copy_r1_c1_c2 Ln I A v w u Q := by
  obtain ⟨D, E, hv⟩ := hv
  obtain ⟨b, l, n, hs⟩ := hv.sh.at_1.d
  obtain ⟨b2, l2, n2, ht⟩ := hv.sh.at_2.d
  obtain ⟨h1, hl3, h3, h4, h5⟩ := hs
  obtain ⟨t1, tl3, t3, t4, t5⟩ := ht
  unfold W_X7_copy_r1_c1_c2
  refine C_isSheet_1 ⟨fun c => absurd c (by decide), fun _ => C_isSheet_2 ⟨fun _ => ?_, fun c => absurd (show (1 : Int32) ≠ 0 by decide) c⟩⟩
  have hnull : ¬ (b = true ∧ b2 = true) → J_X7_copy_r1_c1_c2_52 Ln I A v w u Q := by
    intro hb
    unfold J_X7_copy_r1_c1_c2_52 W_X7_faulted_r1
    exact hq _ _ _ rfl (fun Q2 h2 => K_copyR (by decide) (by decide) h1 t1 h4 t4 (fun q => (h5 q).2.2.1) (fun q => (t5 q).2.2.1) (fun _ => h2 _ _ ⟨D, E, hv.ft 1⟩) (fun c => absurd c hb) (fun c => absurd c hb) (fun c => absurd c hb))
  have hidx : b = true ∧ b2 = true → zi l = zi l2 → ¬ (0 ≤ u.toInt ∧ (0 ≤ v.toInt ∧ v.toInt + u.toInt ≤ n) ∧ 0 ≤ w.toInt ∧ w.toInt + u.toInt ≤ n2) → J_X7_copy_r1_c1_c2_105 Ln I A v w u Q := by
    intro hb hl hx
    unfold J_X7_copy_r1_c1_c2_105 W_X7_faulted_r1
    exact hq _ _ _ rfl (fun Q2 h2 => K_copyR (by decide) (by decide) h1 t1 h4 t4 (fun q => (h5 q).2.2.1) (fun q => (t5 q).2.2.1) (fun c => absurd hb c) (fun _ c => absurd hl c) (fun _ _ _ => h2 _ _ ⟨D, E, hv.ft 3⟩) (fun _ _ c => absurd c hx))
  have h01 : ∀ {b3 : Bool} {x : Int32}, x = (if b3 = true then 1 else 0) → (x = 0 ↔ ¬ b3 = true) := by
    rintro b3 x rfl
    cases b3 <;> decide
  refine ⟨fun c => hnull (fun q => (h01 h3).mp c q.1), fun c => ⟨fun c2 => ⟨fun c3 => ?_, fun c3 => ?_⟩, fun c2 => hnull (fun q => c2 (fun q2 => (h01 t3).mp q2 q.2))⟩⟩
  · have hbb : b = true ∧ b2 = true := ⟨Decidable.not_not.mp (fun q => c ((h01 h3).mpr q)), Decidable.not_not.mp (fun q => c2 ((h01 t3).mpr q))⟩
    obtain ⟨e1, e2, e3, e4⟩ := h5 hbb.1
    obtain ⟨f1, f2, f3, f4⟩ := t5 hbb.2
    replace c3 : zi l = zi l2 := e1.symm.trans (c3.trans f1)
    refine ⟨fun c4 => hidx hbb c3 (by rw [zlt0] at c4; omega), fun c4 => ?_⟩
    rw [zlt0] at c4
    refine C_holds_5 e2 h1 (by omega) (fun c5 => ⟨fun c6 => absurd c6 (by decide), fun _ => C_holds_7 f2 t1 (by omega) (fun c6 => ⟨fun _ => ?_, fun c7 => absurd (show (1 : Int32) ≠ 0 by decide) c7⟩) (fun c6 => ⟨fun c7 => absurd rfl c7, fun _ => hidx hbb c3 (by omega)⟩)⟩) (fun c5 => ⟨fun _ => hidx hbb c3 (by omega), fun c6 => absurd rfl c6⟩)
    obtain ⟨i, hi, rfl⟩ := zasn (v := v) (n := 61) ⟨c5.1, by omega⟩
    obtain ⟨j, hj, rfl⟩ := zasn (v := w) (n := 61) ⟨c6.1, by omega⟩
    obtain ⟨g, hg, rfl⟩ := zasn (v := u) (n := 61) ⟨by omega, by omega⟩
    rw [zi_toInt (by omega) (by omega), zi_toInt (by omega) (by omega)] at c5 c6
    rw [zi_nat' (by omega), zi_nat' (by omega), zi_nat' (by omega), zlt0, zlt0, zlt0, zi_toInt (by omega) (by omega), zi_toInt (by omega) (by omega), zi_toInt (by omega) (by omega)]
    refine ⟨by omega, by omega, by omega, by omega, by omega, fun A11 hA11 => ?_⟩
    have g11 : ∀ a, a ≠ 8 → A11 a = A a := fun a ha => by rw [hA11]; unfold zcp va_up; rw [if_neg ha]
    have gc : ∀ q, A11 8 q = if j ≤ q ∧ q < j + g then A 6 (i + (q - j)) else A 8 q := fun q => by rw [hA11]; rfl
    unfold W_X7_faultless_r1
    refine hq _ _ _ (g11 0 (by decide)) (fun Q2 h2 => K_copyR (n := n) (n2 := n2) (l := l) (l2 := l2) (b := b) (b2 := b2) (by decide) (by decide) h1 t1 (by rw [g11 65 (by decide)]; exact h4) (by rw [g11 65 (by decide)]; exact t4) (fun _ => by rw [g11 66 (by decide)]; exact e3) (fun _ => by rw [g11 66 (by decide)]; exact f3) (fun q => absurd hbb q) (fun _ q => absurd c3 q) (fun _ _ q => absurd ?_ q) (fun _ _ _ => ?_))
    · rw [zi_toInt (by omega) (by omega), zi_toInt (by omega) (by omega), zi_toInt (by omega) (by omega)]; omega
    · refine K_copyLoops (by decide) (by decide) (by omega) (by omega) (fun A2 k1 k2 => h2 _ _ ⟨D, E, ?_⟩)
      have e67 : ∀ q, A2 67 q = if 60 * 2 + j ≤ q ∧ q < 60 * 2 + j + g then A 67 (60 * 1 + i + (q - (60 * 2 + j))) else A 67 q := fun q => by rw [k2, g11 67 (by decide)]
      refine hv.stf (fun o k hk => (zpJ (f := zkI) rfl hk).trans (zpJ (f := zkI) rfl hk)) (fun a ha => ?_) ⟨rfl, rfl⟩ (by rw [zp_eq, zp_ne (by decide), zp_eq]) (hv.sh.set_2 (fun o j ho ho2 => by rw [zp_ne (by omega), zp_ne (by omega)]) (fun q hq2 => by rw [k1 65 (by decide) (by decide), g11 65 (by decide)]) (fun q hq2 => by rw [k1 66 (by decide) (by decide), g11 66 (by decide)]) (fun a ha ha2 => by rw [k1 a (by omega) (by omega), g11 a ha2]) (fun q hq2 => by rw [e67, if_neg (by omega)]) ?_)
      · rw [k1 a (by rintro rfl; cases ha) (by rintro rfl; cases ha), g11 a (by rintro rfl; cases ha)]
      · refine Or.inr ⟨n2, l2, t1, tl3, ?_, f1, f2, ?_, ?_, fun q hq2 => ?_⟩
        · show I 7 1 = 1
          rw [t3, if_pos hbb.2]
        · rw [k1 65 (by decide) (by decide), g11 65 (by decide), t4, if_pos hbb.2]
        · rw [k1 66 (by decide) (by decide), g11 66 (by decide), f3]
        · rw [k1 8 (by decide) (by decide), gc, e67]
          by_cases e : j ≤ q ∧ q < j + g
          · rw [if_pos e, if_pos (by omega), e4 _ (by omega)]; congr 1; omega
          · rw [if_neg e, if_neg (by omega)]; exact f4 q hq2
  · have hbb : b = true ∧ b2 = true := ⟨Decidable.not_not.mp (fun q => c ((h01 h3).mpr q)), Decidable.not_not.mp (fun q => c2 ((h01 t3).mpr q))⟩
    replace c3 : ¬ zi l = zi l2 := fun q => c3 ((h5 hbb.1).1.trans (q.trans (t5 hbb.2).1.symm))
    unfold W_X7_faulted_r1
    exact hq _ _ _ rfl (fun Q2 h2 => K_copyR (by decide) (by decide) h1 t1 h4 t4 (fun q => (h5 q).2.2.1) (fun q => (t5 q).2.2.1) (fun c => absurd hbb c) (fun _ _ => h2 _ _ ⟨D, E, hv.ft 2⟩) (fun _ c => absurd c c3) (fun _ c => absurd c c3))
theorem OP_copy_c1_c3 {Ln : Nat} {xs : Nat → Int32} {I A : Nat → Nat → Int32} {v w u : Int32} {Q : Int32 → (Nat → Nat → Int32) → (Nat → Nat → Int32) → Prop} (hv : INV xs I A) (hq : ∀ x I' A', A' 0 = A 0 → (∀ Q2 : Int32 → (Nat → Nat → Int32) → (Nat → Nat → Int32) → Prop, (∀ I2 A2, INV xs I2 A2 → Q2 x I2 A2) → W_X8_copy_r44 Ln I' A' (zi (1 : Nat)) v (zi (3 : Nat)) w u Q2) → Q x I' A') : W_X7_copy_r1_c1_c3 Ln I A v w u Q := by
  obtain ⟨D, E, hv⟩ := hv
  obtain ⟨b, l, n, hs⟩ := hv.sh.at_1.d
  obtain ⟨b2, l2, n2, ht⟩ := hv.sh.at_3.d
  obtain ⟨h1, hl3, h3, h4, h5⟩ := hs
  obtain ⟨t1, tl3, t3, t4, t5⟩ := ht
  unfold W_X7_copy_r1_c1_c3
  refine C_isSheet_1 ⟨fun c => absurd c (by decide), fun _ => C_isSheet_3 ⟨fun _ => ?_, fun c => absurd (show (1 : Int32) ≠ 0 by decide) c⟩⟩
  have hnull : ¬ (b = true ∧ b2 = true) → J_X7_copy_r1_c1_c3_52 Ln I A v w u Q := by
    intro hb
    unfold J_X7_copy_r1_c1_c3_52 W_X7_faulted_r1
    exact hq _ _ _ rfl (fun Q2 h2 => K_copyR (by decide) (by decide) h1 t1 h4 t4 (fun q => (h5 q).2.2.1) (fun q => (t5 q).2.2.1) (fun _ => h2 _ _ ⟨D, E, hv.ft 1⟩) (fun c => absurd c hb) (fun c => absurd c hb) (fun c => absurd c hb))
  have hidx : b = true ∧ b2 = true → zi l = zi l2 → ¬ (0 ≤ u.toInt ∧ (0 ≤ v.toInt ∧ v.toInt + u.toInt ≤ n) ∧ 0 ≤ w.toInt ∧ w.toInt + u.toInt ≤ n2) → J_X7_copy_r1_c1_c3_105 Ln I A v w u Q := by
    intro hb hl hx
    unfold J_X7_copy_r1_c1_c3_105 W_X7_faulted_r1
    exact hq _ _ _ rfl (fun Q2 h2 => K_copyR (by decide) (by decide) h1 t1 h4 t4 (fun q => (h5 q).2.2.1) (fun q => (t5 q).2.2.1) (fun c => absurd hb c) (fun _ c => absurd hl c) (fun _ _ _ => h2 _ _ ⟨D, E, hv.ft 3⟩) (fun _ _ c => absurd c hx))
  have h01 : ∀ {b3 : Bool} {x : Int32}, x = (if b3 = true then 1 else 0) → (x = 0 ↔ ¬ b3 = true) := by
    rintro b3 x rfl
    cases b3 <;> decide
  refine ⟨fun c => hnull (fun q => (h01 h3).mp c q.1), fun c => ⟨fun c2 => ⟨fun c3 => ?_, fun c3 => ?_⟩, fun c2 => hnull (fun q => c2 (fun q2 => (h01 t3).mp q2 q.2))⟩⟩
  · have hbb : b = true ∧ b2 = true := ⟨Decidable.not_not.mp (fun q => c ((h01 h3).mpr q)), Decidable.not_not.mp (fun q => c2 ((h01 t3).mpr q))⟩
    obtain ⟨e1, e2, e3, e4⟩ := h5 hbb.1
    obtain ⟨f1, f2, f3, f4⟩ := t5 hbb.2
    replace c3 : zi l = zi l2 := e1.symm.trans (c3.trans f1)
    refine ⟨fun c4 => hidx hbb c3 (by rw [zlt0] at c4; omega), fun c4 => ?_⟩
    rw [zlt0] at c4
    refine C_holds_5 e2 h1 (by omega) (fun c5 => ⟨fun c6 => absurd c6 (by decide), fun _ => C_holds_9 f2 t1 (by omega) (fun c6 => ⟨fun _ => ?_, fun c7 => absurd (show (1 : Int32) ≠ 0 by decide) c7⟩) (fun c6 => ⟨fun c7 => absurd rfl c7, fun _ => hidx hbb c3 (by omega)⟩)⟩) (fun c5 => ⟨fun _ => hidx hbb c3 (by omega), fun c6 => absurd rfl c6⟩)
    obtain ⟨i, hi, rfl⟩ := zasn (v := v) (n := 61) ⟨c5.1, by omega⟩
    obtain ⟨j, hj, rfl⟩ := zasn (v := w) (n := 61) ⟨c6.1, by omega⟩
    obtain ⟨g, hg, rfl⟩ := zasn (v := u) (n := 61) ⟨by omega, by omega⟩
    rw [zi_toInt (by omega) (by omega), zi_toInt (by omega) (by omega)] at c5 c6
    rw [zi_nat' (by omega), zi_nat' (by omega), zi_nat' (by omega), zlt0, zlt0, zlt0, zi_toInt (by omega) (by omega), zi_toInt (by omega) (by omega), zi_toInt (by omega) (by omega)]
    refine ⟨by omega, by omega, by omega, by omega, by omega, fun A11 hA11 => ?_⟩
    have g11 : ∀ a, a ≠ 10 → A11 a = A a := fun a ha => by rw [hA11]; unfold zcp va_up; rw [if_neg ha]
    have gc : ∀ q, A11 10 q = if j ≤ q ∧ q < j + g then A 6 (i + (q - j)) else A 10 q := fun q => by rw [hA11]; rfl
    unfold W_X7_faultless_r1
    refine hq _ _ _ (g11 0 (by decide)) (fun Q2 h2 => K_copyR (n := n) (n2 := n2) (l := l) (l2 := l2) (b := b) (b2 := b2) (by decide) (by decide) h1 t1 (by rw [g11 65 (by decide)]; exact h4) (by rw [g11 65 (by decide)]; exact t4) (fun _ => by rw [g11 66 (by decide)]; exact e3) (fun _ => by rw [g11 66 (by decide)]; exact f3) (fun q => absurd hbb q) (fun _ q => absurd c3 q) (fun _ _ q => absurd ?_ q) (fun _ _ _ => ?_))
    · rw [zi_toInt (by omega) (by omega), zi_toInt (by omega) (by omega), zi_toInt (by omega) (by omega)]; omega
    · refine K_copyLoops (by decide) (by decide) (by omega) (by omega) (fun A2 k1 k2 => h2 _ _ ⟨D, E, ?_⟩)
      have e67 : ∀ q, A2 67 q = if 60 * 3 + j ≤ q ∧ q < 60 * 3 + j + g then A 67 (60 * 1 + i + (q - (60 * 3 + j))) else A 67 q := fun q => by rw [k2, g11 67 (by decide)]
      refine hv.stf (fun o k hk => (zpJ (f := zkI) rfl hk).trans (zpJ (f := zkI) rfl hk)) (fun a ha => ?_) ⟨rfl, rfl⟩ (by rw [zp_eq, zp_ne (by decide), zp_eq]) (hv.sh.set_3 (fun o j ho ho2 => by rw [zp_ne (by omega), zp_ne (by omega)]) (fun q hq2 => by rw [k1 65 (by decide) (by decide), g11 65 (by decide)]) (fun q hq2 => by rw [k1 66 (by decide) (by decide), g11 66 (by decide)]) (fun a ha ha2 => by rw [k1 a (by omega) (by omega), g11 a ha2]) (fun q hq2 => by rw [e67, if_neg (by omega)]) ?_)
      · rw [k1 a (by rintro rfl; cases ha) (by rintro rfl; cases ha), g11 a (by rintro rfl; cases ha)]
      · refine Or.inr ⟨n2, l2, t1, tl3, ?_, f1, f2, ?_, ?_, fun q hq2 => ?_⟩
        · show I 9 1 = 1
          rw [t3, if_pos hbb.2]
        · rw [k1 65 (by decide) (by decide), g11 65 (by decide), t4, if_pos hbb.2]
        · rw [k1 66 (by decide) (by decide), g11 66 (by decide), f3]
        · rw [k1 10 (by decide) (by decide), gc, e67]
          by_cases e : j ≤ q ∧ q < j + g
          · rw [if_pos e, if_pos (by omega), e4 _ (by omega)]; congr 1; omega
          · rw [if_neg e, if_neg (by omega)]; exact f4 q hq2
  · have hbb : b = true ∧ b2 = true := ⟨Decidable.not_not.mp (fun q => c ((h01 h3).mpr q)), Decidable.not_not.mp (fun q => c2 ((h01 t3).mpr q))⟩
    replace c3 : ¬ zi l = zi l2 := fun q => c3 ((h5 hbb.1).1.trans (q.trans (t5 hbb.2).1.symm))
    unfold W_X7_faulted_r1
    exact hq _ _ _ rfl (fun Q2 h2 => K_copyR (by decide) (by decide) h1 t1 h4 t4 (fun q => (h5 q).2.2.1) (fun q => (t5 q).2.2.1) (fun c => absurd hbb c) (fun _ _ => h2 _ _ ⟨D, E, hv.ft 2⟩) (fun _ c => absurd c c3) (fun _ c => absurd c c3))
theorem OP_copy_c2_c0 {Ln : Nat} {xs : Nat → Int32} {I A : Nat → Nat → Int32} {v w u : Int32} {Q : Int32 → (Nat → Nat → Int32) → (Nat → Nat → Int32) → Prop} (hv : INV xs I A) (hq : ∀ x I' A', A' 0 = A 0 → (∀ Q2 : Int32 → (Nat → Nat → Int32) → (Nat → Nat → Int32) → Prop, (∀ I2 A2, INV xs I2 A2 → Q2 x I2 A2) → W_X8_copy_r44 Ln I' A' (zi (2 : Nat)) v (zi (0 : Nat)) w u Q2) → Q x I' A') : W_X7_copy_r1_c2_c0 Ln I A v w u Q := by
  obtain ⟨D, E, hv⟩ := hv
  obtain ⟨b, l, n, hs⟩ := hv.sh.at_2.d
  obtain ⟨b2, l2, n2, ht⟩ := hv.sh.at_0.d
  obtain ⟨h1, hl3, h3, h4, h5⟩ := hs
  obtain ⟨t1, tl3, t3, t4, t5⟩ := ht
  unfold W_X7_copy_r1_c2_c0
  refine C_isSheet_2 ⟨fun c => absurd c (by decide), fun _ => C_isSheet_0 ⟨fun _ => ?_, fun c => absurd (show (1 : Int32) ≠ 0 by decide) c⟩⟩
  have hnull : ¬ (b = true ∧ b2 = true) → J_X7_copy_r1_c2_c0_52 Ln I A v w u Q := by
    intro hb
    unfold J_X7_copy_r1_c2_c0_52 W_X7_faulted_r1
    exact hq _ _ _ rfl (fun Q2 h2 => K_copyR (by decide) (by decide) h1 t1 h4 t4 (fun q => (h5 q).2.2.1) (fun q => (t5 q).2.2.1) (fun _ => h2 _ _ ⟨D, E, hv.ft 1⟩) (fun c => absurd c hb) (fun c => absurd c hb) (fun c => absurd c hb))
  have hidx : b = true ∧ b2 = true → zi l = zi l2 → ¬ (0 ≤ u.toInt ∧ (0 ≤ v.toInt ∧ v.toInt + u.toInt ≤ n) ∧ 0 ≤ w.toInt ∧ w.toInt + u.toInt ≤ n2) → J_X7_copy_r1_c2_c0_105 Ln I A v w u Q := by
    intro hb hl hx
    unfold J_X7_copy_r1_c2_c0_105 W_X7_faulted_r1
    exact hq _ _ _ rfl (fun Q2 h2 => K_copyR (by decide) (by decide) h1 t1 h4 t4 (fun q => (h5 q).2.2.1) (fun q => (t5 q).2.2.1) (fun c => absurd hb c) (fun _ c => absurd hl c) (fun _ _ _ => h2 _ _ ⟨D, E, hv.ft 3⟩) (fun _ _ c => absurd c hx))
  have h01 : ∀ {b3 : Bool} {x : Int32}, x = (if b3 = true then 1 else 0) → (x = 0 ↔ ¬ b3 = true) := by
    rintro b3 x rfl
    cases b3 <;> decide
  refine ⟨fun c => hnull (fun q => (h01 h3).mp c q.1), fun c => ⟨fun c2 => ⟨fun c3 => ?_, fun c3 => ?_⟩, fun c2 => hnull (fun q => c2 (fun q2 => (h01 t3).mp q2 q.2))⟩⟩
  · have hbb : b = true ∧ b2 = true := ⟨Decidable.not_not.mp (fun q => c ((h01 h3).mpr q)), Decidable.not_not.mp (fun q => c2 ((h01 t3).mpr q))⟩
    obtain ⟨e1, e2, e3, e4⟩ := h5 hbb.1
    obtain ⟨f1, f2, f3, f4⟩ := t5 hbb.2
    replace c3 : zi l = zi l2 := e1.symm.trans (c3.trans f1)
    refine ⟨fun c4 => hidx hbb c3 (by rw [zlt0] at c4; omega), fun c4 => ?_⟩
    rw [zlt0] at c4
    refine C_holds_7 e2 h1 (by omega) (fun c5 => ⟨fun c6 => absurd c6 (by decide), fun _ => C_holds_3 f2 t1 (by omega) (fun c6 => ⟨fun _ => ?_, fun c7 => absurd (show (1 : Int32) ≠ 0 by decide) c7⟩) (fun c6 => ⟨fun c7 => absurd rfl c7, fun _ => hidx hbb c3 (by omega)⟩)⟩) (fun c5 => ⟨fun _ => hidx hbb c3 (by omega), fun c6 => absurd rfl c6⟩)
    obtain ⟨i, hi, rfl⟩ := zasn (v := v) (n := 61) ⟨c5.1, by omega⟩
    obtain ⟨j, hj, rfl⟩ := zasn (v := w) (n := 61) ⟨c6.1, by omega⟩
    obtain ⟨g, hg, rfl⟩ := zasn (v := u) (n := 61) ⟨by omega, by omega⟩
    rw [zi_toInt (by omega) (by omega), zi_toInt (by omega) (by omega)] at c5 c6
    rw [zi_nat' (by omega), zi_nat' (by omega), zi_nat' (by omega), zlt0, zlt0, zlt0, zi_toInt (by omega) (by omega), zi_toInt (by omega) (by omega), zi_toInt (by omega) (by omega)]
    refine ⟨by omega, by omega, by omega, by omega, by omega, fun A11 hA11 => ?_⟩
    have g11 : ∀ a, a ≠ 4 → A11 a = A a := fun a ha => by rw [hA11]; unfold zcp va_up; rw [if_neg ha]
    have gc : ∀ q, A11 4 q = if j ≤ q ∧ q < j + g then A 8 (i + (q - j)) else A 4 q := fun q => by rw [hA11]; rfl
    unfold W_X7_faultless_r1
    refine hq _ _ _ (g11 0 (by decide)) (fun Q2 h2 => K_copyR (n := n) (n2 := n2) (l := l) (l2 := l2) (b := b) (b2 := b2) (by decide) (by decide) h1 t1 (by rw [g11 65 (by decide)]; exact h4) (by rw [g11 65 (by decide)]; exact t4) (fun _ => by rw [g11 66 (by decide)]; exact e3) (fun _ => by rw [g11 66 (by decide)]; exact f3) (fun q => absurd hbb q) (fun _ q => absurd c3 q) (fun _ _ q => absurd ?_ q) (fun _ _ _ => ?_))
    · rw [zi_toInt (by omega) (by omega), zi_toInt (by omega) (by omega), zi_toInt (by omega) (by omega)]; omega
    · refine K_copyLoops (by decide) (by decide) (by omega) (by omega) (fun A2 k1 k2 => h2 _ _ ⟨D, E, ?_⟩)
      have e67 : ∀ q, A2 67 q = if 60 * 0 + j ≤ q ∧ q < 60 * 0 + j + g then A 67 (60 * 2 + i + (q - (60 * 0 + j))) else A 67 q := fun q => by rw [k2, g11 67 (by decide)]
      refine hv.stf (fun o k hk => (zpJ (f := zkI) rfl hk).trans (zpJ (f := zkI) rfl hk)) (fun a ha => ?_) ⟨rfl, rfl⟩ (by rw [zp_eq, zp_ne (by decide), zp_eq]) (hv.sh.set_0 (fun o j ho ho2 => by rw [zp_ne (by omega), zp_ne (by omega)]) (fun q hq2 => by rw [k1 65 (by decide) (by decide), g11 65 (by decide)]) (fun q hq2 => by rw [k1 66 (by decide) (by decide), g11 66 (by decide)]) (fun a ha ha2 => by rw [k1 a (by omega) (by omega), g11 a ha2]) (fun q hq2 => by rw [e67, if_neg (by omega)]) ?_)
      · rw [k1 a (by rintro rfl; cases ha) (by rintro rfl; cases ha), g11 a (by rintro rfl; cases ha)]
      · refine Or.inr ⟨n2, l2, t1, tl3, ?_, f1, f2, ?_, ?_, fun q hq2 => ?_⟩
        · show I 3 1 = 1
          rw [t3, if_pos hbb.2]
        · rw [k1 65 (by decide) (by decide), g11 65 (by decide), t4, if_pos hbb.2]
        · rw [k1 66 (by decide) (by decide), g11 66 (by decide), f3]
        · rw [k1 4 (by decide) (by decide), gc, e67]
          by_cases e : j ≤ q ∧ q < j + g
          · rw [if_pos e, if_pos (by omega), e4 _ (by omega)]; congr 1; omega
          · rw [if_neg e, if_neg (by omega)]; exact f4 q hq2
  · have hbb : b = true ∧ b2 = true := ⟨Decidable.not_not.mp (fun q => c ((h01 h3).mpr q)), Decidable.not_not.mp (fun q => c2 ((h01 t3).mpr q))⟩
    replace c3 : ¬ zi l = zi l2 := fun q => c3 ((h5 hbb.1).1.trans (q.trans (t5 hbb.2).1.symm))
    unfold W_X7_faulted_r1
    exact hq _ _ _ rfl (fun Q2 h2 => K_copyR (by decide) (by decide) h1 t1 h4 t4 (fun q => (h5 q).2.2.1) (fun q => (t5 q).2.2.1) (fun c => absurd hbb c) (fun _ _ => h2 _ _ ⟨D, E, hv.ft 2⟩) (fun _ c => absurd c c3) (fun _ c => absurd c c3))
theorem OP_copy_c2_c1 {Ln : Nat} {xs : Nat → Int32} {I A : Nat → Nat → Int32} {v w u : Int32} {Q : Int32 → (Nat → Nat → Int32) → (Nat → Nat → Int32) → Prop} (hv : INV xs I A) (hq : ∀ x I' A', A' 0 = A 0 → (∀ Q2 : Int32 → (Nat → Nat → Int32) → (Nat → Nat → Int32) → Prop, (∀ I2 A2, INV xs I2 A2 → Q2 x I2 A2) → W_X8_copy_r44 Ln I' A' (zi (2 : Nat)) v (zi (1 : Nat)) w u Q2) → Q x I' A') : W_X7_copy_r1_c2_c1 Ln I A v w u Q := by
  obtain ⟨D, E, hv⟩ := hv
  obtain ⟨b, l, n, hs⟩ := hv.sh.at_2.d
  obtain ⟨b2, l2, n2, ht⟩ := hv.sh.at_1.d
  obtain ⟨h1, hl3, h3, h4, h5⟩ := hs
  obtain ⟨t1, tl3, t3, t4, t5⟩ := ht
  unfold W_X7_copy_r1_c2_c1
  refine C_isSheet_2 ⟨fun c => absurd c (by decide), fun _ => C_isSheet_1 ⟨fun _ => ?_, fun c => absurd (show (1 : Int32) ≠ 0 by decide) c⟩⟩
  have hnull : ¬ (b = true ∧ b2 = true) → J_X7_copy_r1_c2_c1_52 Ln I A v w u Q := by
    intro hb
    unfold J_X7_copy_r1_c2_c1_52 W_X7_faulted_r1
    exact hq _ _ _ rfl (fun Q2 h2 => K_copyR (by decide) (by decide) h1 t1 h4 t4 (fun q => (h5 q).2.2.1) (fun q => (t5 q).2.2.1) (fun _ => h2 _ _ ⟨D, E, hv.ft 1⟩) (fun c => absurd c hb) (fun c => absurd c hb) (fun c => absurd c hb))
  have hidx : b = true ∧ b2 = true → zi l = zi l2 → ¬ (0 ≤ u.toInt ∧ (0 ≤ v.toInt ∧ v.toInt + u.toInt ≤ n) ∧ 0 ≤ w.toInt ∧ w.toInt + u.toInt ≤ n2) → J_X7_copy_r1_c2_c1_105 Ln I A v w u Q := by
    intro hb hl hx
    unfold J_X7_copy_r1_c2_c1_105 W_X7_faulted_r1
    exact hq _ _ _ rfl (fun Q2 h2 => K_copyR (by decide) (by decide) h1 t1 h4 t4 (fun q => (h5 q).2.2.1) (fun q => (t5 q).2.2.1) (fun c => absurd hb c) (fun _ c => absurd hl c) (fun _ _ _ => h2 _ _ ⟨D, E, hv.ft 3⟩) (fun _ _ c => absurd c hx))
  have h01 : ∀ {b3 : Bool} {x : Int32}, x = (if b3 = true then 1 else 0) → (x = 0 ↔ ¬ b3 = true) := by
    rintro b3 x rfl
    cases b3 <;> decide
  refine ⟨fun c => hnull (fun q => (h01 h3).mp c q.1), fun c => ⟨fun c2 => ⟨fun c3 => ?_, fun c3 => ?_⟩, fun c2 => hnull (fun q => c2 (fun q2 => (h01 t3).mp q2 q.2))⟩⟩
  · have hbb : b = true ∧ b2 = true := ⟨Decidable.not_not.mp (fun q => c ((h01 h3).mpr q)), Decidable.not_not.mp (fun q => c2 ((h01 t3).mpr q))⟩
    obtain ⟨e1, e2, e3, e4⟩ := h5 hbb.1
    obtain ⟨f1, f2, f3, f4⟩ := t5 hbb.2
    replace c3 : zi l = zi l2 := e1.symm.trans (c3.trans f1)
    refine ⟨fun c4 => hidx hbb c3 (by rw [zlt0] at c4; omega), fun c4 => ?_⟩
    rw [zlt0] at c4
    refine C_holds_7 e2 h1 (by omega) (fun c5 => ⟨fun c6 => absurd c6 (by decide), fun _ => C_holds_5 f2 t1 (by omega) (fun c6 => ⟨fun _ => ?_, fun c7 => absurd (show (1 : Int32) ≠ 0 by decide) c7⟩) (fun c6 => ⟨fun c7 => absurd rfl c7, fun _ => hidx hbb c3 (by omega)⟩)⟩) (fun c5 => ⟨fun _ => hidx hbb c3 (by omega), fun c6 => absurd rfl c6⟩)
    obtain ⟨i, hi, rfl⟩ := zasn (v := v) (n := 61) ⟨c5.1, by omega⟩
    obtain ⟨j, hj, rfl⟩ := zasn (v := w) (n := 61) ⟨c6.1, by omega⟩
    obtain ⟨g, hg, rfl⟩ := zasn (v := u) (n := 61) ⟨by omega, by omega⟩
    rw [zi_toInt (by omega) (by omega), zi_toInt (by omega) (by omega)] at c5 c6
    rw [zi_nat' (by omega), zi_nat' (by omega), zi_nat' (by omega), zlt0, zlt0, zlt0, zi_toInt (by omega) (by omega), zi_toInt (by omega) (by omega), zi_toInt (by omega) (by omega)]
    refine ⟨by omega, by omega, by omega, by omega, by omega, fun A11 hA11 => ?_⟩
    have g11 : ∀ a, a ≠ 6 → A11 a = A a := fun a ha => by rw [hA11]; unfold zcp va_up; rw [if_neg ha]
    have gc : ∀ q, A11 6 q = if j ≤ q ∧ q < j + g then A 8 (i + (q - j)) else A 6 q := fun q => by rw [hA11]; rfl
    unfold W_X7_faultless_r1
    refine hq _ _ _ (g11 0 (by decide)) (fun Q2 h2 => K_copyR (n := n) (n2 := n2) (l := l) (l2 := l2) (b := b) (b2 := b2) (by decide) (by decide) h1 t1 (by rw [g11 65 (by decide)]; exact h4) (by rw [g11 65 (by decide)]; exact t4) (fun _ => by rw [g11 66 (by decide)]; exact e3) (fun _ => by rw [g11 66 (by decide)]; exact f3) (fun q => absurd hbb q) (fun _ q => absurd c3 q) (fun _ _ q => absurd ?_ q) (fun _ _ _ => ?_))
    · rw [zi_toInt (by omega) (by omega), zi_toInt (by omega) (by omega), zi_toInt (by omega) (by omega)]; omega
    · refine K_copyLoops (by decide) (by decide) (by omega) (by omega) (fun A2 k1 k2 => h2 _ _ ⟨D, E, ?_⟩)
      have e67 : ∀ q, A2 67 q = if 60 * 1 + j ≤ q ∧ q < 60 * 1 + j + g then A 67 (60 * 2 + i + (q - (60 * 1 + j))) else A 67 q := fun q => by rw [k2, g11 67 (by decide)]
      refine hv.stf (fun o k hk => (zpJ (f := zkI) rfl hk).trans (zpJ (f := zkI) rfl hk)) (fun a ha => ?_) ⟨rfl, rfl⟩ (by rw [zp_eq, zp_ne (by decide), zp_eq]) (hv.sh.set_1 (fun o j ho ho2 => by rw [zp_ne (by omega), zp_ne (by omega)]) (fun q hq2 => by rw [k1 65 (by decide) (by decide), g11 65 (by decide)]) (fun q hq2 => by rw [k1 66 (by decide) (by decide), g11 66 (by decide)]) (fun a ha ha2 => by rw [k1 a (by omega) (by omega), g11 a ha2]) (fun q hq2 => by rw [e67, if_neg (by omega)]) ?_)
      · rw [k1 a (by rintro rfl; cases ha) (by rintro rfl; cases ha), g11 a (by rintro rfl; cases ha)]
      · refine Or.inr ⟨n2, l2, t1, tl3, ?_, f1, f2, ?_, ?_, fun q hq2 => ?_⟩
        · show I 5 1 = 1
          rw [t3, if_pos hbb.2]
        · rw [k1 65 (by decide) (by decide), g11 65 (by decide), t4, if_pos hbb.2]
        · rw [k1 66 (by decide) (by decide), g11 66 (by decide), f3]
        · rw [k1 6 (by decide) (by decide), gc, e67]
          by_cases e : j ≤ q ∧ q < j + g
          · rw [if_pos e, if_pos (by omega), e4 _ (by omega)]; congr 1; omega
          · rw [if_neg e, if_neg (by omega)]; exact f4 q hq2
  · have hbb : b = true ∧ b2 = true := ⟨Decidable.not_not.mp (fun q => c ((h01 h3).mpr q)), Decidable.not_not.mp (fun q => c2 ((h01 t3).mpr q))⟩
    replace c3 : ¬ zi l = zi l2 := fun q => c3 ((h5 hbb.1).1.trans (q.trans (t5 hbb.2).1.symm))
    unfold W_X7_faulted_r1
    exact hq _ _ _ rfl (fun Q2 h2 => K_copyR (by decide) (by decide) h1 t1 h4 t4 (fun q => (h5 q).2.2.1) (fun q => (t5 q).2.2.1) (fun c => absurd hbb c) (fun _ _ => h2 _ _ ⟨D, E, hv.ft 2⟩) (fun _ c => absurd c c3) (fun _ c => absurd c c3))
theorem OP_copy_c2_c2 {Ln : Nat} {xs : Nat → Int32} {I A : Nat → Nat → Int32} {v w u : Int32} {Q : Int32 → (Nat → Nat → Int32) → (Nat → Nat → Int32) → Prop} (hv : INV xs I A) (hq : ∀ x I' A', A' 0 = A 0 → (∀ Q2 : Int32 → (Nat → Nat → Int32) → (Nat → Nat → Int32) → Prop, (∀ I2 A2, INV xs I2 A2 → Q2 x I2 A2) → W_X8_copy_r44 Ln I' A' (zi (2 : Nat)) v (zi (2 : Nat)) w u Q2) → Q x I' A') : W_X7_copy_r1_c2_c2 Ln I A v w u Q := by
  obtain ⟨D, E, hv⟩ := hv
  obtain ⟨b, l, n, hs⟩ := hv.sh.at_2.d
  obtain ⟨b2, l2, n2, ht⟩ := hv.sh.at_2.d
  obtain ⟨h1, hl3, h3, h4, h5⟩ := hs
  obtain ⟨t1, tl3, t3, t4, t5⟩ := ht
  unfold W_X7_copy_r1_c2_c2
  refine C_isSheet_2 ⟨fun c => absurd c (by decide), fun _ => C_isSheet_2 ⟨fun _ => ?_, fun c => absurd (show (1 : Int32) ≠ 0 by decide) c⟩⟩
  have hnull : ¬ (b = true ∧ b2 = true) → J_X7_copy_r1_c2_c2_52 Ln I A v w u Q := by
    intro hb
    unfold J_X7_copy_r1_c2_c2_52 W_X7_faulted_r1
    exact hq _ _ _ rfl (fun Q2 h2 => K_copyR (by decide) (by decide) h1 t1 h4 t4 (fun q => (h5 q).2.2.1) (fun q => (t5 q).2.2.1) (fun _ => h2 _ _ ⟨D, E, hv.ft 1⟩) (fun c => absurd c hb) (fun c => absurd c hb) (fun c => absurd c hb))
  have hidx : b = true ∧ b2 = true → zi l = zi l2 → ¬ (0 ≤ u.toInt ∧ (0 ≤ v.toInt ∧ v.toInt + u.toInt ≤ n) ∧ 0 ≤ w.toInt ∧ w.toInt + u.toInt ≤ n2) → J_X7_copy_r1_c2_c2_105 Ln I A v w u Q := by
    intro hb hl hx
    unfold J_X7_copy_r1_c2_c2_105 W_X7_faulted_r1
    exact hq _ _ _ rfl (fun Q2 h2 => K_copyR (by decide) (by decide) h1 t1 h4 t4 (fun q => (h5 q).2.2.1) (fun q => (t5 q).2.2.1) (fun c => absurd hb c) (fun _ c => absurd hl c) (fun _ _ _ => h2 _ _ ⟨D, E, hv.ft 3⟩) (fun _ _ c => absurd c hx))
  have h01 : ∀ {b3 : Bool} {x : Int32}, x = (if b3 = true then 1 else 0) → (x = 0 ↔ ¬ b3 = true) := by
    rintro b3 x rfl
    cases b3 <;> decide
  refine ⟨fun c => hnull (fun q => (h01 h3).mp c q.1), fun c => ⟨fun c2 => ⟨fun c3 => ?_, fun c3 => ?_⟩, fun c2 => hnull (fun q => c2 (fun q2 => (h01 t3).mp q2 q.2))⟩⟩
  · have hbb : b = true ∧ b2 = true := ⟨Decidable.not_not.mp (fun q => c ((h01 h3).mpr q)), Decidable.not_not.mp (fun q => c2 ((h01 t3).mpr q))⟩
    obtain ⟨e1, e2, e3, e4⟩ := h5 hbb.1
    obtain ⟨f1, f2, f3, f4⟩ := t5 hbb.2
    replace c3 : zi l = zi l2 := e1.symm.trans (c3.trans f1)
    refine ⟨fun c4 => hidx hbb c3 (by rw [zlt0] at c4; omega), fun c4 => ?_⟩
    rw [zlt0] at c4
    refine C_holds_7 e2 h1 (by omega) (fun c5 => ⟨fun c6 => absurd c6 (by decide), fun _ => C_holds_7 f2 t1 (by omega) (fun c6 => ⟨fun _ => ?_, fun c7 => absurd (show (1 : Int32) ≠ 0 by decide) c7⟩) (fun c6 => ⟨fun c7 => absurd rfl c7, fun _ => hidx hbb c3 (by omega)⟩)⟩) (fun c5 => ⟨fun _ => hidx hbb c3 (by omega), fun c6 => absurd rfl c6⟩)
    obtain ⟨i, hi, rfl⟩ := zasn (v := v) (n := 61) ⟨c5.1, by omega⟩
    obtain ⟨j, hj, rfl⟩ := zasn (v := w) (n := 61) ⟨c6.1, by omega⟩
    obtain ⟨g, hg, rfl⟩ := zasn (v := u) (n := 61) ⟨by omega, by omega⟩
    rw [zi_toInt (by omega) (by omega), zi_toInt (by omega) (by omega)] at c5 c6
    rw [zi_nat' (by omega), zi_nat' (by omega), zi_nat' (by omega), zlt0, zlt0, zlt0, zi_toInt (by omega) (by omega), zi_toInt (by omega) (by omega), zi_toInt (by omega) (by omega)]
    refine ⟨by omega, by omega, by omega, by omega, by omega, fun A11 hA11 => ?_⟩
    have g11 : ∀ a, a ≠ 8 → A11 a = A a := fun a ha => by rw [hA11]; unfold zcp va_up; rw [if_neg ha]
    have gc : ∀ q, A11 8 q = if j ≤ q ∧ q < j + g then A 8 (i + (q - j)) else A 8 q := fun q => by rw [hA11]; rfl
    unfold W_X7_faultless_r1
    refine hq _ _ _ (g11 0 (by decide)) (fun Q2 h2 => K_copyR (n := n) (n2 := n2) (l := l) (l2 := l2) (b := b) (b2 := b2) (by decide) (by decide) h1 t1 (by rw [g11 65 (by decide)]; exact h4) (by rw [g11 65 (by decide)]; exact t4) (fun _ => by rw [g11 66 (by decide)]; exact e3) (fun _ => by rw [g11 66 (by decide)]; exact f3) (fun q => absurd hbb q) (fun _ q => absurd c3 q) (fun _ _ q => absurd ?_ q) (fun _ _ _ => ?_))
    · rw [zi_toInt (by omega) (by omega), zi_toInt (by omega) (by omega), zi_toInt (by omega) (by omega)]; omega
    · refine K_copyLoops (by decide) (by decide) (by omega) (by omega) (fun A2 k1 k2 => h2 _ _ ⟨D, E, ?_⟩)
      have e67 : ∀ q, A2 67 q = if 60 * 2 + j ≤ q ∧ q < 60 * 2 + j + g then A 67 (60 * 2 + i + (q - (60 * 2 + j))) else A 67 q := fun q => by rw [k2, g11 67 (by decide)]
      refine hv.stf (fun o k hk => (zpJ (f := zkI) rfl hk).trans (zpJ (f := zkI) rfl hk)) (fun a ha => ?_) ⟨rfl, rfl⟩ (by rw [zp_eq, zp_ne (by decide), zp_eq]) (hv.sh.set_2 (fun o j ho ho2 => by rw [zp_ne (by omega), zp_ne (by omega)]) (fun q hq2 => by rw [k1 65 (by decide) (by decide), g11 65 (by decide)]) (fun q hq2 => by rw [k1 66 (by decide) (by decide), g11 66 (by decide)]) (fun a ha ha2 => by rw [k1 a (by omega) (by omega), g11 a ha2]) (fun q hq2 => by rw [e67, if_neg (by omega)]) ?_)
      · rw [k1 a (by rintro rfl; cases ha) (by rintro rfl; cases ha), g11 a (by rintro rfl; cases ha)]
      · refine Or.inr ⟨n2, l2, t1, tl3, ?_, f1, f2, ?_, ?_, fun q hq2 => ?_⟩
        · show I 7 1 = 1
          rw [t3, if_pos hbb.2]
        · rw [k1 65 (by decide) (by decide), g11 65 (by decide), t4, if_pos hbb.2]
        · rw [k1 66 (by decide) (by decide), g11 66 (by decide), f3]
        · rw [k1 8 (by decide) (by decide), gc, e67]
          by_cases e : j ≤ q ∧ q < j + g
          · rw [if_pos e, if_pos (by omega), e4 _ (by omega)]; congr 1; omega
          · rw [if_neg e, if_neg (by omega)]; exact f4 q hq2
  · have hbb : b = true ∧ b2 = true := ⟨Decidable.not_not.mp (fun q => c ((h01 h3).mpr q)), Decidable.not_not.mp (fun q => c2 ((h01 t3).mpr q))⟩
    replace c3 : ¬ zi l = zi l2 := fun q => c3 ((h5 hbb.1).1.trans (q.trans (t5 hbb.2).1.symm))
    unfold W_X7_faulted_r1
    exact hq _ _ _ rfl (fun Q2 h2 => K_copyR (by decide) (by decide) h1 t1 h4 t4 (fun q => (h5 q).2.2.1) (fun q => (t5 q).2.2.1) (fun c => absurd hbb c) (fun _ _ => h2 _ _ ⟨D, E, hv.ft 2⟩) (fun _ c => absurd c c3) (fun _ c => absurd c c3))
theorem OP_copy_c2_c3 {Ln : Nat} {xs : Nat → Int32} {I A : Nat → Nat → Int32} {v w u : Int32} {Q : Int32 → (Nat → Nat → Int32) → (Nat → Nat → Int32) → Prop} (hv : INV xs I A) (hq : ∀ x I' A', A' 0 = A 0 → (∀ Q2 : Int32 → (Nat → Nat → Int32) → (Nat → Nat → Int32) → Prop, (∀ I2 A2, INV xs I2 A2 → Q2 x I2 A2) → W_X8_copy_r44 Ln I' A' (zi (2 : Nat)) v (zi (3 : Nat)) w u Q2) → Q x I' A') : W_X7_copy_r1_c2_c3 Ln I A v w u Q := by
  obtain ⟨D, E, hv⟩ := hv
  obtain ⟨b, l, n, hs⟩ := hv.sh.at_2.d
  obtain ⟨b2, l2, n2, ht⟩ := hv.sh.at_3.d
  obtain ⟨h1, hl3, h3, h4, h5⟩ := hs
  obtain ⟨t1, tl3, t3, t4, t5⟩ := ht
  unfold W_X7_copy_r1_c2_c3
  refine C_isSheet_2 ⟨fun c => absurd c (by decide), fun _ => C_isSheet_3 ⟨fun _ => ?_, fun c => absurd (show (1 : Int32) ≠ 0 by decide) c⟩⟩
  have hnull : ¬ (b = true ∧ b2 = true) → J_X7_copy_r1_c2_c3_52 Ln I A v w u Q := by
    intro hb
    unfold J_X7_copy_r1_c2_c3_52 W_X7_faulted_r1
    exact hq _ _ _ rfl (fun Q2 h2 => K_copyR (by decide) (by decide) h1 t1 h4 t4 (fun q => (h5 q).2.2.1) (fun q => (t5 q).2.2.1) (fun _ => h2 _ _ ⟨D, E, hv.ft 1⟩) (fun c => absurd c hb) (fun c => absurd c hb) (fun c => absurd c hb))
  have hidx : b = true ∧ b2 = true → zi l = zi l2 → ¬ (0 ≤ u.toInt ∧ (0 ≤ v.toInt ∧ v.toInt + u.toInt ≤ n) ∧ 0 ≤ w.toInt ∧ w.toInt + u.toInt ≤ n2) → J_X7_copy_r1_c2_c3_105 Ln I A v w u Q := by
    intro hb hl hx
    unfold J_X7_copy_r1_c2_c3_105 W_X7_faulted_r1
    exact hq _ _ _ rfl (fun Q2 h2 => K_copyR (by decide) (by decide) h1 t1 h4 t4 (fun q => (h5 q).2.2.1) (fun q => (t5 q).2.2.1) (fun c => absurd hb c) (fun _ c => absurd hl c) (fun _ _ _ => h2 _ _ ⟨D, E, hv.ft 3⟩) (fun _ _ c => absurd c hx))
  have h01 : ∀ {b3 : Bool} {x : Int32}, x = (if b3 = true then 1 else 0) → (x = 0 ↔ ¬ b3 = true) := by
    rintro b3 x rfl
    cases b3 <;> decide
  refine ⟨fun c => hnull (fun q => (h01 h3).mp c q.1), fun c => ⟨fun c2 => ⟨fun c3 => ?_, fun c3 => ?_⟩, fun c2 => hnull (fun q => c2 (fun q2 => (h01 t3).mp q2 q.2))⟩⟩
  · have hbb : b = true ∧ b2 = true := ⟨Decidable.not_not.mp (fun q => c ((h01 h3).mpr q)), Decidable.not_not.mp (fun q => c2 ((h01 t3).mpr q))⟩
    obtain ⟨e1, e2, e3, e4⟩ := h5 hbb.1
    obtain ⟨f1, f2, f3, f4⟩ := t5 hbb.2
    replace c3 : zi l = zi l2 := e1.symm.trans (c3.trans f1)
    refine ⟨fun c4 => hidx hbb c3 (by rw [zlt0] at c4; omega), fun c4 => ?_⟩
    rw [zlt0] at c4
    refine C_holds_7 e2 h1 (by omega) (fun c5 => ⟨fun c6 => absurd c6 (by decide), fun _ => C_holds_9 f2 t1 (by omega) (fun c6 => ⟨fun _ => ?_, fun c7 => absurd (show (1 : Int32) ≠ 0 by decide) c7⟩) (fun c6 => ⟨fun c7 => absurd rfl c7, fun _ => hidx hbb c3 (by omega)⟩)⟩) (fun c5 => ⟨fun _ => hidx hbb c3 (by omega), fun c6 => absurd rfl c6⟩)
    obtain ⟨i, hi, rfl⟩ := zasn (v := v) (n := 61) ⟨c5.1, by omega⟩
    obtain ⟨j, hj, rfl⟩ := zasn (v := w) (n := 61) ⟨c6.1, by omega⟩
    obtain ⟨g, hg, rfl⟩ := zasn (v := u) (n := 61) ⟨by omega, by omega⟩
    rw [zi_toInt (by omega) (by omega), zi_toInt (by omega) (by omega)] at c5 c6
    rw [zi_nat' (by omega), zi_nat' (by omega), zi_nat' (by omega), zlt0, zlt0, zlt0, zi_toInt (by omega) (by omega), zi_toInt (by omega) (by omega), zi_toInt (by omega) (by omega)]
    refine ⟨by omega, by omega, by omega, by omega, by omega, fun A11 hA11 => ?_⟩
    have g11 : ∀ a, a ≠ 10 → A11 a = A a := fun a ha => by rw [hA11]; unfold zcp va_up; rw [if_neg ha]
    have gc : ∀ q, A11 10 q = if j ≤ q ∧ q < j + g then A 8 (i + (q - j)) else A 10 q := fun q => by rw [hA11]; rfl
    unfold W_X7_faultless_r1
    refine hq _ _ _ (g11 0 (by decide)) (fun Q2 h2 => K_copyR (n := n) (n2 := n2) (l := l) (l2 := l2) (b := b) (b2 := b2) (by decide) (by decide) h1 t1 (by rw [g11 65 (by decide)]; exact h4) (by rw [g11 65 (by decide)]; exact t4) (fun _ => by rw [g11 66 (by decide)]; exact e3) (fun _ => by rw [g11 66 (by decide)]; exact f3) (fun q => absurd hbb q) (fun _ q => absurd c3 q) (fun _ _ q => absurd ?_ q) (fun _ _ _ => ?_))
    · rw [zi_toInt (by omega) (by omega), zi_toInt (by omega) (by omega), zi_toInt (by omega) (by omega)]; omega
    · refine K_copyLoops (by decide) (by decide) (by omega) (by omega) (fun A2 k1 k2 => h2 _ _ ⟨D, E, ?_⟩)
      have e67 : ∀ q, A2 67 q = if 60 * 3 + j ≤ q ∧ q < 60 * 3 + j + g then A 67 (60 * 2 + i + (q - (60 * 3 + j))) else A 67 q := fun q => by rw [k2, g11 67 (by decide)]
      refine hv.stf (fun o k hk => (zpJ (f := zkI) rfl hk).trans (zpJ (f := zkI) rfl hk)) (fun a ha => ?_) ⟨rfl, rfl⟩ (by rw [zp_eq, zp_ne (by decide), zp_eq]) (hv.sh.set_3 (fun o j ho ho2 => by rw [zp_ne (by omega), zp_ne (by omega)]) (fun q hq2 => by rw [k1 65 (by decide) (by decide), g11 65 (by decide)]) (fun q hq2 => by rw [k1 66 (by decide) (by decide), g11 66 (by decide)]) (fun a ha ha2 => by rw [k1 a (by omega) (by omega), g11 a ha2]) (fun q hq2 => by rw [e67, if_neg (by omega)]) ?_)
      · rw [k1 a (by rintro rfl; cases ha) (by rintro rfl; cases ha), g11 a (by rintro rfl; cases ha)]
      · refine Or.inr ⟨n2, l2, t1, tl3, ?_, f1, f2, ?_, ?_, fun q hq2 => ?_⟩
        · show I 9 1 = 1
          rw [t3, if_pos hbb.2]
        · rw [k1 65 (by decide) (by decide), g11 65 (by decide), t4, if_pos hbb.2]
        · rw [k1 66 (by decide) (by decide), g11 66 (by decide), f3]
        · rw [k1 10 (by decide) (by decide), gc, e67]
          by_cases e : j ≤ q ∧ q < j + g
          · rw [if_pos e, if_pos (by omega), e4 _ (by omega)]; congr 1; omega
          · rw [if_neg e, if_neg (by omega)]; exact f4 q hq2
  · have hbb : b = true ∧ b2 = true := ⟨Decidable.not_not.mp (fun q => c ((h01 h3).mpr q)), Decidable.not_not.mp (fun q => c2 ((h01 t3).mpr q))⟩
    replace c3 : ¬ zi l = zi l2 := fun q => c3 ((h5 hbb.1).1.trans (q.trans (t5 hbb.2).1.symm))
    unfold W_X7_faulted_r1
    exact hq _ _ _ rfl (fun Q2 h2 => K_copyR (by decide) (by decide) h1 t1 h4 t4 (fun q => (h5 q).2.2.1) (fun q => (t5 q).2.2.1) (fun c => absurd hbb c) (fun _ _ => h2 _ _ ⟨D, E, hv.ft 2⟩) (fun _ c => absurd c c3) (fun _ c => absurd c c3))
theorem OP_copy_c3_c0 {Ln : Nat} {xs : Nat → Int32} {I A : Nat → Nat → Int32} {v w u : Int32} {Q : Int32 → (Nat → Nat → Int32) → (Nat → Nat → Int32) → Prop} (hv : INV xs I A) (hq : ∀ x I' A', A' 0 = A 0 → (∀ Q2 : Int32 → (Nat → Nat → Int32) → (Nat → Nat → Int32) → Prop, (∀ I2 A2, INV xs I2 A2 → Q2 x I2 A2) → W_X8_copy_r44 Ln I' A' (zi (3 : Nat)) v (zi (0 : Nat)) w u Q2) → Q x I' A') : W_X7_copy_r1_c3_c0 Ln I A v w u Q := by
  obtain ⟨D, E, hv⟩ := hv
  obtain ⟨b, l, n, hs⟩ := hv.sh.at_3.d
  obtain ⟨b2, l2, n2, ht⟩ := hv.sh.at_0.d
  obtain ⟨h1, hl3, h3, h4, h5⟩ := hs
  obtain ⟨t1, tl3, t3, t4, t5⟩ := ht
  unfold W_X7_copy_r1_c3_c0
  refine C_isSheet_3 ⟨fun c => absurd c (by decide), fun _ => C_isSheet_0 ⟨fun _ => ?_, fun c => absurd (show (1 : Int32) ≠ 0 by decide) c⟩⟩
  have hnull : ¬ (b = true ∧ b2 = true) → J_X7_copy_r1_c3_c0_52 Ln I A v w u Q := by
    intro hb
    unfold J_X7_copy_r1_c3_c0_52 W_X7_faulted_r1
    exact hq _ _ _ rfl (fun Q2 h2 => K_copyR (by decide) (by decide) h1 t1 h4 t4 (fun q => (h5 q).2.2.1) (fun q => (t5 q).2.2.1) (fun _ => h2 _ _ ⟨D, E, hv.ft 1⟩) (fun c => absurd c hb) (fun c => absurd c hb) (fun c => absurd c hb))
  have hidx : b = true ∧ b2 = true → zi l = zi l2 → ¬ (0 ≤ u.toInt ∧ (0 ≤ v.toInt ∧ v.toInt + u.toInt ≤ n) ∧ 0 ≤ w.toInt ∧ w.toInt + u.toInt ≤ n2) → J_X7_copy_r1_c3_c0_105 Ln I A v w u Q := by
    intro hb hl hx
    unfold J_X7_copy_r1_c3_c0_105 W_X7_faulted_r1
    exact hq _ _ _ rfl (fun Q2 h2 => K_copyR (by decide) (by decide) h1 t1 h4 t4 (fun q => (h5 q).2.2.1) (fun q => (t5 q).2.2.1) (fun c => absurd hb c) (fun _ c => absurd hl c) (fun _ _ _ => h2 _ _ ⟨D, E, hv.ft 3⟩) (fun _ _ c => absurd c hx))
  have h01 : ∀ {b3 : Bool} {x : Int32}, x = (if b3 = true then 1 else 0) → (x = 0 ↔ ¬ b3 = true) := by
    rintro b3 x rfl
    cases b3 <;> decide
  refine ⟨fun c => hnull (fun q => (h01 h3).mp c q.1), fun c => ⟨fun c2 => ⟨fun c3 => ?_, fun c3 => ?_⟩, fun c2 => hnull (fun q => c2 (fun q2 => (h01 t3).mp q2 q.2))⟩⟩
  · have hbb : b = true ∧ b2 = true := ⟨Decidable.not_not.mp (fun q => c ((h01 h3).mpr q)), Decidable.not_not.mp (fun q => c2 ((h01 t3).mpr q))⟩
    obtain ⟨e1, e2, e3, e4⟩ := h5 hbb.1
    obtain ⟨f1, f2, f3, f4⟩ := t5 hbb.2
    replace c3 : zi l = zi l2 := e1.symm.trans (c3.trans f1)
    refine ⟨fun c4 => hidx hbb c3 (by rw [zlt0] at c4; omega), fun c4 => ?_⟩
    rw [zlt0] at c4
    refine C_holds_9 e2 h1 (by omega) (fun c5 => ⟨fun c6 => absurd c6 (by decide), fun _ => C_holds_3 f2 t1 (by omega) (fun c6 => ⟨fun _ => ?_, fun c7 => absurd (show (1 : Int32) ≠ 0 by decide) c7⟩) (fun c6 => ⟨fun c7 => absurd rfl c7, fun _ => hidx hbb c3 (by omega)⟩)⟩) (fun c5 => ⟨fun _ => hidx hbb c3 (by omega), fun c6 => absurd rfl c6⟩)
    obtain ⟨i, hi, rfl⟩ := zasn (v := v) (n := 61) ⟨c5.1, by omega⟩
    obtain ⟨j, hj, rfl⟩ := zasn (v := w) (n := 61) ⟨c6.1, by omega⟩
    obtain ⟨g, hg, rfl⟩ := zasn (v := u) (n := 61) ⟨by omega, by omega⟩
    rw [zi_toInt (by omega) (by omega), zi_toInt (by omega) (by omega)] at c5 c6
    rw [zi_nat' (by omega), zi_nat' (by omega), zi_nat' (by omega), zlt0, zlt0, zlt0, zi_toInt (by omega) (by omega), zi_toInt (by omega) (by omega), zi_toInt (by omega) (by omega)]
    refine ⟨by omega, by omega, by omega, by omega, by omega, fun A11 hA11 => ?_⟩
    have g11 : ∀ a, a ≠ 4 → A11 a = A a := fun a ha => by rw [hA11]; unfold zcp va_up; rw [if_neg ha]
    have gc : ∀ q, A11 4 q = if j ≤ q ∧ q < j + g then A 10 (i + (q - j)) else A 4 q := fun q => by rw [hA11]; rfl
    unfold W_X7_faultless_r1
    refine hq _ _ _ (g11 0 (by decide)) (fun Q2 h2 => K_copyR (n := n) (n2 := n2) (l := l) (l2 := l2) (b := b) (b2 := b2) (by decide) (by decide) h1 t1 (by rw [g11 65 (by decide)]; exact h4) (by rw [g11 65 (by decide)]; exact t4) (fun _ => by rw [g11 66 (by decide)]; exact e3) (fun _ => by rw [g11 66 (by decide)]; exact f3) (fun q => absurd hbb q) (fun _ q => absurd c3 q) (fun _ _ q => absurd ?_ q) (fun _ _ _ => ?_))
    · rw [zi_toInt (by omega) (by omega), zi_toInt (by omega) (by omega), zi_toInt (by omega) (by omega)]; omega
    · refine K_copyLoops (by decide) (by decide) (by omega) (by omega) (fun A2 k1 k2 => h2 _ _ ⟨D, E, ?_⟩)
      have e67 : ∀ q, A2 67 q = if 60 * 0 + j ≤ q ∧ q < 60 * 0 + j + g then A 67 (60 * 3 + i + (q - (60 * 0 + j))) else A 67 q := fun q => by rw [k2, g11 67 (by decide)]
      refine hv.stf (fun o k hk => (zpJ (f := zkI) rfl hk).trans (zpJ (f := zkI) rfl hk)) (fun a ha => ?_) ⟨rfl, rfl⟩ (by rw [zp_eq, zp_ne (by decide), zp_eq]) (hv.sh.set_0 (fun o j ho ho2 => by rw [zp_ne (by omega), zp_ne (by omega)]) (fun q hq2 => by rw [k1 65 (by decide) (by decide), g11 65 (by decide)]) (fun q hq2 => by rw [k1 66 (by decide) (by decide), g11 66 (by decide)]) (fun a ha ha2 => by rw [k1 a (by omega) (by omega), g11 a ha2]) (fun q hq2 => by rw [e67, if_neg (by omega)]) ?_)
      · rw [k1 a (by rintro rfl; cases ha) (by rintro rfl; cases ha), g11 a (by rintro rfl; cases ha)]
      · refine Or.inr ⟨n2, l2, t1, tl3, ?_, f1, f2, ?_, ?_, fun q hq2 => ?_⟩
        · show I 3 1 = 1
          rw [t3, if_pos hbb.2]
        · rw [k1 65 (by decide) (by decide), g11 65 (by decide), t4, if_pos hbb.2]
        · rw [k1 66 (by decide) (by decide), g11 66 (by decide), f3]
        · rw [k1 4 (by decide) (by decide), gc, e67]
          by_cases e : j ≤ q ∧ q < j + g
          · rw [if_pos e, if_pos (by omega), e4 _ (by omega)]; congr 1; omega
          · rw [if_neg e, if_neg (by omega)]; exact f4 q hq2
  · have hbb : b = true ∧ b2 = true := ⟨Decidable.not_not.mp (fun q => c ((h01 h3).mpr q)), Decidable.not_not.mp (fun q => c2 ((h01 t3).mpr q))⟩
    replace c3 : ¬ zi l = zi l2 := fun q => c3 ((h5 hbb.1).1.trans (q.trans (t5 hbb.2).1.symm))
    unfold W_X7_faulted_r1
    exact hq _ _ _ rfl (fun Q2 h2 => K_copyR (by decide) (by decide) h1 t1 h4 t4 (fun q => (h5 q).2.2.1) (fun q => (t5 q).2.2.1) (fun c => absurd hbb c) (fun _ _ => h2 _ _ ⟨D, E, hv.ft 2⟩) (fun _ c => absurd c c3) (fun _ c => absurd c c3))
theorem OP_copy_c3_c1 {Ln : Nat} {xs : Nat → Int32} {I A : Nat → Nat → Int32} {v w u : Int32} {Q : Int32 → (Nat → Nat → Int32) → (Nat → Nat → Int32) → Prop} (hv : INV xs I A) (hq : ∀ x I' A', A' 0 = A 0 → (∀ Q2 : Int32 → (Nat → Nat → Int32) → (Nat → Nat → Int32) → Prop, (∀ I2 A2, INV xs I2 A2 → Q2 x I2 A2) → W_X8_copy_r44 Ln I' A' (zi (3 : Nat)) v (zi (1 : Nat)) w u Q2) → Q x I' A') : W_X7_copy_r1_c3_c1 Ln I A v w u Q := by
  obtain ⟨D, E, hv⟩ := hv
  obtain ⟨b, l, n, hs⟩ := hv.sh.at_3.d
  obtain ⟨b2, l2, n2, ht⟩ := hv.sh.at_1.d
  obtain ⟨h1, hl3, h3, h4, h5⟩ := hs
  obtain ⟨t1, tl3, t3, t4, t5⟩ := ht
  unfold W_X7_copy_r1_c3_c1
  refine C_isSheet_3 ⟨fun c => absurd c (by decide), fun _ => C_isSheet_1 ⟨fun _ => ?_, fun c => absurd (show (1 : Int32) ≠ 0 by decide) c⟩⟩
  have hnull : ¬ (b = true ∧ b2 = true) → J_X7_copy_r1_c3_c1_52 Ln I A v w u Q := by
    intro hb
    unfold J_X7_copy_r1_c3_c1_52 W_X7_faulted_r1
    exact hq _ _ _ rfl (fun Q2 h2 => K_copyR (by decide) (by decide) h1 t1 h4 t4 (fun q => (h5 q).2.2.1) (fun q => (t5 q).2.2.1) (fun _ => h2 _ _ ⟨D, E, hv.ft 1⟩) (fun c => absurd c hb) (fun c => absurd c hb) (fun c => absurd c hb))
  have hidx : b = true ∧ b2 = true → zi l = zi l2 → ¬ (0 ≤ u.toInt ∧ (0 ≤ v.toInt ∧ v.toInt + u.toInt ≤ n) ∧ 0 ≤ w.toInt ∧ w.toInt + u.toInt ≤ n2) → J_X7_copy_r1_c3_c1_105 Ln I A v w u Q := by
    intro hb hl hx
    unfold J_X7_copy_r1_c3_c1_105 W_X7_faulted_r1
    exact hq _ _ _ rfl (fun Q2 h2 => K_copyR (by decide) (by decide) h1 t1 h4 t4 (fun q => (h5 q).2.2.1) (fun q => (t5 q).2.2.1) (fun c => absurd hb c) (fun _ c => absurd hl c) (fun _ _ _ => h2 _ _ ⟨D, E, hv.ft 3⟩) (fun _ _ c => absurd c hx))
  have h01 : ∀ {b3 : Bool} {x : Int32}, x = (if b3 = true then 1 else 0) → (x = 0 ↔ ¬ b3 = true) := by
    rintro b3 x rfl
    cases b3 <;> decide
  refine ⟨fun c => hnull (fun q => (h01 h3).mp c q.1), fun c => ⟨fun c2 => ⟨fun c3 => ?_, fun c3 => ?_⟩, fun c2 => hnull (fun q => c2 (fun q2 => (h01 t3).mp q2 q.2))⟩⟩
  · have hbb : b = true ∧ b2 = true := ⟨Decidable.not_not.mp (fun q => c ((h01 h3).mpr q)), Decidable.not_not.mp (fun q => c2 ((h01 t3).mpr q))⟩
    obtain ⟨e1, e2, e3, e4⟩ := h5 hbb.1
    obtain ⟨f1, f2, f3, f4⟩ := t5 hbb.2
    replace c3 : zi l = zi l2 := e1.symm.trans (c3.trans f1)
    refine ⟨fun c4 => hidx hbb c3 (by rw [zlt0] at c4; omega), fun c4 => ?_⟩
    rw [zlt0] at c4
    refine C_holds_9 e2 h1 (by omega) (fun c5 => ⟨fun c6 => absurd c6 (by decide), fun _ => C_holds_5 f2 t1 (by omega) (fun c6 => ⟨fun _ => ?_, fun c7 => absurd (show (1 : Int32) ≠ 0 by decide) c7⟩) (fun c6 => ⟨fun c7 => absurd rfl c7, fun _ => hidx hbb c3 (by omega)⟩)⟩) (fun c5 => ⟨fun _ => hidx hbb c3 (by omega), fun c6 => absurd rfl c6⟩)
    obtain ⟨i, hi, rfl⟩ := zasn (v := v) (n := 61) ⟨c5.1, by omega⟩
    obtain ⟨j, hj, rfl⟩ := zasn (v := w) (n := 61) ⟨c6.1, by omega⟩
    obtain ⟨g, hg, rfl⟩ := zasn (v := u) (n := 61) ⟨by omega, by omega⟩
    rw [zi_toInt (by omega) (by omega), zi_toInt (by omega) (by omega)] at c5 c6
    rw [zi_nat' (by omega), zi_nat' (by omega), zi_nat' (by omega), zlt0, zlt0, zlt0, zi_toInt (by omega) (by omega), zi_toInt (by omega) (by omega), zi_toInt (by omega) (by omega)]
    refine ⟨by omega, by omega, by omega, by omega, by omega, fun A11 hA11 => ?_⟩
    have g11 : ∀ a, a ≠ 6 → A11 a = A a := fun a ha => by rw [hA11]; unfold zcp va_up; rw [if_neg ha]
    have gc : ∀ q, A11 6 q = if j ≤ q ∧ q < j + g then A 10 (i + (q - j)) else A 6 q := fun q => by rw [hA11]; rfl
    unfold W_X7_faultless_r1
    refine hq _ _ _ (g11 0 (by decide)) (fun Q2 h2 => K_copyR (n := n) (n2 := n2) (l := l) (l2 := l2) (b := b) (b2 := b2) (by decide) (by decide) h1 t1 (by rw [g11 65 (by decide)]; exact h4) (by rw [g11 65 (by decide)]; exact t4) (fun _ => by rw [g11 66 (by decide)]; exact e3) (fun _ => by rw [g11 66 (by decide)]; exact f3) (fun q => absurd hbb q) (fun _ q => absurd c3 q) (fun _ _ q => absurd ?_ q) (fun _ _ _ => ?_))
    · rw [zi_toInt (by omega) (by omega), zi_toInt (by omega) (by omega), zi_toInt (by omega) (by omega)]; omega
    · refine K_copyLoops (by decide) (by decide) (by omega) (by omega) (fun A2 k1 k2 => h2 _ _ ⟨D, E, ?_⟩)
      have e67 : ∀ q, A2 67 q = if 60 * 1 + j ≤ q ∧ q < 60 * 1 + j + g then A 67 (60 * 3 + i + (q - (60 * 1 + j))) else A 67 q := fun q => by rw [k2, g11 67 (by decide)]
      refine hv.stf (fun o k hk => (zpJ (f := zkI) rfl hk).trans (zpJ (f := zkI) rfl hk)) (fun a ha => ?_) ⟨rfl, rfl⟩ (by rw [zp_eq, zp_ne (by decide), zp_eq]) (hv.sh.set_1 (fun o j ho ho2 => by rw [zp_ne (by omega), zp_ne (by omega)]) (fun q hq2 => by rw [k1 65 (by decide) (by decide), g11 65 (by decide)]) (fun q hq2 => by rw [k1 66 (by decide) (by decide), g11 66 (by decide)]) (fun a ha ha2 => by rw [k1 a (by omega) (by omega), g11 a ha2]) (fun q hq2 => by rw [e67, if_neg (by omega)]) ?_)
      · rw [k1 a (by rintro rfl; cases ha) (by rintro rfl; cases ha), g11 a (by rintro rfl; cases ha)]
      · refine Or.inr ⟨n2, l2, t1, tl3, ?_, f1, f2, ?_, ?_, fun q hq2 => ?_⟩
        · show I 5 1 = 1
          rw [t3, if_pos hbb.2]
        · rw [k1 65 (by decide) (by decide), g11 65 (by decide), t4, if_pos hbb.2]
        · rw [k1 66 (by decide) (by decide), g11 66 (by decide), f3]
        · rw [k1 6 (by decide) (by decide), gc, e67]
          by_cases e : j ≤ q ∧ q < j + g
          · rw [if_pos e, if_pos (by omega), e4 _ (by omega)]; congr 1; omega
          · rw [if_neg e, if_neg (by omega)]; exact f4 q hq2
  · have hbb : b = true ∧ b2 = true := ⟨Decidable.not_not.mp (fun q => c ((h01 h3).mpr q)), Decidable.not_not.mp (fun q => c2 ((h01 t3).mpr q))⟩
    replace c3 : ¬ zi l = zi l2 := fun q => c3 ((h5 hbb.1).1.trans (q.trans (t5 hbb.2).1.symm))
    unfold W_X7_faulted_r1
    exact hq _ _ _ rfl (fun Q2 h2 => K_copyR (by decide) (by decide) h1 t1 h4 t4 (fun q => (h5 q).2.2.1) (fun q => (t5 q).2.2.1) (fun c => absurd hbb c) (fun _ _ => h2 _ _ ⟨D, E, hv.ft 2⟩) (fun _ c => absurd c c3) (fun _ c => absurd c c3))
theorem OP_copy_c3_c2 {Ln : Nat} {xs : Nat → Int32} {I A : Nat → Nat → Int32} {v w u : Int32} {Q : Int32 → (Nat → Nat → Int32) → (Nat → Nat → Int32) → Prop} (hv : INV xs I A) (hq : ∀ x I' A', A' 0 = A 0 → (∀ Q2 : Int32 → (Nat → Nat → Int32) → (Nat → Nat → Int32) → Prop, (∀ I2 A2, INV xs I2 A2 → Q2 x I2 A2) → W_X8_copy_r44 Ln I' A' (zi (3 : Nat)) v (zi (2 : Nat)) w u Q2) → Q x I' A') : W_X7_copy_r1_c3_c2 Ln I A v w u Q := by
  obtain ⟨D, E, hv⟩ := hv
  obtain ⟨b, l, n, hs⟩ := hv.sh.at_3.d
  obtain ⟨b2, l2, n2, ht⟩ := hv.sh.at_2.d
  obtain ⟨h1, hl3, h3, h4, h5⟩ := hs
  obtain ⟨t1, tl3, t3, t4, t5⟩ := ht
  unfold W_X7_copy_r1_c3_c2
  refine C_isSheet_3 ⟨fun c => absurd c (by decide), fun _ => C_isSheet_2 ⟨fun _ => ?_, fun c => absurd (show (1 : Int32) ≠ 0 by decide) c⟩⟩
  have hnull : ¬ (b = true ∧ b2 = true) → J_X7_copy_r1_c3_c2_52 Ln I A v w u Q := by
    intro hb
    unfold J_X7_copy_r1_c3_c2_52 W_X7_faulted_r1
    exact hq _ _ _ rfl (fun Q2 h2 => K_copyR (by decide) (by decide) h1 t1 h4 t4 (fun q => (h5 q).2.2.1) (fun q => (t5 q).2.2.1) (fun _ => h2 _ _ ⟨D, E, hv.ft 1⟩) (fun c => absurd c hb) (fun c => absurd c hb) (fun c => absurd c hb))
  have hidx : b = true ∧ b2 = true → zi l = zi l2 → ¬ (0 ≤ u.toInt ∧ (0 ≤ v.toInt ∧ v.toInt + u.toInt ≤ n) ∧ 0 ≤ w.toInt ∧ w.toInt + u.toInt ≤ n2) → J_X7_copy_r1_c3_c2_105 Ln I A v w u Q := by
    intro hb hl hx
    unfold J_X7_copy_r1_c3_c2_105 W_X7_faulted_r1
    exact hq _ _ _ rfl (fun Q2 h2 => K_copyR (by decide) (by decide) h1 t1 h4 t4 (fun q => (h5 q).2.2.1) (fun q => (t5 q).2.2.1) (fun c => absurd hb c) (fun _ c => absurd hl c) (fun _ _ _ => h2 _ _ ⟨D, E, hv.ft 3⟩) (fun _ _ c => absurd c hx))
  have h01 : ∀ {b3 : Bool} {x : Int32}, x = (if b3 = true then 1 else 0) → (x = 0 ↔ ¬ b3 = true) := by
    rintro b3 x rfl
    cases b3 <;> decide
  refine ⟨fun c => hnull (fun q => (h01 h3).mp c q.1), fun c => ⟨fun c2 => ⟨fun c3 => ?_, fun c3 => ?_⟩, fun c2 => hnull (fun q => c2 (fun q2 => (h01 t3).mp q2 q.2))⟩⟩
  · have hbb : b = true ∧ b2 = true := ⟨Decidable.not_not.mp (fun q => c ((h01 h3).mpr q)), Decidable.not_not.mp (fun q => c2 ((h01 t3).mpr q))⟩
    obtain ⟨e1, e2, e3, e4⟩ := h5 hbb.1
    obtain ⟨f1, f2, f3, f4⟩ := t5 hbb.2
    replace c3 : zi l = zi l2 := e1.symm.trans (c3.trans f1)
    refine ⟨fun c4 => hidx hbb c3 (by rw [zlt0] at c4; omega), fun c4 => ?_⟩
    rw [zlt0] at c4
    refine C_holds_9 e2 h1 (by omega) (fun c5 => ⟨fun c6 => absurd c6 (by decide), fun _ => C_holds_7 f2 t1 (by omega) (fun c6 => ⟨fun _ => ?_, fun c7 => absurd (show (1 : Int32) ≠ 0 by decide) c7⟩) (fun c6 => ⟨fun c7 => absurd rfl c7, fun _ => hidx hbb c3 (by omega)⟩)⟩) (fun c5 => ⟨fun _ => hidx hbb c3 (by omega), fun c6 => absurd rfl c6⟩)
    obtain ⟨i, hi, rfl⟩ := zasn (v := v) (n := 61) ⟨c5.1, by omega⟩
    obtain ⟨j, hj, rfl⟩ := zasn (v := w) (n := 61) ⟨c6.1, by omega⟩
    obtain ⟨g, hg, rfl⟩ := zasn (v := u) (n := 61) ⟨by omega, by omega⟩
    rw [zi_toInt (by omega) (by omega), zi_toInt (by omega) (by omega)] at c5 c6
    rw [zi_nat' (by omega), zi_nat' (by omega), zi_nat' (by omega), zlt0, zlt0, zlt0, zi_toInt (by omega) (by omega), zi_toInt (by omega) (by omega), zi_toInt (by omega) (by omega)]
    refine ⟨by omega, by omega, by omega, by omega, by omega, fun A11 hA11 => ?_⟩
    have g11 : ∀ a, a ≠ 8 → A11 a = A a := fun a ha => by rw [hA11]; unfold zcp va_up; rw [if_neg ha]
    have gc : ∀ q, A11 8 q = if j ≤ q ∧ q < j + g then A 10 (i + (q - j)) else A 8 q := fun q => by rw [hA11]; rfl
    unfold W_X7_faultless_r1
    refine hq _ _ _ (g11 0 (by decide)) (fun Q2 h2 => K_copyR (n := n) (n2 := n2) (l := l) (l2 := l2) (b := b) (b2 := b2) (by decide) (by decide) h1 t1 (by rw [g11 65 (by decide)]; exact h4) (by rw [g11 65 (by decide)]; exact t4) (fun _ => by rw [g11 66 (by decide)]; exact e3) (fun _ => by rw [g11 66 (by decide)]; exact f3) (fun q => absurd hbb q) (fun _ q => absurd c3 q) (fun _ _ q => absurd ?_ q) (fun _ _ _ => ?_))
    · rw [zi_toInt (by omega) (by omega), zi_toInt (by omega) (by omega), zi_toInt (by omega) (by omega)]; omega
    · refine K_copyLoops (by decide) (by decide) (by omega) (by omega) (fun A2 k1 k2 => h2 _ _ ⟨D, E, ?_⟩)
      have e67 : ∀ q, A2 67 q = if 60 * 2 + j ≤ q ∧ q < 60 * 2 + j + g then A 67 (60 * 3 + i + (q - (60 * 2 + j))) else A 67 q := fun q => by rw [k2, g11 67 (by decide)]
      refine hv.stf (fun o k hk => (zpJ (f := zkI) rfl hk).trans (zpJ (f := zkI) rfl hk)) (fun a ha => ?_) ⟨rfl, rfl⟩ (by rw [zp_eq, zp_ne (by decide), zp_eq]) (hv.sh.set_2 (fun o j ho ho2 => by rw [zp_ne (by omega), zp_ne (by omega)]) (fun q hq2 => by rw [k1 65 (by decide) (by decide), g11 65 (by decide)]) (fun q hq2 => by rw [k1 66 (by decide) (by decide), g11 66 (by decide)]) (fun a ha ha2 => by rw [k1 a (by omega) (by omega), g11 a ha2]) (fun q hq2 => by rw [e67, if_neg (by omega)]) ?_)
      · rw [k1 a (by rintro rfl; cases ha) (by rintro rfl; cases ha), g11 a (by rintro rfl; cases ha)]
      · refine Or.inr ⟨n2, l2, t1, tl3, ?_, f1, f2, ?_, ?_, fun q hq2 => ?_⟩
        · show I 7 1 = 1
          rw [t3, if_pos hbb.2]
        · rw [k1 65 (by decide) (by decide), g11 65 (by decide), t4, if_pos hbb.2]
        · rw [k1 66 (by decide) (by decide), g11 66 (by decide), f3]
        · rw [k1 8 (by decide) (by decide), gc, e67]
          by_cases e : j ≤ q ∧ q < j + g
          · rw [if_pos e, if_pos (by omega), e4 _ (by omega)]; congr 1; omega
          · rw [if_neg e, if_neg (by omega)]; exact f4 q hq2
  · have hbb : b = true ∧ b2 = true := ⟨Decidable.not_not.mp (fun q => c ((h01 h3).mpr q)), Decidable.not_not.mp (fun q => c2 ((h01 t3).mpr q))⟩
    replace c3 : ¬ zi l = zi l2 := fun q => c3 ((h5 hbb.1).1.trans (q.trans (t5 hbb.2).1.symm))
    unfold W_X7_faulted_r1
    exact hq _ _ _ rfl (fun Q2 h2 => K_copyR (by decide) (by decide) h1 t1 h4 t4 (fun q => (h5 q).2.2.1) (fun q => (t5 q).2.2.1) (fun c => absurd hbb c) (fun _ _ => h2 _ _ ⟨D, E, hv.ft 2⟩) (fun _ c => absurd c c3) (fun _ c => absurd c c3))
theorem OP_copy_c3_c3 {Ln : Nat} {xs : Nat → Int32} {I A : Nat → Nat → Int32} {v w u : Int32} {Q : Int32 → (Nat → Nat → Int32) → (Nat → Nat → Int32) → Prop} (hv : INV xs I A) (hq : ∀ x I' A', A' 0 = A 0 → (∀ Q2 : Int32 → (Nat → Nat → Int32) → (Nat → Nat → Int32) → Prop, (∀ I2 A2, INV xs I2 A2 → Q2 x I2 A2) → W_X8_copy_r44 Ln I' A' (zi (3 : Nat)) v (zi (3 : Nat)) w u Q2) → Q x I' A') : W_X7_copy_r1_c3_c3 Ln I A v w u Q := by
  obtain ⟨D, E, hv⟩ := hv
  obtain ⟨b, l, n, hs⟩ := hv.sh.at_3.d
  obtain ⟨b2, l2, n2, ht⟩ := hv.sh.at_3.d
  obtain ⟨h1, hl3, h3, h4, h5⟩ := hs
  obtain ⟨t1, tl3, t3, t4, t5⟩ := ht
  unfold W_X7_copy_r1_c3_c3
  refine C_isSheet_3 ⟨fun c => absurd c (by decide), fun _ => C_isSheet_3 ⟨fun _ => ?_, fun c => absurd (show (1 : Int32) ≠ 0 by decide) c⟩⟩
  have hnull : ¬ (b = true ∧ b2 = true) → J_X7_copy_r1_c3_c3_52 Ln I A v w u Q := by
    intro hb
    unfold J_X7_copy_r1_c3_c3_52 W_X7_faulted_r1
    exact hq _ _ _ rfl (fun Q2 h2 => K_copyR (by decide) (by decide) h1 t1 h4 t4 (fun q => (h5 q).2.2.1) (fun q => (t5 q).2.2.1) (fun _ => h2 _ _ ⟨D, E, hv.ft 1⟩) (fun c => absurd c hb) (fun c => absurd c hb) (fun c => absurd c hb))
  have hidx : b = true ∧ b2 = true → zi l = zi l2 → ¬ (0 ≤ u.toInt ∧ (0 ≤ v.toInt ∧ v.toInt + u.toInt ≤ n) ∧ 0 ≤ w.toInt ∧ w.toInt + u.toInt ≤ n2) → J_X7_copy_r1_c3_c3_105 Ln I A v w u Q := by
    intro hb hl hx
    unfold J_X7_copy_r1_c3_c3_105 W_X7_faulted_r1
    exact hq _ _ _ rfl (fun Q2 h2 => K_copyR (by decide) (by decide) h1 t1 h4 t4 (fun q => (h5 q).2.2.1) (fun q => (t5 q).2.2.1) (fun c => absurd hb c) (fun _ c => absurd hl c) (fun _ _ _ => h2 _ _ ⟨D, E, hv.ft 3⟩) (fun _ _ c => absurd c hx))
  have h01 : ∀ {b3 : Bool} {x : Int32}, x = (if b3 = true then 1 else 0) → (x = 0 ↔ ¬ b3 = true) := by
    rintro b3 x rfl
    cases b3 <;> decide
  refine ⟨fun c => hnull (fun q => (h01 h3).mp c q.1), fun c => ⟨fun c2 => ⟨fun c3 => ?_, fun c3 => ?_⟩, fun c2 => hnull (fun q => c2 (fun q2 => (h01 t3).mp q2 q.2))⟩⟩
  · have hbb : b = true ∧ b2 = true := ⟨Decidable.not_not.mp (fun q => c ((h01 h3).mpr q)), Decidable.not_not.mp (fun q => c2 ((h01 t3).mpr q))⟩
    obtain ⟨e1, e2, e3, e4⟩ := h5 hbb.1
    obtain ⟨f1, f2, f3, f4⟩ := t5 hbb.2
    replace c3 : zi l = zi l2 := e1.symm.trans (c3.trans f1)
    refine ⟨fun c4 => hidx hbb c3 (by rw [zlt0] at c4; omega), fun c4 => ?_⟩
    rw [zlt0] at c4
    refine C_holds_9 e2 h1 (by omega) (fun c5 => ⟨fun c6 => absurd c6 (by decide), fun _ => C_holds_9 f2 t1 (by omega) (fun c6 => ⟨fun _ => ?_, fun c7 => absurd (show (1 : Int32) ≠ 0 by decide) c7⟩) (fun c6 => ⟨fun c7 => absurd rfl c7, fun _ => hidx hbb c3 (by omega)⟩)⟩) (fun c5 => ⟨fun _ => hidx hbb c3 (by omega), fun c6 => absurd rfl c6⟩)
    obtain ⟨i, hi, rfl⟩ := zasn (v := v) (n := 61) ⟨c5.1, by omega⟩
    obtain ⟨j, hj, rfl⟩ := zasn (v := w) (n := 61) ⟨c6.1, by omega⟩
    obtain ⟨g, hg, rfl⟩ := zasn (v := u) (n := 61) ⟨by omega, by omega⟩
    rw [zi_toInt (by omega) (by omega), zi_toInt (by omega) (by omega)] at c5 c6
    rw [zi_nat' (by omega), zi_nat' (by omega), zi_nat' (by omega), zlt0, zlt0, zlt0, zi_toInt (by omega) (by omega), zi_toInt (by omega) (by omega), zi_toInt (by omega) (by omega)]
    refine ⟨by omega, by omega, by omega, by omega, by omega, fun A11 hA11 => ?_⟩
    have g11 : ∀ a, a ≠ 10 → A11 a = A a := fun a ha => by rw [hA11]; unfold zcp va_up; rw [if_neg ha]
    have gc : ∀ q, A11 10 q = if j ≤ q ∧ q < j + g then A 10 (i + (q - j)) else A 10 q := fun q => by rw [hA11]; rfl
    unfold W_X7_faultless_r1
    refine hq _ _ _ (g11 0 (by decide)) (fun Q2 h2 => K_copyR (n := n) (n2 := n2) (l := l) (l2 := l2) (b := b) (b2 := b2) (by decide) (by decide) h1 t1 (by rw [g11 65 (by decide)]; exact h4) (by rw [g11 65 (by decide)]; exact t4) (fun _ => by rw [g11 66 (by decide)]; exact e3) (fun _ => by rw [g11 66 (by decide)]; exact f3) (fun q => absurd hbb q) (fun _ q => absurd c3 q) (fun _ _ q => absurd ?_ q) (fun _ _ _ => ?_))
    · rw [zi_toInt (by omega) (by omega), zi_toInt (by omega) (by omega), zi_toInt (by omega) (by omega)]; omega
    · refine K_copyLoops (by decide) (by decide) (by omega) (by omega) (fun A2 k1 k2 => h2 _ _ ⟨D, E, ?_⟩)
      have e67 : ∀ q, A2 67 q = if 60 * 3 + j ≤ q ∧ q < 60 * 3 + j + g then A 67 (60 * 3 + i + (q - (60 * 3 + j))) else A 67 q := fun q => by rw [k2, g11 67 (by decide)]
      refine hv.stf (fun o k hk => (zpJ (f := zkI) rfl hk).trans (zpJ (f := zkI) rfl hk)) (fun a ha => ?_) ⟨rfl, rfl⟩ (by rw [zp_eq, zp_ne (by decide), zp_eq]) (hv.sh.set_3 (fun o j ho ho2 => by rw [zp_ne (by omega), zp_ne (by omega)]) (fun q hq2 => by rw [k1 65 (by decide) (by decide), g11 65 (by decide)]) (fun q hq2 => by rw [k1 66 (by decide) (by decide), g11 66 (by decide)]) (fun a ha ha2 => by rw [k1 a (by omega) (by omega), g11 a ha2]) (fun q hq2 => by rw [e67, if_neg (by omega)]) ?_)
      · rw [k1 a (by rintro rfl; cases ha) (by rintro rfl; cases ha), g11 a (by rintro rfl; cases ha)]
      · refine Or.inr ⟨n2, l2, t1, tl3, ?_, f1, f2, ?_, ?_, fun q hq2 => ?_⟩
        · show I 9 1 = 1
          rw [t3, if_pos hbb.2]
        · rw [k1 65 (by decide) (by decide), g11 65 (by decide), t4, if_pos hbb.2]
        · rw [k1 66 (by decide) (by decide), g11 66 (by decide), f3]
        · rw [k1 10 (by decide) (by decide), gc, e67]
          by_cases e : j ≤ q ∧ q < j + g
          · rw [if_pos e, if_pos (by omega), e4 _ (by omega)]; congr 1; omega
          · rw [if_neg e, if_neg (by omega)]; exact f4 q hq2
  · have hbb : b = true ∧ b2 = true := ⟨Decidable.not_not.mp (fun q => c ((h01 h3).mpr q)), Decidable.not_not.mp (fun q => c2 ((h01 t3).mpr q))⟩
    replace c3 : ¬ zi l = zi l2 := fun q => c3 ((h5 hbb.1).1.trans (q.trans (t5 hbb.2).1.symm))
    unfold W_X7_faulted_r1
    exact hq _ _ _ rfl (fun Q2 h2 => K_copyR (by decide) (by decide) h1 t1 h4 t4 (fun q => (h5 q).2.2.1) (fun q => (t5 q).2.2.1) (fun c => absurd hbb c) (fun _ _ => h2 _ _ ⟨D, E, hv.ft 2⟩) (fun _ c => absurd c c3) (fun _ c => absurd c c3))
theorem z4 {v : Int32} : (v = 0 ∨ v = 1 ∨ v = 2 ∨ v = 3) ∨ ¬ (0 ≤ v.toInt ∧ v.toInt < (4 : Nat)) := by
  by_cases h : 0 ≤ v.toInt ∧ v.toInt < (4 : Nat)
  · obtain ⟨k, hk, rfl⟩ := zasn h
    have : k = 0 ∨ k = 1 ∨ k = 2 ∨ k = 3 := by omega
    rcases this with rfl | rfl | rfl | rfl
    · exact Or.inl (Or.inl rfl)
    · exact Or.inl (Or.inr (Or.inl rfl))
    · exact Or.inl (Or.inr (Or.inr (Or.inl rfl)))
    · exact Or.inl (Or.inr (Or.inr (Or.inr rfl)))
  · exact Or.inr h
theorem z4n {v : Int32} (h : ¬ (0 ≤ v.toInt ∧ v.toInt < (4 : Nat))) : ¬ v = 0 ∧ ¬ v = 1 ∧ ¬ v = 2 ∧ ¬ v = 3 := by
  refine ⟨?_, ?_, ?_, ?_⟩ <;> rintro rfl <;> exact h (by decide)
theorem OP_sheet {Ln : Nat} {xs : Nat → Int32} {I A : Nat → Nat → Int32} {s v w : Int32} {Q : Int32 → (Nat → Nat → Int32) → (Nat → Nat → Int32) → Prop} (hv : INV xs I A) (hq : ∀ x I' A', A' 0 = A 0 → (∀ Q2 : Int32 → (Nat → Nat → Int32) → (Nat → Nat → Int32) → Prop, (∀ I2 A2, INV xs I2 A2 → Q2 x I2 A2) → W_X8_sheet_r44 Ln I' A' s v w Q2) → Q x I' A') : W_X7_sheet_r1 Ln I A s v w Q := by
  unfold W_X7_sheet_r1
  refine ⟨fun e => ?_, fun e => ?_, fun e => ?_, fun e => ?_, fun n0 n1 n2 n3 => ?_⟩
  · subst e; exact OP_sheet_c0 hv hq
  · subst e; exact OP_sheet_c1 hv hq
  · subst e; exact OP_sheet_c2 hv hq
  · subst e; exact OP_sheet_c3 hv hq
  · rcases z4 (v := s) with c | hn
    · exact absurd c (by rintro (c | c | c | c) <;> contradiction)
    · obtain ⟨D, E, hv⟩ := hv
      refine C_isSheet_n hn ⟨fun c => absurd rfl c, fun _ => ?_⟩
      unfold W_X7_faultless_r1
      refine hq _ _ _ rfl (fun Q2 h2 => ?_)
      unfold W_X8_sheet_r44 W_X8_refused_r44
      exact K_noSheet_n hn ⟨fun c => absurd c (by decide), fun _ => h2 _ _ ⟨D, E, hv.ft 0⟩⟩
theorem OP_lose {Ln : Nat} {xs : Nat → Int32} {I A : Nat → Nat → Int32} {s : Int32} {Q : Int32 → (Nat → Nat → Int32) → Prop} (hv : INV xs I A) (hq : ∀ x I', (∀ Q2 : Int32 → (Nat → Nat → Int32) → Prop, (∀ A2, INV xs I' A2 → Q2 x A2) → W_X8_lose_r44 Ln I' A s Q2) → Q x I') : W_X7_lose_r1 Ln I A s Q := by
  unfold W_X7_lose_r1
  refine ⟨fun e => ?_, fun e => ?_, fun e => ?_, fun e => ?_, fun n0 n1 n2 n3 => ?_⟩
  · subst e; exact OP_lose_c0 hv hq
  · subst e; exact OP_lose_c1 hv hq
  · subst e; exact OP_lose_c2 hv hq
  · subst e; exact OP_lose_c3 hv hq
  · rcases z4 (v := s) with c | hn
    · exact absurd c (by rintro (c | c | c | c) <;> contradiction)
    · refine C_isSheet_n hn ⟨fun c => absurd rfl c, fun _ => hq _ _ (fun Q2 h2 => ?_)⟩
      unfold W_X8_lose_r44
      exact K_noSheet_n hn ⟨fun c => absurd c (by decide), fun _ => h2 _ hv⟩
theorem OP_put {Ln : Nat} {xs : Nat → Int32} {I A : Nat → Nat → Int32} {s v w : Int32} {Q : Int32 → (Nat → Nat → Int32) → (Nat → Nat → Int32) → Prop} (hv : INV xs I A) (hq : ∀ x I' A', A' 0 = A 0 → (∀ Q2 : Int32 → (Nat → Nat → Int32) → (Nat → Nat → Int32) → Prop, (∀ I2 A2, INV xs I2 A2 → Q2 x I2 A2) → W_X8_put_r44 Ln I' A' s v w Q2) → Q x I' A') : W_X7_put_r1 Ln I A s v w Q := by
  unfold W_X7_put_r1
  refine ⟨fun e => ?_, fun e => ?_, fun e => ?_, fun e => ?_, fun n0 n1 n2 n3 => ?_⟩
  · subst e; exact OP_put_c0 hv hq
  · subst e; exact OP_put_c1 hv hq
  · subst e; exact OP_put_c2 hv hq
  · subst e; exact OP_put_c3 hv hq
  · rcases z4 (v := s) with c | hn
    · exact absurd c (by rintro (c | c | c | c) <;> contradiction)
    · obtain ⟨D, E, hv⟩ := hv
      refine C_isSheet_n hn ⟨fun c => absurd rfl c, fun _ => ?_⟩
      unfold W_X7_faultless_r1
      refine hq _ _ _ rfl (fun Q2 h2 => ?_)
      unfold W_X8_put_r44 W_X8_refused_r44
      exact K_noSheet_n hn ⟨fun c => absurd c (by decide), fun _ => h2 _ _ ⟨D, E, hv.ft 0⟩⟩
theorem OP_cell {Ln : Nat} {xs : Nat → Int32} {I A : Nat → Nat → Int32} {s v w : Int32} {Q : Int64 → (Nat → Nat → Int32) → Prop} (hv : INV xs I A) (hq : ∀ x I', (∀ Q2 : Int64 → (Nat → Nat → Int32) → Prop, (∀ I2, INV xs I2 A → Q2 x I2) → W_X8_cell_r44 Ln I' A s v w Q2) → Q x I') : W_X7_cell_r1 Ln I A s v w Q := by
  unfold W_X7_cell_r1
  refine ⟨fun e => ?_, fun e => ?_, fun e => ?_, fun e => ?_, fun n0 n1 n2 n3 => ?_⟩
  · subst e; exact OP_cell_c0 hv hq
  · subst e; exact OP_cell_c1 hv hq
  · subst e; exact OP_cell_c2 hv hq
  · subst e; exact OP_cell_c3 hv hq
  · rcases z4 (v := s) with c | hn
    · exact absurd c (by rintro (c | c | c | c) <;> contradiction)
    · obtain ⟨D, E, hv⟩ := hv
      rintro I1 rfl
      refine C_isSheet_n hn ⟨fun _ => hq _ _ (fun Q2 h2 => ?_), fun c => absurd rfl c⟩
      unfold W_X8_cell_r44 J_X8_cell_r44_24 W_X8_lost
      rintro J1 rfl
      exact K_noSheet_n hn ⟨fun _ => h2 _ ⟨D, E, hv.ft 0⟩, fun c => absurd (show (1 : Int32) ≠ 0 by decide) c⟩
theorem OP_copy {Ln : Nat} {xs : Nat → Int32} {I A : Nat → Nat → Int32} {s v t w u : Int32} {Q : Int32 → (Nat → Nat → Int32) → (Nat → Nat → Int32) → Prop} (hv : INV xs I A) (hq : ∀ x I' A', A' 0 = A 0 → (∀ Q2 : Int32 → (Nat → Nat → Int32) → (Nat → Nat → Int32) → Prop, (∀ I2 A2, INV xs I2 A2 → Q2 x I2 A2) → W_X8_copy_r44 Ln I' A' s v t w u Q2) → Q x I' A') : W_X7_copy_r1 Ln I A s v t w u Q := by
  have h14 : (¬ (0 ≤ s.toInt ∧ s.toInt < (4 : Nat)) ∨ ¬ (0 ≤ t.toInt ∧ t.toInt < (4 : Nat))) → J_X7_copy_r1_14 Ln I A s v t w u Q := by
    intro hb
    obtain ⟨D, E, hv⟩ := hv
    unfold J_X7_copy_r1_14 W_X7_faultless_r1
    refine hq _ _ _ rfl (fun Q2 h2 => ?_)
    unfold W_X8_copy_r44 J_X8_copy_r44_14 W_X8_refused_r44
    by_cases hs : 0 ≤ s.toInt ∧ s.toInt < (4 : Nat)
    · have ht : ¬ (0 ≤ t.toInt ∧ t.toInt < (4 : Nat)) := by rcases hb with hb | hb; exact absurd hs hb; exact hb
      obtain ⟨k, hk, rfl⟩ := zasn hs
      exact K_noSheet_y hk ⟨fun c => absurd rfl c, fun _ => K_noSheet_n ht ⟨fun c => absurd c (by decide), fun _ => h2 _ _ ⟨D, E, hv.ft 0⟩⟩⟩
    · exact K_noSheet_n hs ⟨fun _ => h2 _ _ ⟨D, E, hv.ft 0⟩, fun c => absurd (show (1 : Int32) ≠ 0 by decide) c⟩
  unfold W_X7_copy_r1
  refine ⟨fun e => ?_, fun e => ?_, fun e => ?_, fun e => ?_, fun e => ?_, fun e => ?_, fun e => ?_, fun e => ?_, fun e => ?_, fun e => ?_, fun e => ?_, fun e => ?_, fun e => ?_, fun e => ?_, fun e => ?_, fun e => ?_, fun b0 b1 b2 b3 b4 b5 b6 b7 b8 b9 b10 b11 b12 b13 b14 b15 => ?_⟩
  · obtain ⟨rfl, rfl⟩ := e; exact OP_copy_c0_c0 hv hq
  · obtain ⟨rfl, rfl⟩ := e; exact OP_copy_c0_c1 hv hq
  · obtain ⟨rfl, rfl⟩ := e; exact OP_copy_c0_c2 hv hq
  · obtain ⟨rfl, rfl⟩ := e; exact OP_copy_c0_c3 hv hq
  · obtain ⟨rfl, rfl⟩ := e; exact OP_copy_c1_c0 hv hq
  · obtain ⟨rfl, rfl⟩ := e; exact OP_copy_c1_c1 hv hq
  · obtain ⟨rfl, rfl⟩ := e; exact OP_copy_c1_c2 hv hq
  · obtain ⟨rfl, rfl⟩ := e; exact OP_copy_c1_c3 hv hq
  · obtain ⟨rfl, rfl⟩ := e; exact OP_copy_c2_c0 hv hq
  · obtain ⟨rfl, rfl⟩ := e; exact OP_copy_c2_c1 hv hq
  · obtain ⟨rfl, rfl⟩ := e; exact OP_copy_c2_c2 hv hq
  · obtain ⟨rfl, rfl⟩ := e; exact OP_copy_c2_c3 hv hq
  · obtain ⟨rfl, rfl⟩ := e; exact OP_copy_c3_c0 hv hq
  · obtain ⟨rfl, rfl⟩ := e; exact OP_copy_c3_c1 hv hq
  · obtain ⟨rfl, rfl⟩ := e; exact OP_copy_c3_c2 hv hq
  · obtain ⟨rfl, rfl⟩ := e; exact OP_copy_c3_c3 hv hq
  · rcases z4 (v := s) with c | hn
    · rcases z4 (v := t) with c2 | hn2
      · exfalso
        rcases c with rfl | rfl | rfl | rfl <;> rcases c2 with rfl | rfl | rfl | rfl <;> first | exact b0 ⟨rfl, rfl⟩ | exact b1 ⟨rfl, rfl⟩ | exact b2 ⟨rfl, rfl⟩ | exact b3 ⟨rfl, rfl⟩ | exact b4 ⟨rfl, rfl⟩ | exact b5 ⟨rfl, rfl⟩ | exact b6 ⟨rfl, rfl⟩ | exact b7 ⟨rfl, rfl⟩ | exact b8 ⟨rfl, rfl⟩ | exact b9 ⟨rfl, rfl⟩ | exact b10 ⟨rfl, rfl⟩ | exact b11 ⟨rfl, rfl⟩ | exact b12 ⟨rfl, rfl⟩ | exact b13 ⟨rfl, rfl⟩ | exact b14 ⟨rfl, rfl⟩ | exact b15 ⟨rfl, rfl⟩
      · have hs1 : ∀ q : Int32 → Prop, q 1 → W_X7_isSheet Ln I A s q := by
          intro q hq1
          rcases c with rfl | rfl | rfl | rfl
          · exact C_isSheet_0 hq1
          · exact C_isSheet_1 hq1
          · exact C_isSheet_2 hq1
          · exact C_isSheet_3 hq1
        exact hs1 _ ⟨fun c3 => absurd c3 (by decide), fun _ => C_isSheet_n hn2 ⟨fun c3 => absurd rfl c3, fun _ => h14 (Or.inr hn2)⟩⟩
    · exact C_isSheet_n hn ⟨fun _ => h14 (Or.inl hn), fun c => absurd rfl c⟩
