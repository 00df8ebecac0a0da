/-! the bank: the reference reads it whole -/
theorem zms_41 {cd : Nat → Int32} {p : Nat} (h : 41 ≤ p) : zms cd p = false := by unfold zms; rw [if_neg (by omega), if_neg (by omega)]
theorem zms_h1 {cd : Nat → Int32} : zms cd 1 = dg (cd 1) 1 4 := rfl
theorem zms_h2 {cd : Nat → Int32} : zms cd 2 = dg (cd 2) 0 9 := rfl
theorem zms_h3 {cd : Nat → Int32} : zms cd 3 = dg (cd 3) (if cd 2 = 48 then 1 else 0) 9 := rfl
theorem zms_h4 {cd : Nat → Int32} : zms cd 4 = dg (cd 4) 1 4 := rfl
theorem zms_h0 {cd : Nat → Int32} : zms cd 0 = decide (cd 0 = 114) := rfl
theorem num48 {v : Int32} {hi : Nat} (h : dg v 0 hi = true) : zi (num v : Int) ≠ 0 ↔ ¬ v = 48 := by
  have h1 := of_decide_eq_true h
  obtain ⟨h2, _, h3⟩ := dg_num h
  rw [← h2]
  constructor
  · rintro c rfl; exact c (by decide)
  · intro c q
    exact c (by have e : v = (v - 48) + 48 := (Int32.sub_add_cancel v 48).symm
                rw [q] at e; exact e.trans (by decide))
def FrA (A A' : Nat → Nat → Int32) : Prop := ∀ a, (a < 50 ∨ 53 < a) → A' a = A a
theorem K_readsBank {Ln : Nat} {cd : Nat → Int32} {b n : Nat} {I A : Nat → Nat → Int32} {Q : Int32 → (Nat → Nat → Int32) → (Nat → Nat → Int32) → Prop} (hb : b + n ≤ 240) (hn : n ≤ 60) (hcd : ∀ x, x < n → A 67 (b + x) = cd x)
    (hbad : ∀ (p : Nat) I' A', FrR I I' → FrA A A' → I' 44 11 = zi p → zbadR cd n p → Q 0 I' A')
    (hok : ∀ (m : Nat) I' A', n = 5 + 6 * m → 1 ≤ m → m ≤ 6 → (∀ q, q < n → zms cd q = true) → FrR I I' → FrA A A' → I' 44 12 = zi (num (cd 1)) → I' 44 13 = zi ((10 * num (cd 2) + num (cd 3) : Nat) : Int) → I' 44 14 = zi (num (cd 4)) → I' 44 15 = zi m → (∀ s, s < m → RDs cd A' s) → Q 1 I' A') : W_X8_readsBank_r44 Ln I A (zi b) (zi n) Q := by
  unfold W_X8_readsBank_r44
  rintro I1 hI1
  have f1 : FrR I I1 := by rw [hI1]; exact ((FrR.refl I).z (by decide)).z (by decide)
  have g11 : I1 44 11 = zi ((0 : Nat) : Int) := by rw [hI1, zp_at, if_neg (by decide), zp_eq]; rfl
  have g15 : I1 44 15 = zi ((0 : Nat) : Int) := by rw [hI1, zp_eq]; rfl
  clear hI1
  have f150 : ∀ (J : Nat → Nat → Int32) (p : Nat) (v3 v4 v5 : Int32), FrR I J → J 44 11 = zi p → zbadR cd n p → J_X8_readsBank_r44_150_s2 Ln J A (zi b) (zi n) v3 v4 v5 (-9) Q := by
    intro J p v3 v4 v5 h1 h2 h3
    unfold J_X8_readsBank_r44_150_s2
    refine ⟨fun _ I12 e12 => ?_, fun q => absurd (by decide) q⟩
    refine zLoop.inv (fun _ σ => σ = (0, I12, A)) 0 rfl (fun i s h => by omega) ?_
    rintro s rfl K
    simp only [L_X8_readsBank_r44_166]
    exact ⟨fun _ => ⟨Or.inl trivial, hbad p I12 A (by rw [e12]; exact h1.z (by decide)) (fun _ _ => rfl) (by rw [e12, zp_at, if_neg (by decide)]; exact h2) h3⟩, fun q => absurd trivial q⟩
  have f117 : ∀ (J : Nat → Nat → Int32) (p : Nat) (v3 v4 : Int32), FrR I J → J 44 11 = zi p → zbadR cd n p → J_X8_readsBank_r44_117_s1 Ln J A (zi b) (zi n) v3 v4 (-9) Q := by
    intro J p v3 v4 h1 h2 h3
    unfold J_X8_readsBank_r44_117_s1
    exact ⟨fun q => absurd q (by decide), fun _ I17 e17 => f150 I17 p _ _ _ (by rw [e17]; exact h1.z (by decide)) (by rw [e17, zp_at, if_neg (by decide)]; exact h2) h3⟩
  have f87 : ∀ (J : Nat → Nat → Int32) (p : Nat) (v3 : Int32), FrR I J → J 44 11 = zi p → zbadR cd n p → J_X8_readsBank_r44_87_s1 Ln J A (zi b) (zi n) v3 (-9) Q := by
    intro J p v3 h1 h2 h3
    unfold J_X8_readsBank_r44_87_s1
    exact ⟨fun q => absurd q (by decide), fun _ => f117 J p _ _ h1 h2 h3⟩
  have f63 : ∀ (J : Nat → Nat → Int32) (p : Nat) (v3 : Int32), FrR I J → J 44 11 = zi p → zbadR cd n p → J_X8_readsBank_r44_63_s2 Ln J A (zi b) (zi n) v3 (-9) Q := by
    intro J p v3 h1 h2 h3
    unfold J_X8_readsBank_r44_63_s2
    exact ⟨fun q => absurd q (by decide), fun _ I18 e18 => f87 I18 p _ (by rw [e18]; exact h1.z (by decide)) (by rw [e18, zp_at, if_neg (by decide)]; exact h2) h3⟩
  have f26 : zbadR cd n 0 → J_X8_readsBank_r44_26_s1 Ln I1 A (zi b) (zi n) 0 Q := by
    intro h3
    unfold J_X8_readsBank_r44_26_s1 J_X8_readsBank_r44_41_s3
    refine ⟨fun _ => ⟨fun _ I3 e3 => f63 I3 0 _ (by rw [e3]; exact f1.z (by decide)) ?_ h3, fun q => absurd rfl q⟩, fun q => absurd rfl q⟩
    rw [e3, zp_eq, g11]; rfl
  refine K_codeAt hb hcd g11 (Nat.zero_le n) (fun h0 => ⟨fun c => f26 ⟨by omega, fun q hq => by omega, fun _ => decide_eq_false c, fun e => by omega⟩, fun c => ?_⟩) (fun h0 => ⟨fun _ => f26 ⟨by omega, fun q hq => by omega, fun q => by omega, fun _ q => by omega⟩, fun c => absurd (by decide) c⟩)
  have ok0 : ∀ q, q < 0 + 1 → zms cd q = true := ok_up (fun q hq => by omega) (decide_eq_true (Decidable.not_not.mp c))
  have hge : ∀ {v : Int32} {lo hi : Nat}, dg v lo hi = true → hi ≤ 9 → 0 ≤ zi (num v : Int) := fun h h2 => by
    have := (dg_num h).2.2
    rw [zq0, zi_le (by omega) (by omega) (by omega) (by omega)]; omega
  unfold J_X8_readsBank_r44_26_s1 J_X8_readsBank_r44_41_s3
  refine ⟨fun q => absurd q (by decide), fun _ => ⟨fun q => absurd q (by decide), fun _ I2 e2 => ?_⟩⟩
  rw [g11, zi_succ] at e2
  have f2 : FrR I I2 := by rw [e2]; exact f1.z (by decide)
  have g2 : I2 44 11 = zi ((0 + 1 : Nat) : Int) := by rw [e2, zp_eq]
  have k2 : I2 44 15 = zi ((0 : Nat) : Int) := by rw [e2, zp_at, if_neg (by decide)]; exact g15
  clear e2
  refine K_figure (lo := 1) (hi := 4) (by decide) (by decide) hb hcd g2 (by omega) (fun h1 d1 => ?_) (fun h1 => f63 _ _ _ (f2.z (by decide)) zp_eq ⟨by omega, ok0, fun q => zms_h1.trans (h1 q), fun _ q => by omega⟩)
  have ok1 := ok_up ok0 (zms_h1.trans d1)
  unfold J_X8_readsBank_r44_63_s2
  refine ⟨fun _ I4 e4 => ?_, fun q => absurd (hge d1 (by decide)) q⟩
  have f4 : FrR I I4 := by rw [e4]; exact (f2.z (by decide)).z (by decide)
  have g4 : I4 44 11 = zi ((0 + 1 + 1 : Nat) : Int) := by rw [e4, zp_at, if_neg (by decide), zp_eq]
  have k4 : I4 44 15 = zi ((0 : Nat) : Int) := by rw [e4, zp_at, if_neg (by decide), zp_at, if_neg (by decide)]; exact k2
  have s4 : I4 44 12 = zi (num (cd 1)) := by rw [e4, zp_eq]
  clear e4
  refine K_figure (lo := 0) (hi := 9) (by decide) (by decide) hb hcd g4 (by omega) (fun h2 d2 => ?_) (fun h2 => f87 _ _ _ (f4.z (by decide)) zp_eq ⟨by omega, ok1, fun q => zms_h2.trans (h2 q), fun _ q => by omega⟩)
  have ok2 := ok_up ok1 (zms_h2.trans d2)
  generalize hI5 : zp I4 44 11 (zi ((0 + 1 + 1 + 1 : Nat) : Int)) = I5
  have f5 : FrR I I5 := by rw [← hI5]; exact f4.z (by decide)
  have g5 : I5 44 11 = zi ((0 + 1 + 1 + 1 : Nat) : Int) := by rw [← hI5, zp_eq]
  have k5 : I5 44 15 = zi ((0 : Nat) : Int) := by rw [← hI5, zp_at, if_neg (by decide)]; exact k4
  have s5 : I5 44 12 = zi (num (cd 1)) := by rw [← hI5, zp_at, if_neg (by decide)]; exact s4
  clear hI5
  have b2 := dg_num d2
  have hJ : ∀ lo : Nat, lo = (if cd 2 = 48 then 1 else 0) → J_X8_readsBank_r44_112_s4 Ln I5 A (zi b) (zi n) 1 (zi (num (cd (0 + 1 + 1)))) (zi b) (zi n) (zi lo) Q := by
    intro lo hlo
    have hlo9 : lo ≤ 9 := by rw [hlo]; split <;> decide
    unfold J_X8_readsBank_r44_112_s4
    refine K_figure (lo := lo) (hi := 9) (by decide) hlo9 hb hcd g5 (by omega) (fun h3 d3 => ?_) (fun h3 => f117 _ _ _ _ (f5.z (by decide)) zp_eq ⟨by omega, ok2, fun q => zms_h3.trans (by rw [← hlo]; exact h3 q), fun _ q => by omega⟩)
    have ok3 := ok_up ok2 (zms_h3.trans (by rw [← hlo]; exact d3))
    have b3 := dg_num d3
    unfold J_X8_readsBank_r44_117_s1
    refine ⟨fun _ I9 e9 => ?_, fun q => absurd (hge d3 (by decide)) q⟩
    have f9 : FrR I I9 := by rw [e9]; exact (f5.z (by decide)).z (by decide)
    have g9 : I9 44 11 = zi ((0 + 1 + 1 + 1 + 1 : Nat) : Int) := by rw [e9, zp_at, if_neg (by decide), zp_eq]
    have k9 : I9 44 15 = zi ((0 : Nat) : Int) := by rw [e9, zp_at, if_neg (by decide), zp_at, if_neg (by decide)]; exact k5
    have s9 : I9 44 12 = zi (num (cd 1)) := by rw [e9, zp_at, if_neg (by decide), zp_at, if_neg (by decide)]; exact s5
    have t9 : I9 44 13 = zi ((10 * num (cd 2) + num (cd 3) : Nat) : Int) := by rw [e9, zp_eq, zq10, zi_mul, zi_add]; rfl
    clear e9
    refine K_figure (lo := 1) (hi := 4) (by decide) (by decide) hb hcd g9 (by omega) (fun h4 d4 => ?_) (fun h4 => f150 _ _ _ _ _ (f9.z (by decide)) zp_eq ⟨by omega, ok3, fun q => zms_h4.trans (h4 q), fun _ q => by omega⟩)
    have ok4 := ok_up ok3 (zms_h4.trans d4)
    have b4 := dg_num d4
    unfold J_X8_readsBank_r44_150_s2
    refine ⟨fun q => absurd q (by rw [zq0, zi_le (by omega) (by omega) (by omega) (by omega)]; omega), fun _ I16 e16 => ?_⟩
    have f16 : FrR I I16 := by rw [e16]; exact (f9.z (by decide)).z (by decide)
    have g16 : I16 44 11 = zi ((5 + 6 * 0 : Nat) : Int) := by rw [e16, zp_at, if_neg (by decide), zp_eq]
    have k16 : I16 44 15 = zi ((0 : Nat) : Int) := by rw [e16, zp_at, if_neg (by decide), zp_at, if_neg (by decide)]; exact k9
    have s16 : I16 44 12 = zi (num (cd 1)) := by rw [e16, zp_at, if_neg (by decide), zp_at, if_neg (by decide)]; exact s9
    have t16 : I16 44 13 = zi ((10 * num (cd 2) + num (cd 3) : Nat) : Int) := by rw [e16, zp_at, if_neg (by decide), zp_at, if_neg (by decide)]; exact t9
    have u16 : I16 44 14 = zi (num (cd 4)) := by rw [e16, zp_eq]
    clear e16
    refine zLoop.inv (fun m σ => (σ.1 = 0 ∧ FrR I σ.2.1 ∧ FrA A σ.2.2 ∧ ∃ p : Nat, σ.2.1 44 11 = zi p ∧ zbadR cd n p) ∨ (σ.1 = 1 ∧ FrR I σ.2.1 ∧ FrA A σ.2.2 ∧ σ.2.1 44 11 = zi ((5 + 6 * m : Nat) : Int) ∧ σ.2.1 44 15 = zi m ∧ (σ.2.1 44 12 = zi (num (cd 1)) ∧ σ.2.1 44 13 = zi ((10 * num (cd 2) + num (cd 3) : Nat) : Int) ∧ σ.2.1 44 14 = zi (num (cd 4))) ∧ 5 + 6 * m ≤ n ∧ (∀ q, q < 5 + 6 * m → zms cd q = true) ∧ ∀ s, s < m → RDs cd σ.2.2 s)) 7 (Or.inr ⟨rfl, f16, fun _ _ => rfl, g16, k16, ⟨s16, t16, u16⟩, by omega, fun q hq => ok4 q (by omega), fun s hs => by omega⟩) ?_ ?_
    · rintro m ⟨v3, J, B⟩ hm7 (⟨m1, m2, m3, p, m4, m5⟩ | ⟨m1, m2, m3, m4, m5, m6, m7, m8, m9⟩) K hk
      · simp only at m1 m2 m3 m4
        subst m1
        simp only [L_X8_readsBank_r44_166]
        exact ⟨fun _ => ⟨Or.inl trivial, hbad p J B m2 m3 m4 m5⟩, fun q => absurd trivial q⟩
      · simp only at m1 m2 m3 m4 m5 m6 m9
        subst m1
        have hm6 : m ≤ 6 := by omega
        have hcd2 : ∀ x, x < n → B 67 (b + x) = cd x := fun x hx => by rw [m3 67 (by decide)]; exact hcd x hx
        have h185 : (m = 0 ∨ 5 + 6 * m < n) → J_X8_readsBank_r44_185 Ln J B (zi b) (zi n) 1 (zi (num (cd (0 + 1 + 1)))) (zi (num (cd (0 + 1 + 1 + 1)))) K Q := by
          intro hpn
          unfold J_X8_readsBank_r44_185
          refine K_readsShade (I0 := I) (A0 := A) hb hn hcd2 hm6 m5 m4 m7 hpn m8 m2 (fun p I' h1 h2 h3 => hk _ (Or.inl ⟨rfl, h1, m3, p, h2, h3⟩)) (fun I' h1 h2 h3 h4 h5 h6 h7 => hk _ (Or.inr ⟨rfl, h1, fun a ha => ?_, h3, h4, ⟨?_, ?_, ?_⟩, h6, h5, fun s hs => ?_⟩))
          · dsimp only
            rw [zw_ne (by omega), zw_ne (by omega), zw_ne (by omega), zw_ne (by omega)]; exact m3 a ha
          · exact (h2 12 (by omega)).trans m6.1
          · exact (h2 13 (by omega)).trans m6.2.1
          · exact (h2 14 (by omega)).trans m6.2.2
          · dsimp only
            unfold RDs
            simp only [zw_at, zw_ne (show (50 : Nat) ≠ 53 by decide), zw_ne (show (50 : Nat) ≠ 52 by decide), zw_ne (show (50 : Nat) ≠ 51 by decide), zw_ne (show (51 : Nat) ≠ 53 by decide), zw_ne (show (51 : Nat) ≠ 52 by decide), zw_ne (show (51 : Nat) ≠ 50 by decide), zw_ne (show (52 : Nat) ≠ 53 by decide), zw_ne (show (52 : Nat) ≠ 51 by decide), zw_ne (show (52 : Nat) ≠ 50 by decide), zw_ne (show (53 : Nat) ≠ 52 by decide), zw_ne (show (53 : Nat) ≠ 51 by decide), zw_ne (show (53 : Nat) ≠ 50 by decide)]
            by_cases e : s = m
            · subst e
              simp only [if_true]; exact ⟨trivial, trivial, trivial, trivial⟩
            · simp only [if_neg e]; exact m9 s (by omega)
        simp only [L_X8_readsBank_r44_166]
        refine ⟨fun q => absurd q (by decide), fun _ => ⟨fun q => h185 ?_, fun q => ⟨fun q2 => ⟨Or.inr trivial, ?_⟩, fun q2 => h185 ?_⟩⟩⟩
        · rw [m5, show (0 : Int32) = zi (0 : Nat) from rfl, zeq_n (by omega) (by omega)] at q; exact Or.inl q
        · rw [m5, show (0 : Int32) = zi (0 : Nat) from rfl, zeq_n (by omega) (by omega)] at q
          rw [m4, zle_n (by omega) (by omega)] at q2
          have hnm : n = 5 + 6 * m := by omega
          exact hok m J B hnm (by omega) hm6 (fun q3 hq3 => m8 q3 (by omega)) m2 m3 m6.1 m6.2.1 m6.2.2 m5 m9
        · rw [m4, zle_n (by omega) (by omega)] at q2
          exact Or.inr (by omega)
    · rintro ⟨v3, J, B⟩ (⟨m1, m2, m3, p, m4, m5⟩ | ⟨m1, m2, m3, m4, m5, m6, m7, m8, m9⟩) K
      · simp only at m1 m2 m3 m4
        subst m1
        simp only [L_X8_readsBank_r44_166]
        exact ⟨fun _ => ⟨Or.inl trivial, hbad p J B m2 m3 m4 m5⟩, fun q => absurd trivial q⟩
      · have := m8 41 (by omega)
        rw [zms_41 (by decide)] at this; cases this
  unfold J_X8_readsBank_r44_87_s1
  refine ⟨fun _ => ?_, fun q => absurd (hge d2 (by decide)) q⟩
  rw [num48 d2]
  exact ⟨fun q => hJ 0 (by rw [if_neg q]), fun q => hJ 1 (by rw [if_pos (Decidable.not_not.mp q)])⟩
/-! what the text tells -/
def tD (cd : Nat → Int32) (m : Nat) : Nat → Nat → Nat := fun a s => if a = 0 then (if s = 0 then m else if s = 1 then num (cd 1) else if s = 2 then 10 * num (cd 2) + num (cd 3) else num (cd 4)) else if s < m then (if a = 1 then knd (cd (5 + 6 * s + 1)) else if a = 2 then num (cd (5 + 6 * s + 2)) else if a = 3 then num (cd (5 + 6 * s + 3)) else 10 * num (cd (5 + 6 * s + 4)) + num (cd (5 + 6 * s + 5))) else 0
theorem tD_s {cd : Nat → Int32} {m s : Nat} (h : s < m) : dk (tD cd m) s = knd (cd (5 + 6 * s + 1)) ∧ dt (tD cd m) s = num (cd (5 + 6 * s + 2)) ∧ dw (tD cd m) s = num (cd (5 + 6 * s + 3)) ∧ dc (tD cd m) s = 10 * num (cd (5 + 6 * s + 4)) + num (cd (5 + 6 * s + 5)) := by
  refine ⟨?_, ?_, ?_, ?_⟩ <;> simp [dk, dt, dw, dc, tD, h]
theorem tD_n {cd : Nat → Int32} {m s : Nat} (h : ¬ s < m) : dk (tD cd m) s = 0 ∧ dt (tD cd m) s = 0 ∧ dw (tD cd m) s = 0 ∧ dc (tD cd m) s = 0 := by
  refine ⟨?_, ?_, ?_, ?_⟩ <;> simp [dk, dt, dw, dc, tD, h]
theorem knd_le (v : Int32) : knd v ≤ 2 := by unfold knd; split <;> (try split) <;> decide
/-- each sign is as it must be -/
theorem okd {cd : Nat → Int32} {n m : Nat} (hnm : n = 5 + 6 * m) (hm6 : m ≤ 6) (hall : ∀ q, q < n → zms cd q = true) : (dg (cd 1) 1 4 = true ∧ dg (cd 2) 0 9 = true ∧ dg (cd 3) 0 9 = true ∧ dg (cd 4) 1 4 = true) ∧ ∀ s, s < m → (cd (5 + 6 * s + 1) = 115 ∨ cd (5 + 6 * s + 1) = 100 ∨ cd (5 + 6 * s + 1) = 108) ∧ dg (cd (5 + 6 * s + 2)) 0 3 = true ∧ dg (cd (5 + 6 * s + 3)) 1 9 = true ∧ dg (cd (5 + 6 * s + 4)) 0 2 = true ∧ dg (cd (5 + 6 * s + 5)) 0 9 = true := by
  refine ⟨⟨zms_h1.symm.trans (hall 1 (by omega)), zms_h2.symm.trans (hall 2 (by omega)), ?_, zms_h4.symm.trans (hall 4 (by omega))⟩, fun s hs => ⟨?_, ?_, ?_, ?_, ?_⟩⟩
  · have h := of_decide_eq_true (zms_h3.symm.trans (hall 3 (by omega)))
    refine decide_eq_true ?_
    split at h <;> omega
  · exact of_decide_eq_true (((zms_part (by omega) (by decide)).trans zmp_1).symm.trans (hall (5 + 6 * s + 1) (by omega)))
  · exact ((zms_part (by omega) (by decide)).trans zmp_2).symm.trans (hall (5 + 6 * s + 2) (by omega))
  · exact ((zms_part (by omega) (by decide)).trans zmp_3).symm.trans (hall (5 + 6 * s + 3) (by omega))
  · exact ((zms_part (by omega) (by decide)).trans zmp_4).symm.trans (hall (5 + 6 * s + 4) (by omega))
  · exact ((zms_part (by omega) (by decide)).trans zmp_5).symm.trans (hall (5 + 6 * s + 5) (by omega))
theorem tD_ok {cd : Nat → Int32} {n m : Nat} (hnm : n = 5 + 6 * m) (hm6 : m ≤ 6) (hall : ∀ q, q < n → zms cd q = true) : BD (tD cd m) := by
  obtain ⟨⟨d1, d2, d3, d4⟩, hs⟩ := okd hnm hm6 hall
  have n1 := (dg_num d1).2
  have n2 := (dg_num d2).2
  have n3 := (dg_num d3).2
  have n4 := (dg_num d4).2
  refine ⟨hm6, ?_, ?_, ?_, fun s => ?_⟩
  · show num (cd 1) ≤ 9; omega
  · show 10 * num (cd 2) + num (cd 3) ≤ 99; omega
  · show num (cd 4) ≤ 9; omega
  · by_cases h : s < m
    · obtain ⟨_, e2, e3, e4, e5⟩ := hs s h
      have k2 := (dg_num e2).2
      have k3 := (dg_num e3).2
      have k4 := (dg_num e4).2
      have k5 := (dg_num e5).2
      have k1 := knd_le (cd (5 + 6 * s + 1))
      obtain ⟨t1, t2, t3, t4⟩ := tD_s (cd := cd) h
      rw [t1, t2, t3, t4]
      omega
    · obtain ⟨t1, t2, t3, t4⟩ := tD_n (cd := cd) h
      rw [t1, t2, t3, t4]
      omega
/-! the class takes it -/
theorem C_kindOf {Ln : Nat} {I A : Nat → Nat → Int32} {v : Int32} {Q : Int32 → Prop} (h : v = 115 ∨ v = 100 ∨ v = 108) (hq : Q (zi (knd v))) : W_X5_kindOf Ln I A v Q := by
  unfold W_X5_kindOf
  rcases h with rfl | rfl | rfl
  · exact ⟨fun c => absurd c (by decide), fun c => absurd c (by decide), fun _ _ => hq⟩
  · exact ⟨fun _ => hq, fun c => absurd c (by decide), fun c => absurd (by decide) c⟩
  · exact ⟨fun c => absurd c (by decide), fun _ => hq, fun _ c => absurd (by decide) c⟩
theorem C_heavyP {Ln : Nat} {D : Nat → Nat → Nat} {I A : Nat → Nat → Int32} {i : Nat} {Q : Int32 → Prop} (hd : BD D) (hi : i < dn D) (hk : A 12 i = zi (dk D i)) (hw : A 14 i = zi (dw D i)) (hq : Q (zi (zhv D i))) : W_X0_heavy_r11 Ln I A (zi i) Q := by
  have hn := hd.1
  obtain ⟨hk2, _, hw2, _⟩ := hd.2.2.2.2 i
  unfold W_X0_heavy_r11
  rw [zi_nat' (by omega), hk, hw, zi_toInt (by omega) (by omega)]
  refine ⟨zin_n (by omega) (by decide), fun c => ⟨zin_n (by omega) (by decide), ?_⟩, fun c => ⟨zin_n (by omega) (by decide), ?_⟩, fun c1 c2 => ⟨zin_n (by omega) (by decide), ?_⟩⟩
  · rw [zq2, zi_add, show ((dw D i : Int) + 2) = (zhv D i : Int) by unfold zhv; rw [if_neg (by omega), if_pos (by omega)]; omega]; exact hq
  · rw [zq2, zi_add, zi_mul, show (2 * ((dw D i : Int) + 2)) = (zhv D i : Int) by unfold zhv; rw [if_pos (by omega)]; omega]; exact hq
  · rw [show ((dw D i : Int)) = (zhv D i : Int) by unfold zhv; rw [if_neg (by omega), if_neg (by omega)]]; exact hq
theorem C_findComing {Ln : Nat} {D : Nat → Nat → Nat} {I A : Nat → Nat → Int32} {Q : (Nat → Nat → Int32) → Prop} (hd : BD D) (h11 : I 11 0 = zi (dn D)) (h15 : ∀ s, s < dn D → A 15 s = zi (dc D s)) (hq : ∀ A', (∀ a, a ≠ 16 → A' a = A a) → (∀ d, d < 60 → A' 16 d = zm (zcame D d)) → Q A') : W_X0_findComing_r11 Ln I A Q := by
  have hn := hd.1
  unfold W_X0_findComing_r11
  refine zLoop.inv (fun d σ => σ.1 = zi d ∧ (∀ a, a ≠ 16 → σ.2 a = A a) ∧ ∀ q, q < d → σ.2 16 q = zm (zcame D q)) 60 ⟨rfl, fun _ _ => rfl, fun q h => by omega⟩ ?_ ?_
  · rintro d ⟨v1, A1⟩ hd6 ⟨g1, g2, g3⟩ K hk
    simp only at g1 g2 g3
    subst g1
    have hz := zin_n (L := 60) (s := d) hd6 (by decide)
    simp only [L_X0_findComing_r11_2]
    rw [zi_nat' (show d < 2147483648 by omega)]
    refine ⟨fun c => absurd c (by rw [zq60, zi_le (by omega) (by omega) (by omega) (by omega)]; omega), fun _ => ⟨hz, ?_⟩⟩
    refine zLoop.inv (fun s σ => σ.1 = zi s ∧ (∀ a, a ≠ 16 → σ.2 a = A a) ∧ (∀ q, q < d → σ.2 16 q = zm (zcame D q)) ∧ σ.2 16 d = zm (zup (zcame D d) s)) (dn D) ⟨rfl, fun a ha => (zw_ne ha).trans (g2 a ha), fun q hq2 => by dsimp only; rw [zw_at, if_neg (by omega)]; exact g3 q hq2, by dsimp only; rw [zw_at, if_pos rfl]; exact zm_up0 _⟩ ?_ ?_
    · rintro s ⟨v2, A2⟩ hs ⟨k1, k2, k3, k4⟩ K2 hk2
      simp only at k1 k2 k3 k4
      subst k1
      have hc2 := (hd.2.2.2.2 s).2.2.2
      have hz2 := zin_n (L := 6) (s := s) (by omega) (by decide)
      simp only [L_X0_findComing_r11_17]
      rw [h11, zle_n (by omega) (by omega), zi_nat' (show s < 2147483648 by omega), zi_nat' (show d < 2147483648 by omega), k2 15 (by decide), h15 s hs, zlt_n (by omega) (by omega), k4, zi_succ s]
      refine ⟨fun c => by omega, fun _ => ⟨hz2, fun c => hk2 _ ⟨rfl, k2, k3, ?_⟩, fun c => ⟨hz, hz, hk2 _ ⟨rfl, fun a ha => (zw_ne ha).trans (k2 a ha), fun q hq2 => ?_, ?_⟩⟩⟩⟩
      · dsimp only
        rw [k4]; exact zup_no (by simp only [zcame, Bool.and_eq_false_iff, decide_eq_false_iff_not]; omega)
      · dsimp only
        rw [zw_at, if_neg (by omega)]; exact k3 q hq2
      · dsimp only
        rw [zw_at, if_pos rfl]; exact zup_yes (by omega) (by simp only [zcame, Bool.and_eq_true, decide_eq_true_eq]; omega)
    · rintro ⟨v2, A2⟩ ⟨k1, k2, k3, k4⟩ K2
      simp only at k1 k2 k3 k4
      subst k1
      simp only [L_X0_findComing_r11_17]
      rw [h11, zle_n (by omega) (by omega), zi_succ]
      refine ⟨fun _ => hk _ ⟨rfl, k2, fun q hq2 => ?_⟩, fun c => absurd (Nat.le_refl _) c⟩
      by_cases e : q = d
      · dsimp only
        rw [e, k4]; exact zup_all (fun s h => by simp only [zcame, Bool.and_eq_false_iff, decide_eq_false_iff_not]; omega)
      · exact k3 q (by omega)
  · rintro ⟨v1, A1⟩ ⟨g1, g2, g3⟩ K
    simp only at g1 g2 g3
    subst g1
    simp only [L_X0_findComing_r11_2]
    exact ⟨fun _ => hq A1 g2 g3, fun c => absurd (by decide) c⟩
theorem zld_bd {D : Nat → Nat → Nat} (hd : BD D) (p : Nat → Bool) : zld (zhv D) p ≤ 132 := zld_le hd p
theorem C_findLoads {Ln : Nat} {D : Nat → Nat → Nat} {I A : Nat → Nat → Int32} {Q : (Nat → Nat → Int32) → Prop} (hd : BD D) (h11 : I 11 0 = zi (dn D)) (h12 : ∀ s, s < dn D → A 12 s = zi (dk D s) ∧ A 14 s = zi (dw D s)) (hq : ∀ A', (∀ a, a ≠ 17 → A' a = A a) → (∀ c, c < 64 → A' 17 c = zi (zld (zhv D) (zup (fun s => c.testBit s) (dn D)) : Int)) → Q A') : W_X0_findLoads_r11 Ln I A Q := by
  have hn := hd.1
  unfold W_X0_findLoads_r11
  refine zLoop.inv (fun c σ => σ.1 = zi c ∧ (∀ a, a ≠ 17 → σ.2 a = A a) ∧ ∀ q, q < c → σ.2 17 q = zi (zld (zhv D) (zup (fun s => q.testBit s) (dn D)) : Int)) 64 ⟨rfl, fun _ _ => rfl, fun q h => by omega⟩ ?_ ?_
  · rintro c ⟨v1, A1⟩ hc6 ⟨g1, g2, g3⟩ K hk
    simp only at g1 g2 g3
    subst g1
    have hz := zin_n (L := 64) (s := c) hc6 (by decide)
    simp only [L_X0_findLoads_r11_2]
    rw [zi_nat' (show c < 2147483648 by omega)]
    refine ⟨fun q => absurd q (by rw [zq64, zi_le (by omega) (by omega) (by omega) (by omega)]; omega), fun _ => ⟨hz, ?_⟩⟩
    refine zLoop.inv (fun s σ => σ.1 = zi s ∧ (∀ a, a ≠ 17 → σ.2 a = A a) ∧ (∀ q, q < c → σ.2 17 q = zi (zld (zhv D) (zup (fun s => q.testBit s) (dn D)) : Int)) ∧ σ.2 17 c = zi (zld (zhv D) (zup (fun s => c.testBit s) s) : Int)) (dn D) ⟨rfl, fun a ha => (zw_ne ha).trans (g2 a ha), fun q hq2 => by dsimp only; rw [zw_at, if_neg (by omega)]; exact g3 q hq2, by dsimp only; rw [zw_at, if_pos rfl, zld_up0]; rfl⟩ ?_ ?_
    · rintro s ⟨v2, A2⟩ hs ⟨k1, k2, k3, k4⟩ K2 hk2
      simp only at k1 k2 k3 k4
      subst k1
      have hup := zld_up (zhv D) (fun s => c.testBit s) (show s < 6 by omega)
      simp only [L_X0_findLoads_r11_17]
      rw [h11, zle_n (by omega) (by omega), zi_nat' (show c < 2147483648 by omega), zm_of hc6, zm_bit _ (show s < 6 by omega), zi_succ]
      rw [← zm_of hc6]
      cases hb : c.testBit s with
      | false =>
        rw [hb, if_neg (by decide)] at hup
        refine ⟨fun q => by omega, fun _ => ⟨fun _ => hk2 _ ⟨rfl, k2, k3, ?_⟩, fun q => absurd (show (0 : Int32) ≠ 1 by decide) q⟩⟩
        dsimp only
        rw [k4, hup]; rfl
      | true =>
        rw [hb, if_pos rfl] at hup
        refine ⟨fun q => by omega, fun _ => ⟨fun q => absurd rfl q, fun _ => ⟨hz, C_heavyP hd hs (by rw [k2 12 (by decide)]; exact (h12 s hs).1) (by rw [k2 14 (by decide)]; exact (h12 s hs).2) (fun x2 e2 => ⟨hz, hk2 _ ⟨rfl, fun a ha => (zw_ne ha).trans (k2 a ha), fun q hq2 => ?_, ?_⟩⟩)⟩⟩⟩
        · dsimp only
          rw [zw_at, if_neg (by omega)]; exact k3 q hq2
        · dsimp only
          rw [zw_at, if_pos rfl, e2, k4, zi_add, hup]; rfl
    · rintro ⟨v2, A2⟩ ⟨k1, k2, k3, k4⟩ K2
      simp only at k1 k2 k3 k4
      subst k1
      simp only [L_X0_findLoads_r11_17]
      rw [h11, zle_n (by omega) (by omega), zi_succ]
      refine ⟨fun _ => hk _ ⟨rfl, k2, fun q hq2 => ?_⟩, fun q => absurd (Nat.le_refl _) q⟩
      by_cases e : q = c
      · rw [e]; exact k4
      · exact k3 q (by omega)
  · rintro ⟨v1, A1⟩ ⟨g1, g2, g3⟩ K
    simp only at g1 g2 g3
    subst g1
    simp only [L_X0_findLoads_r11_2]
    exact ⟨fun _ => hq A1 g2 g3, fun q => absurd (by decide) q⟩
theorem C_digit_4 {Ln : Nat} {cd : Nat → Int32} {i x lo hi : Nat} {I A : Nat → Nat → Int32} {Q : Int32 → Prop} (hx : i + x < 60) (hA : A 4 (i + x) = cd x) (hd : dg (cd x) lo hi = true) (hq : Q (zi (num (cd x)))) : W_X5_digit_r4 Ln I A (zi ((i + x : Nat) : Int)) Q := by
  unfold W_X5_digit_r4
  rw [zi_nat' (by omega), hA, (dg_num hd).1]
  exact ⟨zin_n hx (by decide), hq⟩
theorem C_two_4 {Ln : Nat} {cd : Nat → Int32} {i x lo hi lo2 hi2 : Nat} {I A : Nat → Nat → Int32} {Q : Int32 → Prop} (hx : i + x + 1 < 60) (hA : A 4 (i + x) = cd x) (hA2 : A 4 (i + (x + 1)) = cd (x + 1)) (hd : dg (cd x) lo hi = true) (hd2 : dg (cd (x + 1)) lo2 hi2 = true) (hq : Q (zi ((10 * num (cd x) + num (cd (x + 1)) : Nat) : Int))) : W_X5_twoDigits_r4 Ln I A (zi ((i + x : Nat) : Int)) Q := by
  unfold W_X5_twoDigits_r4
  refine C_digit_4 (by omega) hA hd ?_
  rw [zi_succ, show i + x + 1 = i + (x + 1) from rfl]
  refine C_digit_4 (by omega) hA2 hd2 ?_
  rw [zq10, zi_mul, zi_add]; exact hq
theorem C_become_4 {Ln : Nat} {cd : Nat → Int32} {i n m : Nat} {I A : Nat → Nat → Int32} {Q : (Nat → Nat → Int32) → (Nat → Nat → Int32) → Prop} (hi : i + n ≤ 60) (hcd : ∀ x, x < n → A 4 (i + x) = cd x) (hnm : n = 5 + 6 * m) (hm1 : 1 ≤ m) (hm6 : m ≤ 6) (hall : ∀ q, q < n → zms cd q = true) (hq : ∀ I' A', (∀ o, o ≠ 11 → I' o = I o) → (∀ a, (a < 12 ∨ 17 < a) → A' a = A a) → CB (tD cd m) I' A' → Q I' A') : W_X0_become_r11_r4 Ln I A (zi i) (zi n) Q := by
  obtain ⟨⟨d1, d2, d3, d4⟩, hs⟩ := okd hnm hm6 hall
  have hd := tD_ok hnm hm6 hall
  unfold W_X0_become_r11_r4
  rw [show zi (i : Int) + 1 = zi ((i + 1 : Nat) : Int) from by rw [zq1, zi_add]; rfl, show zi (i : Int) + 2 = zi ((i + 2 : Nat) : Int) from by rw [zq2, zi_add]; rfl, show zi (i : Int) + 4 = zi ((i + 4 : Nat) : Int) from by rw [zq4, zi_add]; rfl, (zmod6 (n := n) (by omega) (by omega)).2, show (n - 5) / 6 = m by omega]
  refine C_digit_4 (by omega) (hcd 1 (by omega)) d1 (fun I2 e2 => C_two_4 (by omega) (hcd 2 (by omega)) (hcd 3 (by omega)) d2 d3 (fun I4 e4 => C_digit_4 (by omega) (hcd 4 (by omega)) d4 ?_))
  generalize hJ : zp (zp I4 11 3 (zi (num (cd 4)))) 11 0 (zi m) = J
  have j0 : J 11 0 = zi m := by rw [← hJ, zp_eq]
  have j1 : J 11 1 = zi (num (cd 1)) := by rw [← hJ, zp_at, if_neg (by decide), zp_at, if_neg (by decide), e4, zp_at, if_neg (by decide), e2, zp_eq]
  have j2 : J 11 2 = zi ((10 * num (cd 2) + num (cd 3) : Nat) : Int) := by rw [← hJ, zp_at, if_neg (by decide), zp_at, if_neg (by decide), e4, zp_eq]
  have j3 : J 11 3 = zi (num (cd 4)) := by rw [← hJ, zp_at, if_neg (by decide), zp_eq]
  have jf : ∀ o, o ≠ 11 → J o = I o := fun o ho => by rw [← hJ, zp_ne ho, zp_ne ho, e4, zp_ne ho, e2, zp_ne ho]
  clear hJ
  refine zLoop.inv (fun s σ => σ.1 = zi s ∧ (∀ a, (a < 12 ∨ 15 < a) → σ.2 a = A a) ∧ ∀ q, q < s → σ.2 12 q = zi (dk (tD cd m) q) ∧ σ.2 13 q = zi (dt (tD cd m) q) ∧ σ.2 14 q = zi (dw (tD cd m) q) ∧ σ.2 15 q = zi (dc (tD cd m) q)) m ⟨rfl, fun _ _ => rfl, fun q h => by omega⟩ ?_ ?_
  · rintro s ⟨v4, A1⟩ hsm ⟨g1, g2, g3⟩ K hk
    simp only at g1 g2 g3
    subst g1
    have hz := zin_n (L := 6) (s := s) (by omega) (by decide)
    obtain ⟨s1, s2, s3, s4, s5⟩ := hs s hsm
    have hc : ∀ x, x < n → A1 4 (i + x) = cd x := fun x hx => by rw [g2 4 (by decide)]; exact hcd x hx
    simp only [L_X0_become_r11_r4_46]
    rw [j0, zle_n (by omega) (by omega), zi_nat' (show s < 2147483648 by omega), show (zi (i : Int) + 5) + zi s * 6 + 1 = zi ((i + (5 + 6 * s + 1) : Nat) : Int) from by rw [show (5 : Int32) = zi 5 from rfl, show (6 : Int32) = zi 6 from rfl, zq1, zi_mul, zi_add, zi_add, zi_add]; congr 1; omega, zi_nat' (show i + (5 + 6 * s + 1) < 2147483648 by omega), hc (5 + 6 * s + 1) (by omega)]
    refine ⟨fun q => by omega, fun _ => ⟨zin_n (by omega) (by decide), C_kindOf s1 (fun x9 e9 => ⟨hz, fun A10 e10 => ?_⟩)⟩⟩
    have h9 : ∀ (y : Int32) (k : Nat), y = zi k → x9 + y = zi ((i + (5 + 6 * s + k) : Nat) : Int) := by
      rintro y k rfl
      rw [e9, show (5 : Int32) = zi 5 from rfl, show (6 : Int32) = zi 6 from rfl, zi_mul, zi_add, zi_add, zi_add]; congr 1; omega
    have c10 : ∀ x, x < n → A10 4 (i + x) = cd x := fun x hx => by rw [e10, zw_ne (by decide)]; exact hc x hx
    rw [h9 2 2 rfl, h9 3 3 rfl, h9 4 4 rfl]
    refine C_digit_4 (by omega) (c10 (5 + 6 * s + 2) (by omega)) s2 ⟨hz, fun A12 e12 => ?_⟩
    have c12 : ∀ x, x < n → A12 4 (i + x) = cd x := fun x hx => by rw [e12, zw_ne (by decide)]; exact c10 x hx
    refine C_digit_4 (by omega) (c12 (5 + 6 * s + 3) (by omega)) s3 ⟨hz, fun A14 e14 => ?_⟩
    have c14 : ∀ x, x < n → A14 4 (i + x) = cd x := fun x hx => by rw [e14, zw_ne (by decide)]; exact c12 x hx
    refine C_two_4 (by omega) (c14 (5 + 6 * s + 4) (by omega)) (c14 (5 + 6 * s + 4 + 1) (by omega)) s4 s5 ⟨hz, ?_⟩
    rw [zi_succ]
    refine hk _ ⟨rfl, fun a ha => ?_, fun q hq2 => ?_⟩
    · dsimp only
      rw [zw_ne (by omega), e14, zw_ne (by omega), e12, zw_ne (by omega), e10, zw_ne (by omega)]; exact g2 a ha
    · dsimp only
      subst e14; subst e12; subst e10
      simp only [zw_at, zw_ne (show (12 : Nat) ≠ 15 by decide), zw_ne (show (12 : Nat) ≠ 14 by decide), zw_ne (show (12 : Nat) ≠ 13 by decide), zw_ne (show (13 : Nat) ≠ 15 by decide), zw_ne (show (13 : Nat) ≠ 14 by decide), zw_ne (show (13 : Nat) ≠ 12 by decide), zw_ne (show (14 : Nat) ≠ 15 by decide), zw_ne (show (14 : Nat) ≠ 13 by decide), zw_ne (show (14 : Nat) ≠ 12 by decide), zw_ne (show (15 : Nat) ≠ 14 by decide), zw_ne (show (15 : Nat) ≠ 13 by decide), zw_ne (show (15 : Nat) ≠ 12 by decide)]
      by_cases e : q = s
      · subst e
        obtain ⟨t1, t2, t3, t4⟩ := tD_s (cd := cd) hsm
        rw [t1, t2, t3, t4]
        simp only [if_true]; exact ⟨trivial, trivial, trivial, trivial⟩
      · simp only [if_neg e]; exact g3 q (by omega)
  · rintro ⟨v4, A1⟩ ⟨g1, g2, g3⟩ K
    simp only at g1 g2 g3
    subst g1
    simp only [L_X0_become_r11_r4_46]
    rw [j0, zle_n (by omega) (by omega)]
    refine ⟨fun _ => ?_, fun q => absurd (Nat.le_refl _) q⟩
    have hdn : dn (tD cd m) = m := rfl
    refine C_findComing (D := tD cd m) hd j0 (fun s h => (g3 s h).2.2.2) (fun A6 f6 e6 => C_findLoads (D := tD cd m) hd j0 (fun s h => ?_) (fun A7 f7 e7 => ?_))
    · rw [f6 12 (by decide), f6 14 (by decide)]; exact ⟨(g3 s h).1, (g3 s h).2.2.1⟩
    refine hq J A7 jf (fun a ha => by rw [f7 a (by omega), f6 a (by omega)]; exact g2 a (by omega)) ⟨j0, j1, j2, j3, fun s h => ?_, fun d hd6 => by rw [f7 16 (by decide)]; exact e6 d hd6, fun p hp => ?_⟩
    · rw [f7 12 (by decide), f7 13 (by decide), f7 14 (by decide), f7 15 (by decide), f6 12 (by decide), f6 13 (by decide), f6 14 (by decide), f6 15 (by decide)]; exact g3 s h
    · rw [e7 _ (zmk_lt p), zld_congr (q := p) (fun s h6 => ?_)]
      unfold zup
      by_cases e : s < dn (tD cd m)
      · rw [decide_eq_true e, Bool.true_and]; exact zmk_tb p h6
      · rw [decide_eq_false e, Bool.false_and, hp s (by omega) h6]
theorem C_digit_6 {Ln : Nat} {cd : Nat → Int32} {i x lo hi : Nat} {I A : Nat → Nat → Int32} {Q : Int32 → Prop} (hx : i + x < 60) (hA : A 6 (i + x) = cd x) (hd : dg (cd x) lo hi = true) (hq : Q (zi (num (cd x)))) : W_X5_digit_r6 Ln I A (zi ((i + x : Nat) : Int)) Q := by
  unfold W_X5_digit_r6
  rw [zi_nat' (by omega), hA, (dg_num hd).1]
  exact ⟨zin_n hx (by decide), hq⟩
theorem C_two_6 {Ln : Nat} {cd : Nat → Int32} {i x lo hi lo2 hi2 : Nat} {I A : Nat → Nat → Int32} {Q : Int32 → Prop} (hx : i + x + 1 < 60) (hA : A 6 (i + x) = cd x) (hA2 : A 6 (i + (x + 1)) = cd (x + 1)) (hd : dg (cd x) lo hi = true) (hd2 : dg (cd (x + 1)) lo2 hi2 = true) (hq : Q (zi ((10 * num (cd x) + num (cd (x + 1)) : Nat) : Int))) : W_X5_twoDigits_r6 Ln I A (zi ((i + x : Nat) : Int)) Q := by
  unfold W_X5_twoDigits_r6
  refine C_digit_6 (by omega) hA hd ?_
  rw [zi_succ, show i + x + 1 = i + (x + 1) from rfl]
  refine C_digit_6 (by omega) hA2 hd2 ?_
  rw [zq10, zi_mul, zi_add]; exact hq
theorem C_become_6 {Ln : Nat} {cd : Nat → Int32} {i n m : Nat} {I A : Nat → Nat → Int32} {Q : (Nat → Nat → Int32) → (Nat → Nat → Int32) → Prop} (hi : i + n ≤ 60) (hcd : ∀ x, x < n → A 6 (i + x) = cd x) (hnm : n = 5 + 6 * m) (hm1 : 1 ≤ m) (hm6 : m ≤ 6) (hall : ∀ q, q < n → zms cd q = true) (hq : ∀ I' A', (∀ o, o ≠ 11 → I' o = I o) → (∀ a, (a < 12 ∨ 17 < a) → A' a = A a) → CB (tD cd m) I' A' → Q I' A') : W_X0_become_r11_r6 Ln I A (zi i) (zi n) Q := by
  obtain ⟨⟨d1, d2, d3, d4⟩, hs⟩ := okd hnm hm6 hall
  have hd := tD_ok hnm hm6 hall
  unfold W_X0_become_r11_r6
  rw [show zi (i : Int) + 1 = zi ((i + 1 : Nat) : Int) from by rw [zq1, zi_add]; rfl, show zi (i : Int) + 2 = zi ((i + 2 : Nat) : Int) from by rw [zq2, zi_add]; rfl, show zi (i : Int) + 4 = zi ((i + 4 : Nat) : Int) from by rw [zq4, zi_add]; rfl, (zmod6 (n := n) (by omega) (by omega)).2, show (n - 5) / 6 = m by omega]
  refine C_digit_6 (by omega) (hcd 1 (by omega)) d1 (fun I2 e2 => C_two_6 (by omega) (hcd 2 (by omega)) (hcd 3 (by omega)) d2 d3 (fun I4 e4 => C_digit_6 (by omega) (hcd 4 (by omega)) d4 ?_))
  generalize hJ : zp (zp I4 11 3 (zi (num (cd 4)))) 11 0 (zi m) = J
  have j0 : J 11 0 = zi m := by rw [← hJ, zp_eq]
  have j1 : J 11 1 = zi (num (cd 1)) := by rw [← hJ, zp_at, if_neg (by decide), zp_at, if_neg (by decide), e4, zp_at, if_neg (by decide), e2, zp_eq]
  have j2 : J 11 2 = zi ((10 * num (cd 2) + num (cd 3) : Nat) : Int) := by rw [← hJ, zp_at, if_neg (by decide), zp_at, if_neg (by decide), e4, zp_eq]
  have j3 : J 11 3 = zi (num (cd 4)) := by rw [← hJ, zp_at, if_neg (by decide), zp_eq]
  have jf : ∀ o, o ≠ 11 → J o = I o := fun o ho => by rw [← hJ, zp_ne ho, zp_ne ho, e4, zp_ne ho, e2, zp_ne ho]
  clear hJ
  refine zLoop.inv (fun s σ => σ.1 = zi s ∧ (∀ a, (a < 12 ∨ 15 < a) → σ.2 a = A a) ∧ ∀ q, q < s → σ.2 12 q = zi (dk (tD cd m) q) ∧ σ.2 13 q = zi (dt (tD cd m) q) ∧ σ.2 14 q = zi (dw (tD cd m) q) ∧ σ.2 15 q = zi (dc (tD cd m) q)) m ⟨rfl, fun _ _ => rfl, fun q h => by omega⟩ ?_ ?_
  · rintro s ⟨v4, A1⟩ hsm ⟨g1, g2, g3⟩ K hk
    simp only at g1 g2 g3
    subst g1
    have hz := zin_n (L := 6) (s := s) (by omega) (by decide)
    obtain ⟨s1, s2, s3, s4, s5⟩ := hs s hsm
    have hc : ∀ x, x < n → A1 6 (i + x) = cd x := fun x hx => by rw [g2 6 (by decide)]; exact hcd x hx
    simp only [L_X0_become_r11_r6_46]
    rw [j0, zle_n (by omega) (by omega), zi_nat' (show s < 2147483648 by omega), show (zi (i : Int) + 5) + zi s * 6 + 1 = zi ((i + (5 + 6 * s + 1) : Nat) : Int) from by rw [show (5 : Int32) = zi 5 from rfl, show (6 : Int32) = zi 6 from rfl, zq1, zi_mul, zi_add, zi_add, zi_add]; congr 1; omega, zi_nat' (show i + (5 + 6 * s + 1) < 2147483648 by omega), hc (5 + 6 * s + 1) (by omega)]
    refine ⟨fun q => by omega, fun _ => ⟨zin_n (by omega) (by decide), C_kindOf s1 (fun x9 e9 => ⟨hz, fun A10 e10 => ?_⟩)⟩⟩
    have h9 : ∀ (y : Int32) (k : Nat), y = zi k → x9 + y = zi ((i + (5 + 6 * s + k) : Nat) : Int) := by
      rintro y k rfl
      rw [e9, show (5 : Int32) = zi 5 from rfl, show (6 : Int32) = zi 6 from rfl, zi_mul, zi_add, zi_add, zi_add]; congr 1; omega
    have c10 : ∀ x, x < n → A10 6 (i + x) = cd x := fun x hx => by rw [e10, zw_ne (by decide)]; exact hc x hx
    rw [h9 2 2 rfl, h9 3 3 rfl, h9 4 4 rfl]
    refine C_digit_6 (by omega) (c10 (5 + 6 * s + 2) (by omega)) s2 ⟨hz, fun A12 e12 => ?_⟩
    have c12 : ∀ x, x < n → A12 6 (i + x) = cd x := fun x hx => by rw [e12, zw_ne (by decide)]; exact c10 x hx
    refine C_digit_6 (by omega) (c12 (5 + 6 * s + 3) (by omega)) s3 ⟨hz, fun A14 e14 => ?_⟩
    have c14 : ∀ x, x < n → A14 6 (i + x) = cd x := fun x hx => by rw [e14, zw_ne (by decide)]; exact c12 x hx
    refine C_two_6 (by omega) (c14 (5 + 6 * s + 4) (by omega)) (c14 (5 + 6 * s + 4 + 1) (by omega)) s4 s5 ⟨hz, ?_⟩
    rw [zi_succ]
    refine hk _ ⟨rfl, fun a ha => ?_, fun q hq2 => ?_⟩
    · dsimp only
      rw [zw_ne (by omega), e14, zw_ne (by omega), e12, zw_ne (by omega), e10, zw_ne (by omega)]; exact g2 a ha
    · dsimp only
      subst e14; subst e12; subst e10
      simp only [zw_at, zw_ne (show (12 : Nat) ≠ 15 by decide), zw_ne (show (12 : Nat) ≠ 14 by decide), zw_ne (show (12 : Nat) ≠ 13 by decide), zw_ne (show (13 : Nat) ≠ 15 by decide), zw_ne (show (13 : Nat) ≠ 14 by decide), zw_ne (show (13 : Nat) ≠ 12 by decide), zw_ne (show (14 : Nat) ≠ 15 by decide), zw_ne (show (14 : Nat) ≠ 13 by decide), zw_ne (show (14 : Nat) ≠ 12 by decide), zw_ne (show (15 : Nat) ≠ 14 by decide), zw_ne (show (15 : Nat) ≠ 13 by decide), zw_ne (show (15 : Nat) ≠ 12 by decide)]
      by_cases e : q = s
      · subst e
        obtain ⟨t1, t2, t3, t4⟩ := tD_s (cd := cd) hsm
        rw [t1, t2, t3, t4]
        simp only [if_true]; exact ⟨trivial, trivial, trivial, trivial⟩
      · simp only [if_neg e]; exact g3 q (by omega)
  · rintro ⟨v4, A1⟩ ⟨g1, g2, g3⟩ K
    simp only at g1 g2 g3
    subst g1
    simp only [L_X0_become_r11_r6_46]
    rw [j0, zle_n (by omega) (by omega)]
    refine ⟨fun _ => ?_, fun q => absurd (Nat.le_refl _) q⟩
    have hdn : dn (tD cd m) = m := rfl
    refine C_findComing (D := tD cd m) hd j0 (fun s h => (g3 s h).2.2.2) (fun A6 f6 e6 => C_findLoads (D := tD cd m) hd j0 (fun s h => ?_) (fun A7 f7 e7 => ?_))
    · rw [f6 12 (by decide), f6 14 (by decide)]; exact ⟨(g3 s h).1, (g3 s h).2.2.1⟩
    refine hq J A7 jf (fun a ha => by rw [f7 a (by omega), f6 a (by omega)]; exact g2 a (by omega)) ⟨j0, j1, j2, j3, fun s h => ?_, fun d hd6 => by rw [f7 16 (by decide)]; exact e6 d hd6, fun p hp => ?_⟩
    · rw [f7 12 (by decide), f7 13 (by decide), f7 14 (by decide), f7 15 (by decide), f6 12 (by decide), f6 13 (by decide), f6 14 (by decide), f6 15 (by decide)]; exact g3 s h
    · rw [e7 _ (zmk_lt p), zld_congr (q := p) (fun s h6 => ?_)]
      unfold zup
      by_cases e : s < dn (tD cd m)
      · rw [decide_eq_true e, Bool.true_and]; exact zmk_tb p h6
      · rw [decide_eq_false e, Bool.false_and, hp s (by omega) h6]
theorem C_digit_8 {Ln : Nat} {cd : Nat → Int32} {i x lo hi : Nat} {I A : Nat → Nat → Int32} {Q : Int32 → Prop} (hx : i + x < 60) (hA : A 8 (i + x) = cd x) (hd : dg (cd x) lo hi = true) (hq : Q (zi (num (cd x)))) : W_X5_digit_r8 Ln I A (zi ((i + x : Nat) : Int)) Q := by
  unfold W_X5_digit_r8
  rw [zi_nat' (by omega), hA, (dg_num hd).1]
  exact ⟨zin_n hx (by decide), hq⟩
theorem C_two_8 {Ln : Nat} {cd : Nat → Int32} {i x lo hi lo2 hi2 : Nat} {I A : Nat → Nat → Int32} {Q : Int32 → Prop} (hx : i + x + 1 < 60) (hA : A 8 (i + x) = cd x) (hA2 : A 8 (i + (x + 1)) = cd (x + 1)) (hd : dg (cd x) lo hi = true) (hd2 : dg (cd (x + 1)) lo2 hi2 = true) (hq : Q (zi ((10 * num (cd x) + num (cd (x + 1)) : Nat) : Int))) : W_X5_twoDigits_r8 Ln I A (zi ((i + x : Nat) : Int)) Q := by
  unfold W_X5_twoDigits_r8
  refine C_digit_8 (by omega) hA hd ?_
  rw [zi_succ, show i + x + 1 = i + (x + 1) from rfl]
  refine C_digit_8 (by omega) hA2 hd2 ?_
  rw [zq10, zi_mul, zi_add]; exact hq
theorem C_become_8 {Ln : Nat} {cd : Nat → Int32} {i n m : Nat} {I A : Nat → Nat → Int32} {Q : (Nat → Nat → Int32) → (Nat → Nat → Int32) → Prop} (hi : i + n ≤ 60) (hcd : ∀ x, x < n → A 8 (i + x) = cd x) (hnm : n = 5 + 6 * m) (hm1 : 1 ≤ m) (hm6 : m ≤ 6) (hall : ∀ q, q < n → zms cd q = true) (hq : ∀ I' A', (∀ o, o ≠ 11 → I' o = I o) → (∀ a, (a < 12 ∨ 17 < a) → A' a = A a) → CB (tD cd m) I' A' → Q I' A') : W_X0_become_r11_r8 Ln I A (zi i) (zi n) Q := by
  obtain ⟨⟨d1, d2, d3, d4⟩, hs⟩ := okd hnm hm6 hall
  have hd := tD_ok hnm hm6 hall
  unfold W_X0_become_r11_r8
  rw [show zi (i : Int) + 1 = zi ((i + 1 : Nat) : Int) from by rw [zq1, zi_add]; rfl, show zi (i : Int) + 2 = zi ((i + 2 : Nat) : Int) from by rw [zq2, zi_add]; rfl, show zi (i : Int) + 4 = zi ((i + 4 : Nat) : Int) from by rw [zq4, zi_add]; rfl, (zmod6 (n := n) (by omega) (by omega)).2, show (n - 5) / 6 = m by omega]
  refine C_digit_8 (by omega) (hcd 1 (by omega)) d1 (fun I2 e2 => C_two_8 (by omega) (hcd 2 (by omega)) (hcd 3 (by omega)) d2 d3 (fun I4 e4 => C_digit_8 (by omega) (hcd 4 (by omega)) d4 ?_))
  generalize hJ : zp (zp I4 11 3 (zi (num (cd 4)))) 11 0 (zi m) = J
  have j0 : J 11 0 = zi m := by rw [← hJ, zp_eq]
  have j1 : J 11 1 = zi (num (cd 1)) := by rw [← hJ, zp_at, if_neg (by decide), zp_at, if_neg (by decide), e4, zp_at, if_neg (by decide), e2, zp_eq]
  have j2 : J 11 2 = zi ((10 * num (cd 2) + num (cd 3) : Nat) : Int) := by rw [← hJ, zp_at, if_neg (by decide), zp_at, if_neg (by decide), e4, zp_eq]
  have j3 : J 11 3 = zi (num (cd 4)) := by rw [← hJ, zp_at, if_neg (by decide), zp_eq]
  have jf : ∀ o, o ≠ 11 → J o = I o := fun o ho => by rw [← hJ, zp_ne ho, zp_ne ho, e4, zp_ne ho, e2, zp_ne ho]
  clear hJ
  refine zLoop.inv (fun s σ => σ.1 = zi s ∧ (∀ a, (a < 12 ∨ 15 < a) → σ.2 a = A a) ∧ ∀ q, q < s → σ.2 12 q = zi (dk (tD cd m) q) ∧ σ.2 13 q = zi (dt (tD cd m) q) ∧ σ.2 14 q = zi (dw (tD cd m) q) ∧ σ.2 15 q = zi (dc (tD cd m) q)) m ⟨rfl, fun _ _ => rfl, fun q h => by omega⟩ ?_ ?_
  · rintro s ⟨v4, A1⟩ hsm ⟨g1, g2, g3⟩ K hk
    simp only at g1 g2 g3
    subst g1
    have hz := zin_n (L := 6) (s := s) (by omega) (by decide)
    obtain ⟨s1, s2, s3, s4, s5⟩ := hs s hsm
    have hc : ∀ x, x < n → A1 8 (i + x) = cd x := fun x hx => by rw [g2 8 (by decide)]; exact hcd x hx
    simp only [L_X0_become_r11_r8_46]
    rw [j0, zle_n (by omega) (by omega), zi_nat' (show s < 2147483648 by omega), show (zi (i : Int) + 5) + zi s * 6 + 1 = zi ((i + (5 + 6 * s + 1) : Nat) : Int) from by rw [show (5 : Int32) = zi 5 from rfl, show (6 : Int32) = zi 6 from rfl, zq1, zi_mul, zi_add, zi_add, zi_add]; congr 1; omega, zi_nat' (show i + (5 + 6 * s + 1) < 2147483648 by omega), hc (5 + 6 * s + 1) (by omega)]
    refine ⟨fun q => by omega, fun _ => ⟨zin_n (by omega) (by decide), C_kindOf s1 (fun x9 e9 => ⟨hz, fun A10 e10 => ?_⟩)⟩⟩
    have h9 : ∀ (y : Int32) (k : Nat), y = zi k → x9 + y = zi ((i + (5 + 6 * s + k) : Nat) : Int) := by
      rintro y k rfl
      rw [e9, show (5 : Int32) = zi 5 from rfl, show (6 : Int32) = zi 6 from rfl, zi_mul, zi_add, zi_add, zi_add]; congr 1; omega
    have c10 : ∀ x, x < n → A10 8 (i + x) = cd x := fun x hx => by rw [e10, zw_ne (by decide)]; exact hc x hx
    rw [h9 2 2 rfl, h9 3 3 rfl, h9 4 4 rfl]
    refine C_digit_8 (by omega) (c10 (5 + 6 * s + 2) (by omega)) s2 ⟨hz, fun A12 e12 => ?_⟩
    have c12 : ∀ x, x < n → A12 8 (i + x) = cd x := fun x hx => by rw [e12, zw_ne (by decide)]; exact c10 x hx
    refine C_digit_8 (by omega) (c12 (5 + 6 * s + 3) (by omega)) s3 ⟨hz, fun A14 e14 => ?_⟩
    have c14 : ∀ x, x < n → A14 8 (i + x) = cd x := fun x hx => by rw [e14, zw_ne (by decide)]; exact c12 x hx
    refine C_two_8 (by omega) (c14 (5 + 6 * s + 4) (by omega)) (c14 (5 + 6 * s + 4 + 1) (by omega)) s4 s5 ⟨hz, ?_⟩
    rw [zi_succ]
    refine hk _ ⟨rfl, fun a ha => ?_, fun q hq2 => ?_⟩
    · dsimp only
      rw [zw_ne (by omega), e14, zw_ne (by omega), e12, zw_ne (by omega), e10, zw_ne (by omega)]; exact g2 a ha
    · dsimp only
      subst e14; subst e12; subst e10
      simp only [zw_at, zw_ne (show (12 : Nat) ≠ 15 by decide), zw_ne (show (12 : Nat) ≠ 14 by decide), zw_ne (show (12 : Nat) ≠ 13 by decide), zw_ne (show (13 : Nat) ≠ 15 by decide), zw_ne (show (13 : Nat) ≠ 14 by decide), zw_ne (show (13 : Nat) ≠ 12 by decide), zw_ne (show (14 : Nat) ≠ 15 by decide), zw_ne (show (14 : Nat) ≠ 13 by decide), zw_ne (show (14 : Nat) ≠ 12 by decide), zw_ne (show (15 : Nat) ≠ 14 by decide), zw_ne (show (15 : Nat) ≠ 13 by decide), zw_ne (show (15 : Nat) ≠ 12 by decide)]
      by_cases e : q = s
      · subst e
        obtain ⟨t1, t2, t3, t4⟩ := tD_s (cd := cd) hsm
        rw [t1, t2, t3, t4]
        simp only [if_true]; exact ⟨trivial, trivial, trivial, trivial⟩
      · simp only [if_neg e]; exact g3 q (by omega)
  · rintro ⟨v4, A1⟩ ⟨g1, g2, g3⟩ K
    simp only at g1 g2 g3
    subst g1
    simp only [L_X0_become_r11_r8_46]
    rw [j0, zle_n (by omega) (by omega)]
    refine ⟨fun _ => ?_, fun q => absurd (Nat.le_refl _) q⟩
    have hdn : dn (tD cd m) = m := rfl
    refine C_findComing (D := tD cd m) hd j0 (fun s h => (g3 s h).2.2.2) (fun A6 f6 e6 => C_findLoads (D := tD cd m) hd j0 (fun s h => ?_) (fun A7 f7 e7 => ?_))
    · rw [f6 12 (by decide), f6 14 (by decide)]; exact ⟨(g3 s h).1, (g3 s h).2.2.1⟩
    refine hq J A7 jf (fun a ha => by rw [f7 a (by omega), f6 a (by omega)]; exact g2 a (by omega)) ⟨j0, j1, j2, j3, fun s h => ?_, fun d hd6 => by rw [f7 16 (by decide)]; exact e6 d hd6, fun p hp => ?_⟩
    · rw [f7 12 (by decide), f7 13 (by decide), f7 14 (by decide), f7 15 (by decide), f6 12 (by decide), f6 13 (by decide), f6 14 (by decide), f6 15 (by decide)]; exact g3 s h
    · rw [e7 _ (zmk_lt p), zld_congr (q := p) (fun s h6 => ?_)]
      unfold zup
      by_cases e : s < dn (tD cd m)
      · rw [decide_eq_true e, Bool.true_and]; exact zmk_tb p h6
      · rw [decide_eq_false e, Bool.false_and, hp s (by omega) h6]
theorem C_digit_10 {Ln : Nat} {cd : Nat → Int32} {i x lo hi : Nat} {I A : Nat → Nat → Int32} {Q : Int32 → Prop} (hx : i + x < 60) (hA : A 10 (i + x) = cd x) (hd : dg (cd x) lo hi = true) (hq : Q (zi (num (cd x)))) : W_X5_digit_r10 Ln I A (zi ((i + x : Nat) : Int)) Q := by
  unfold W_X5_digit_r10
  rw [zi_nat' (by omega), hA, (dg_num hd).1]
  exact ⟨zin_n hx (by decide), hq⟩
theorem C_two_10 {Ln : Nat} {cd : Nat → Int32} {i x lo hi lo2 hi2 : Nat} {I A : Nat → Nat → Int32} {Q : Int32 → Prop} (hx : i + x + 1 < 60) (hA : A 10 (i + x) = cd x) (hA2 : A 10 (i + (x + 1)) = cd (x + 1)) (hd : dg (cd x) lo hi = true) (hd2 : dg (cd (x + 1)) lo2 hi2 = true) (hq : Q (zi ((10 * num (cd x) + num (cd (x + 1)) : Nat) : Int))) : W_X5_twoDigits_r10 Ln I A (zi ((i + x : Nat) : Int)) Q := by
  unfold W_X5_twoDigits_r10
  refine C_digit_10 (by omega) hA hd ?_
  rw [zi_succ, show i + x + 1 = i + (x + 1) from rfl]
  refine C_digit_10 (by omega) hA2 hd2 ?_
  rw [zq10, zi_mul, zi_add]; exact hq
theorem C_become_10 {Ln : Nat} {cd : Nat → Int32} {i n m : Nat} {I A : Nat → Nat → Int32} {Q : (Nat → Nat → Int32) → (Nat → Nat → Int32) → Prop} (hi : i + n ≤ 60) (hcd : ∀ x, x < n → A 10 (i + x) = cd x) (hnm : n = 5 + 6 * m) (hm1 : 1 ≤ m) (hm6 : m ≤ 6) (hall : ∀ q, q < n → zms cd q = true) (hq : ∀ I' A', (∀ o, o ≠ 11 → I' o = I o) → (∀ a, (a < 12 ∨ 17 < a) → A' a = A a) → CB (tD cd m) I' A' → Q I' A') : W_X0_become_r11_r10 Ln I A (zi i) (zi n) Q := by
  obtain ⟨⟨d1, d2, d3, d4⟩, hs⟩ := okd hnm hm6 hall
  have hd := tD_ok hnm hm6 hall
  unfold W_X0_become_r11_r10
  rw [show zi (i : Int) + 1 = zi ((i + 1 : Nat) : Int) from by rw [zq1, zi_add]; rfl, show zi (i : Int) + 2 = zi ((i + 2 : Nat) : Int) from by rw [zq2, zi_add]; rfl, show zi (i : Int) + 4 = zi ((i + 4 : Nat) : Int) from by rw [zq4, zi_add]; rfl, (zmod6 (n := n) (by omega) (by omega)).2, show (n - 5) / 6 = m by omega]
  refine C_digit_10 (by omega) (hcd 1 (by omega)) d1 (fun I2 e2 => C_two_10 (by omega) (hcd 2 (by omega)) (hcd 3 (by omega)) d2 d3 (fun I4 e4 => C_digit_10 (by omega) (hcd 4 (by omega)) d4 ?_))
  generalize hJ : zp (zp I4 11 3 (zi (num (cd 4)))) 11 0 (zi m) = J
  have j0 : J 11 0 = zi m := by rw [← hJ, zp_eq]
  have j1 : J 11 1 = zi (num (cd 1)) := by rw [← hJ, zp_at, if_neg (by decide), zp_at, if_neg (by decide), e4, zp_at, if_neg (by decide), e2, zp_eq]
  have j2 : J 11 2 = zi ((10 * num (cd 2) + num (cd 3) : Nat) : Int) := by rw [← hJ, zp_at, if_neg (by decide), zp_at, if_neg (by decide), e4, zp_eq]
  have j3 : J 11 3 = zi (num (cd 4)) := by rw [← hJ, zp_at, if_neg (by decide), zp_eq]
  have jf : ∀ o, o ≠ 11 → J o = I o := fun o ho => by rw [← hJ, zp_ne ho, zp_ne ho, e4, zp_ne ho, e2, zp_ne ho]
  clear hJ
  refine zLoop.inv (fun s σ => σ.1 = zi s ∧ (∀ a, (a < 12 ∨ 15 < a) → σ.2 a = A a) ∧ ∀ q, q < s → σ.2 12 q = zi (dk (tD cd m) q) ∧ σ.2 13 q = zi (dt (tD cd m) q) ∧ σ.2 14 q = zi (dw (tD cd m) q) ∧ σ.2 15 q = zi (dc (tD cd m) q)) m ⟨rfl, fun _ _ => rfl, fun q h => by omega⟩ ?_ ?_
  · rintro s ⟨v4, A1⟩ hsm ⟨g1, g2, g3⟩ K hk
    simp only at g1 g2 g3
    subst g1
    have hz := zin_n (L := 6) (s := s) (by omega) (by decide)
    obtain ⟨s1, s2, s3, s4, s5⟩ := hs s hsm
    have hc : ∀ x, x < n → A1 10 (i + x) = cd x := fun x hx => by rw [g2 10 (by decide)]; exact hcd x hx
    simp only [L_X0_become_r11_r10_46]
    rw [j0, zle_n (by omega) (by omega), zi_nat' (show s < 2147483648 by omega), show (zi (i : Int) + 5) + zi s * 6 + 1 = zi ((i + (5 + 6 * s + 1) : Nat) : Int) from by rw [show (5 : Int32) = zi 5 from rfl, show (6 : Int32) = zi 6 from rfl, zq1, zi_mul, zi_add, zi_add, zi_add]; congr 1; omega, zi_nat' (show i + (5 + 6 * s + 1) < 2147483648 by omega), hc (5 + 6 * s + 1) (by omega)]
    refine ⟨fun q => by omega, fun _ => ⟨zin_n (by omega) (by decide), C_kindOf s1 (fun x9 e9 => ⟨hz, fun A10 e10 => ?_⟩)⟩⟩
    have h9 : ∀ (y : Int32) (k : Nat), y = zi k → x9 + y = zi ((i + (5 + 6 * s + k) : Nat) : Int) := by
      rintro y k rfl
      rw [e9, show (5 : Int32) = zi 5 from rfl, show (6 : Int32) = zi 6 from rfl, zi_mul, zi_add, zi_add, zi_add]; congr 1; omega
    have c10 : ∀ x, x < n → A10 10 (i + x) = cd x := fun x hx => by rw [e10, zw_ne (by decide)]; exact hc x hx
    rw [h9 2 2 rfl, h9 3 3 rfl, h9 4 4 rfl]
    refine C_digit_10 (by omega) (c10 (5 + 6 * s + 2) (by omega)) s2 ⟨hz, fun A12 e12 => ?_⟩
    have c12 : ∀ x, x < n → A12 10 (i + x) = cd x := fun x hx => by rw [e12, zw_ne (by decide)]; exact c10 x hx
    refine C_digit_10 (by omega) (c12 (5 + 6 * s + 3) (by omega)) s3 ⟨hz, fun A14 e14 => ?_⟩
    have c14 : ∀ x, x < n → A14 10 (i + x) = cd x := fun x hx => by rw [e14, zw_ne (by decide)]; exact c12 x hx
    refine C_two_10 (by omega) (c14 (5 + 6 * s + 4) (by omega)) (c14 (5 + 6 * s + 4 + 1) (by omega)) s4 s5 ⟨hz, ?_⟩
    rw [zi_succ]
    refine hk _ ⟨rfl, fun a ha => ?_, fun q hq2 => ?_⟩
    · dsimp only
      rw [zw_ne (by omega), e14, zw_ne (by omega), e12, zw_ne (by omega), e10, zw_ne (by omega)]; exact g2 a ha
    · dsimp only
      subst e14; subst e12; subst e10
      simp only [zw_at, zw_ne (show (12 : Nat) ≠ 15 by decide), zw_ne (show (12 : Nat) ≠ 14 by decide), zw_ne (show (12 : Nat) ≠ 13 by decide), zw_ne (show (13 : Nat) ≠ 15 by decide), zw_ne (show (13 : Nat) ≠ 14 by decide), zw_ne (show (13 : Nat) ≠ 12 by decide), zw_ne (show (14 : Nat) ≠ 15 by decide), zw_ne (show (14 : Nat) ≠ 13 by decide), zw_ne (show (14 : Nat) ≠ 12 by decide), zw_ne (show (15 : Nat) ≠ 14 by decide), zw_ne (show (15 : Nat) ≠ 13 by decide), zw_ne (show (15 : Nat) ≠ 12 by decide)]
      by_cases e : q = s
      · subst e
        obtain ⟨t1, t2, t3, t4⟩ := tD_s (cd := cd) hsm
        rw [t1, t2, t3, t4]
        simp only [if_true]; exact ⟨trivial, trivial, trivial, trivial⟩
      · simp only [if_neg e]; exact g3 q (by omega)
  · rintro ⟨v4, A1⟩ ⟨g1, g2, g3⟩ K
    simp only at g1 g2 g3
    subst g1
    simp only [L_X0_become_r11_r10_46]
    rw [j0, zle_n (by omega) (by omega)]
    refine ⟨fun _ => ?_, fun q => absurd (Nat.le_refl _) q⟩
    have hdn : dn (tD cd m) = m := rfl
    refine C_findComing (D := tD cd m) hd j0 (fun s h => (g3 s h).2.2.2) (fun A6 f6 e6 => C_findLoads (D := tD cd m) hd j0 (fun s h => ?_) (fun A7 f7 e7 => ?_))
    · rw [f6 12 (by decide), f6 14 (by decide)]; exact ⟨(g3 s h).1, (g3 s h).2.2.1⟩
    refine hq J A7 jf (fun a ha => by rw [f7 a (by omega), f6 a (by omega)]; exact g2 a (by omega)) ⟨j0, j1, j2, j3, fun s h => ?_, fun d hd6 => by rw [f7 16 (by decide)]; exact e6 d hd6, fun p hp => ?_⟩
    · rw [f7 12 (by decide), f7 13 (by decide), f7 14 (by decide), f7 15 (by decide), f6 12 (by decide), f6 13 (by decide), f6 14 (by decide), f6 15 (by decide)]; exact g3 s h
    · rw [e7 _ (zmk_lt p), zld_congr (q := p) (fun s h6 => ?_)]
      unfold zup
      by_cases e : s < dn (tD cd m)
      · rw [decide_eq_true e, Bool.true_and]; exact zmk_tb p h6
      · rw [decide_eq_false e, Bool.false_and, hp s (by omega) h6]
