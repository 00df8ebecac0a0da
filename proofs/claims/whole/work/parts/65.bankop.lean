/-! a bank by a text: both sides -/
theorem K_bankLoop {Ln : Nat} {m : Nat} {v1 v2 v3 v4 v5 : Int32} {I A : Nat → Nat → Int32} {Q : Int32 → (Nat → Nat → Int32) → (Nat → Nat → Int32) → Prop} (hm : m ≤ 6) (h4 : I 44 4 = zi m) (hq : ∀ A', (∀ a, (a < 45 ∨ 49 < a) → A' a = A a) → (∀ s, s < m → A' 45 s = A 50 s ∧ A' 46 s = A 51 s ∧ A' 47 s = A 52 s ∧ A' 48 s = A 53 s ∧ A' 49 s = A 51 s) → Q (zi m) (zp (zp (zp (zp I 44 10 0) 44 20 0) 44 31 0) 44 0 0) A') : zLoop (L_X8_bank_r44_114 Ln I v1 v2 v3 v4 v5 Q) (0, A) := by
  refine zLoop.inv (fun s σ => σ.1 = zi s ∧ (∀ a, (a < 45 ∨ 49 < a) → σ.2 a = A a) ∧ ∀ q, q < s → σ.2 45 q = A 50 q ∧ σ.2 46 q = A 51 q ∧ σ.2 47 q = A 52 q ∧ σ.2 48 q = A 53 q ∧ σ.2 49 q = A 51 q) m ⟨rfl, fun _ _ => rfl, fun q h => by omega⟩ ?_ ?_
  · rintro s ⟨v6, B⟩ hs ⟨g1, g2, g3⟩ K hk
    simp only at g1 g2 g3
    subst g1
    have hz := zin_n (L := 6) (s := s) (by omega) (by decide)
    simp only [L_X8_bank_r44_114]
    rw [h4, zle_n (by omega) (by omega), zi_nat' (show s < 2147483648 by omega), g2 50 (by decide), g2 51 (by decide), g2 52 (by decide), g2 53 (by decide), zi_succ]
    refine ⟨fun c => by omega, fun _ => ⟨hz, hz, hz, hz, hz, hz, hz, hz, hz, hz, hk _ ⟨rfl, fun a ha => ?_, fun q hq2 => ?_⟩⟩⟩
    · dsimp only
      rw [zw_ne (by omega), zw_ne (by omega), zw_ne (by omega), zw_ne (by omega), zw_ne (by omega)]; exact g2 a ha
    · dsimp only
      simp only [zw_at, zw_ne (show (45 : Nat) ≠ 49 by decide), zw_ne (show (45 : Nat) ≠ 48 by decide), zw_ne (show (45 : Nat) ≠ 47 by decide), zw_ne (show (45 : Nat) ≠ 46 by decide), zw_ne (show (46 : Nat) ≠ 49 by decide), zw_ne (show (46 : Nat) ≠ 48 by decide), zw_ne (show (46 : Nat) ≠ 47 by decide), zw_ne (show (46 : Nat) ≠ 45 by decide), zw_ne (show (47 : Nat) ≠ 49 by decide), zw_ne (show (47 : Nat) ≠ 48 by decide), zw_ne (show (47 : Nat) ≠ 46 by decide), zw_ne (show (47 : Nat) ≠ 45 by decide), zw_ne (show (48 : Nat) ≠ 49 by decide), zw_ne (show (48 : Nat) ≠ 47 by decide), zw_ne (show (48 : Nat) ≠ 46 by decide), zw_ne (show (48 : Nat) ≠ 45 by decide), zw_ne (show (49 : Nat) ≠ 48 by decide), zw_ne (show (49 : Nat) ≠ 47 by decide), zw_ne (show (49 : Nat) ≠ 46 by decide), zw_ne (show (49 : Nat) ≠ 45 by decide)]
      by_cases e : q = s
      · subst e
        simp only [if_true]; exact ⟨trivial, trivial, trivial, trivial, trivial⟩
      · simp only [if_neg e]; exact g3 q (by omega)
  · rintro ⟨v6, B⟩ ⟨g1, g2, g3⟩ K
    simp only at g1 g2 g3
    subst g1
    simp only [L_X8_bank_r44_114]
    unfold W_X8_refused_r44
    rw [h4, zle_n (by omega) (by omega)]
    exact ⟨fun _ => hq B g2 g3, fun q => absurd (Nat.le_refl _) q⟩
def eN : Nat → Nat → Nat := fun _ _ => 0
theorem zco_N {D : Nat → Nat → Nat} {s : Nat} : zco D eN s = (dt D s : Int) := by
  show (dt D s : Int) - ((0 : Nat) : Int) + ((0 : Nat) : Int) = (dt D s : Int)
  omega
theorem BE_N {D : Nat → Nat → Nat} : BE D eN := ⟨by decide, by decide, by decide, fun _ => Nat.zero_le _, fun j h => absurd h (Nat.not_lt_zero j), fun j h => absurd h (Nat.not_lt_zero j), fun _ => Nat.zero_le _⟩
theorem OP_bank_c0 {Ln : Nat} {xs : Nat → Int32} {I A : Nat → Nat → Int32} {v w u : Int32} {Q : Int32 → (Nat → Nat → Int32) → (Nat → Nat → Int32) → Prop} (hv : INV xs I A) (hq : ∀ x I' A', A' 0 = A 0 → (∀ Q2 : Int32 → (Nat → Nat → Int32) → (Nat → Nat → Int32) → Prop, (∀ I2 A2, INV xs I2 A2 → Q2 x I2 A2) → W_X8_bank_r44 Ln I' A' (zi (0 : Nat)) v w u Q2) → Q x I' A') : W_X7_bank_r1_c0 Ln I A v w u Q := by
  obtain ⟨D, E, hv⟩ := hv
  obtain ⟨hd, he, hb, hr, hc, ⟨h19, h42⟩, hl, hrd, hvn, ht, hsh, h0⟩ := hv.parts
  obtain ⟨b, l, n0, hs⟩ := hv.sh.at_0.d
  have hs0 := hs
  obtain ⟨h1, hl3, h3, h4, h5⟩ := hs
  unfold W_X7_bank_r1_c0 W_X7_faultless_r1 W_X7_faulted_r1
  refine C_isSheet_0 ⟨fun _ => ?_, fun c => absurd (show (1 : Int32) ≠ 0 by decide) c⟩
  by_cases hlv : 0 ≤ v.toInt ∧ v.toInt < (3 : Nat)
  · obtain ⟨l2, hl2, rfl⟩ := zasn hlv
    refine C_isLane_y hl2 ⟨fun _ => C_foc_3 hs0 ?_, fun c => absurd (show (1 : Int32) ≠ 0 by decide) c⟩
    have hfl := zff_le b l n0 (zi l2) w u
    have hK : ∀ (J B : Nat → Nat → Int32) (Q2 : Int32 → (Nat → Nat → Int32) → (Nat → Nat → Int32) → Prop), B 65 0 = A 65 0 → B 66 0 = A 66 0 → (zff b l n0 (zi l2) w u = 0 → W_X8_readsBank_r44 Ln J B ((60 * zi (0 : Nat)) + w) u (fun (r5 : Int32) (I6 : Nat → Nat → Int32) (A7 : Nat → Nat → Int32) => (((r5 : Int32) ≠ 0 → ((zLoop (L_X8_bank_r44_114 Ln (zp (zp (zp (zp I6 44 1 (I6 44 12)) 44 2 (I6 44 13)) 44 3 (I6 44 14)) 44 4 (I6 44 15)) (zi (0 : Nat)) (zi l2) w u 0 Q2) (0, A7)))) ∧ (¬ ((r5 : Int32) ≠ 0) → ((W_X8_refused_r44 Ln I6 A7 (((-100)) - (I6 44 11)) (fun (r10 : Int32) (I11 : Nat → Nat → Int32) => (Q2 r10 I11 A7)))))))) → (0 < zff b l n0 (zi l2) w u → Q2 (zi (-10 - zff b l n0 (zi l2) w u)) (zp J 44 0 (zi (zff b l n0 (zi l2) w u))) B) → W_X8_bank_r44 Ln J B (zi (0 : Nat)) (zi l2) w u Q2 := by
      intro J B Q2 hB1 hB2 k0 k1
      unfold W_X8_bank_r44
      refine K_noSheet_y (by decide) ⟨fun _ => K_lane_y hl2 ⟨fun _ => K_cellsBarred (b := b) (l := l) (n0 := n0) (by decide) h1 (by rw [hB1]; exact h4) (fun q => by rw [hB2]; exact (h5 q).2.2.1) (fun q => ⟨fun _ => k0 q, fun c => absurd (by decide) c⟩) (fun q => ⟨fun c => ?_, fun _ => k1 q⟩), fun c => absurd (show (1 : Int32) ≠ 0 by decide) c⟩, fun c => absurd rfl c⟩
      exact absurd c (by rw [show (0 : Int32) = zi 0 from rfl, zi_le (by omega) (by omega) (by omega) (by omega)]; omega)
    refine ⟨fun c => ?_, fun c => ?_⟩
    · have hz : zff b l n0 (zi l2) w u = 0 := by
        rw [show (0 : Int32) = zi 0 from rfl, zi_inj (by omega) (by omega) (by omega) (by omega)] at c; exact c
      obtain ⟨hbt, hll, hu0, hw0, hwu⟩ := zff_0 hz
      obtain ⟨i, hi, rfl⟩ := zasn (v := w) (n := 61) ⟨hw0, by omega⟩
      obtain ⟨n, hn61, rfl⟩ := zasn (v := u) (n := 61) ⟨hu0, by omega⟩
      rw [zi_toInt (by omega) (by omega), zi_toInt (by omega) (by omega)] at hwu
      have hcell := (h5 hbt).2.2.2
      obtain ⟨cd, hcd⟩ : ∃ cd : Nat → Int32, ∀ x, x < n → A 4 (i + x) = cd x := ⟨fun x => A 4 (i + x), fun _ _ => rfl⟩
      have hcd2 : ∀ x, x < n → A 67 (60 * 0 + i + x) = cd x := fun x hx => by rw [show 60 * 0 + i + x = 60 * 0 + (i + x) by omega, ← hcell (i + x) (by omega)]; exact hcd x hx
      have hbx : (60 : Int32) * zi (0 : Nat) + zi i = zi ((60 * 0 + i : Nat) : Int) := by rw [zq60, zi_mul, zi_add]; rfl
      rw [hbx] at hK
      refine C_firstFault_4 (by omega) hcd (fun p hp => ⟨fun q => ?_, fun _ => hq _ _ _ rfl (fun Q2 h2 => hK _ _ _ rfl rfl (fun _ => ?_) (fun q => by omega))⟩) (fun hall hn5 => ⟨fun _ => ?_, fun q => absurd rfl q⟩)
      · have := hp.1
        rw [show (-1 : Int32) = zi (-1) from by decide, zi_inj (by omega) (by omega) (by omega) (by omega)] at q; omega
      · -- a text with a fault
        refine K_readsBank (cd := cd) (by omega) (by omega) hcd2 (fun p2 I6 A7 f6 f7 e11 hp2 => ⟨fun q => absurd rfl q, fun _ => ?_⟩) (fun m I6 A7 hnm hm1 hm6 hall _ _ _ _ _ _ _ => (zbadR_no hp hall (by omega)).elim)
        unfold W_X8_refused_r44
        rw [e11, zbadR_one hp2 hp]
        refine h2 _ _ ⟨D, E, hv.mk' (fun o k hk => ?_) (fun a ha => f7 a ?_) ?_ ?_ (hsh.fr (fun o j ho => ?_) (fun a ha => f7 a (by omega)))⟩
        · rw [zpJ (f := zkI) rfl hk]
          by_cases eo : o = 44
          · subst eo
            rw [f6.2 k (by
              by_cases c : k < 11 ∨ 15 < k
              · exact c
              · have : k = 11 ∨ k = 12 ∨ k = 13 ∨ k = 14 ∨ k = 15 := by omega
                rcases this with rfl | rfl | rfl | rfl | rfl <;> cases hk), zp_ne (by decide)]
          · rw [f6.1 o eo, zpJ (f := zkI) rfl hk]
        · by_cases c : a < 50 ∨ 53 < a
          · exact c
          · have : a = 50 ∨ a = 51 ∨ a = 52 ∨ a = 53 := by omega
            rcases this with rfl | rfl | rfl | rfl <;> cases ha
        · rw [zp_ne (by decide), f6.1 1 (by decide), zp_at, if_neg (by decide), zp_at, if_neg (by decide), f6.2 39 (by decide), zp_ne (by decide)]; exact ht.1
        · rw [zp_ne (by decide), f6.1 1 (by decide), zp_eq, zp_eq]
        · rw [zp_ne (by omega), f6.1 o (by omega), zp_ne (by omega)]
      · -- a text that is taken
        obtain ⟨m, hnm⟩ : ∃ m, n = 5 + 6 * m := ⟨(n - 5) / 6, by omega⟩
        have hm1 : 1 ≤ m := by omega
        have hm6 : m ≤ 6 := by
          by_cases c : n ≤ 41
          · omega
          · have := hall 41 (by omega)
            rw [zms_41 (by decide)] at this; cases this
        have hd2 := tD_ok hnm hm6 hall
        refine C_become_4 (by omega) hcd hnm hm1 hm6 hall (fun I5 A6 f5 f6 hcb I7 e7 => ?_)
        have f7 : ∀ o, o ≠ 11 → o ≠ 18 → o ≠ 22 → o ≠ 1 → I7 o = I o := fun o q1 q2 q3 q4 => by rw [e7, zp_ne q4, zp_ne q3, zp_ne q2]; exact f5 o q1
        have i11 : ∀ k, I7 11 k = I5 11 k := fun k => by rw [e7, zp_ne (by decide), zp_ne (by decide), zp_ne (by decide)]
        have i18 : I7 18 3 = zi ((0 : Nat) : Int) := by rw [e7, zp_ne (by decide), zp_ne (by decide), zp_eq]; rfl
        have i22 : I7 22 3 = zi ((0 : Nat) : Int) := by rw [e7, zp_ne (by decide), zp_eq]; rfl
        have i19 : I7 1 9 = zi ((0 : Nat) : Int) := by rw [e7, zp_eq]; rfl
        have i110 : I7 1 10 = I 1 10 := by rw [e7, zp_at, if_neg (by decide), zp_ne (by decide), zp_ne (by decide), f5 1 (by decide)]
        clear e7
        have hcb7 : CB (tD cd m) I7 A6 := hcb.fi i11 (fun _ _ _ => rfl)
        refine C_goThroughNights (D := tD cd m) (E := eN) hd2 BE_N hcb7 i19 ⟨i18, fun j h => absurd h (Nat.not_lt_zero j)⟩ (fun A8 f8 hcc hvy => ?_)
        have g8 : ∀ a, a ≠ 42 → (a < 12 ∨ 17 < a) → (a < 29 ∨ 34 < a) → A8 a = A a := fun a q1 q2 q3 => by rw [f8 a q1 q3, f6 a q2]
        rw [show I7 11 0 = zi (m : Int) from hcb7.1]
        refine hq _ _ _ (g8 0 (by decide) (by decide) (by decide)) (fun Q2 h2 => hK _ _ _ (by rw [g8 65 (by decide) (by decide) (by decide)]) (by rw [g8 66 (by decide) (by decide) (by decide)]) (fun _ => ?_) (fun q => by omega))
        refine K_readsBank (cd := cd) (by omega) (by omega) (fun x hx => by rw [g8 67 (by decide) (by decide) (by decide)]; exact hcd2 x hx) (fun p2 I9 A9 _ _ _ hp2 => (zbadR_no hp2 hall hn5).elim) (fun m2 I9 A9 hnm2 _ _ _ f9 fA9 s12 s13 s14 s15 hrd9 => ⟨fun _ => ?_, fun q => absurd (show (1 : Int32) ≠ 0 by decide) q⟩)
        have em : m2 = m := by omega
        subst em
        rw [s12, s13, s14, s15]
        refine K_bankLoop hm6 (by rw [zp_eq]) (fun A2 fA2 e2 => h2 _ _ ⟨tD cd m2, eN, ?_⟩)
        -- what stands now
        generalize hJ : zp (zp (zp (zp (zp (zp (zp (zp I9 44 1 (zi (num (cd 1)))) 44 2 (zi ((10 * num (cd 2) + num (cd 3) : Nat) : Int))) 44 3 (zi (num (cd 4)))) 44 4 (zi m2)) 44 10 0) 44 20 0) 44 31 0) 44 0 0 = J
        have j44 : ∀ o, o ≠ 44 → o ≠ 1 → J o = I7 o := fun o q1 q2 => by rw [← hJ, zp_ne q1, zp_ne q1, zp_ne q1, zp_ne q1, zp_ne q1, zp_ne q1, zp_ne q1, zp_ne q1, f9.1 o q1, zp_ne q2]
        have j1 : ∀ k, J 1 k = zp I7 1 11 0 1 k := fun k => by rw [← hJ, zp_ne (by decide), zp_ne (by decide), zp_ne (by decide), zp_ne (by decide), zp_ne (by decide), zp_ne (by decide), zp_ne (by decide), zp_ne (by decide), f9.1 1 (by decide)]
        have k0 : J 44 0 = 0 := by rw [← hJ, zp_eq]
        have k1 : J 44 1 = zi (num (cd 1)) := by rw [← hJ]; rfl
        have k2 : J 44 2 = zi ((10 * num (cd 2) + num (cd 3) : Nat) : Int) := by rw [← hJ]; rfl
        have k3 : J 44 3 = zi (num (cd 4)) := by rw [← hJ]; rfl
        have k4 : J 44 4 = zi (m2 : Int) := by rw [← hJ]; rfl
        have k10 : J 44 10 = zi ((0 : Nat) : Int) := by rw [← hJ]; rfl
        have k20 : J 44 20 = zi ((0 : Nat) : Int) := by rw [← hJ]; rfl
        have k31 : J 44 31 = zi ((0 : Nat) : Int) := by rw [← hJ]; rfl
        have k39 : J 44 39 = I 44 39 := by
          rw [← hJ, zp_at, if_neg (by decide), zp_at, if_neg (by decide), zp_at, if_neg (by decide), zp_at, if_neg (by decide), zp_at, if_neg (by decide), zp_at, if_neg (by decide), zp_at, if_neg (by decide), zp_at, if_neg (by decide), f9.2 39 (by decide), zp_ne (by decide), f7 44 (by decide) (by decide) (by decide) (by decide)]
        clear hJ
        have g2 : ∀ a, (a < 45 ∨ 53 < a) → A2 a = A8 a := fun a q => by rw [fA2 a (by omega), fA9 a (by omega)]
        refine ⟨hd2, BE_N, hcb7.fi (fun k => by rw [j44 11 (by decide) (by decide)]) (fun a q1 q2 => by rw [g2 a (by omega), f8 a (by omega) (by omega)]), ⟨k4, k1, k2, k3, fun s hsm => ?_⟩, ⟨k10, by decide, fun s hsm => ?_⟩, ⟨?_, fun s hsm => by rw [g2 42 (by decide)]; exact hcc s hsm⟩, ⟨by rw [j44 18 (by decide) (by decide)]; exact i18, k20, fun j h => absurd h (Nat.not_lt_zero j)⟩, ⟨by rw [j44 22 (by decide) (by decide)]; exact i22, k31, fun j h => absurd h (Nat.not_lt_zero j)⟩, fun _ => ⟨_, zRo_so _ _ _, ?_⟩, ⟨?_, ?_⟩, hsh.fr (fun o j ho => by rw [j44 o (by omega) (by omega), f7 o (by omega) (by omega) (by omega) (by omega)]) (fun a ha => by rw [g2 a (by omega), g8 a (by omega) (by omega) (by omega)]), by rw [g2 0 (by decide), g8 0 (by decide) (by decide) (by decide)]; exact h0⟩
        · obtain ⟨t1, t2, t3, t4⟩ := tD_s (cd := cd) (m := m2) hsm
          obtain ⟨e45, e46, e47, e48, _⟩ := e2 s hsm
          obtain ⟨r50, r51, r52, r53⟩ := hrd9 s hsm
          rw [t1, t2, t3, t4, e45, e46, e47, e48, r50, r51, r52, r53]
          exact ⟨rfl, rfl, rfl, rfl⟩
        · obtain ⟨t1, t2, t3, t4⟩ := tD_s (cd := cd) (m := m2) hsm
          rw [zco_N, t2, (e2 s hsm).2.2.2.2, (hrd9 s hsm).2.1]
        · rw [j1, zp_at, if_neg (by decide)]; exact i19
        · unfold VY at hvy ⊢
          rw [g2 29 (by decide), g2 30 (by decide), g2 31 (by decide), g2 32 (by decide)]; exact hvy
        · rw [j1, zp_at, if_neg (by decide), i110, k39]; exact ht.1
        · rw [j1, zp_eq, k0]
    · have hf : 0 < zff b l n0 (zi l2) w u := by
        rw [show (0 : Int32) = zi 0 from rfl, zi_inj (by omega) (by omega) (by omega) (by omega)] at c; omega
      rw [zm10]
      exact hq _ _ _ rfl (fun Q2 h2 => hK _ _ _ rfl rfl (fun q => by omega) (fun _ => h2 _ _ ⟨D, E, hv.ft _⟩))
  · refine C_isLane_n hlv ⟨fun c => absurd rfl c, fun _ => hq _ _ _ rfl (fun Q2 h2 => ?_)⟩
    unfold W_X8_bank_r44 W_X8_refused_r44
    exact K_noSheet_y (by decide) ⟨fun _ => K_lane_n hlv ⟨fun c => absurd rfl c, fun _ => h2 _ _ ⟨D, E, hv.ft 0⟩⟩, fun c => absurd rfl c⟩
theorem OP_bank_c1 {Ln : Nat} {xs : Nat → Int32} {I A : Nat → Nat → Int32} {v w u : Int32} {Q : Int32 → (Nat → Nat → Int32) → (Nat → Nat → Int32) → Prop} (hv : INV xs I A) (hq : ∀ x I' A', A' 0 = A 0 → (∀ Q2 : Int32 → (Nat → Nat → Int32) → (Nat → Nat → Int32) → Prop, (∀ I2 A2, INV xs I2 A2 → Q2 x I2 A2) → W_X8_bank_r44 Ln I' A' (zi (1 : Nat)) v w u Q2) → Q x I' A') : W_X7_bank_r1_c1 Ln I A v w u Q := by
  obtain ⟨D, E, hv⟩ := hv
  obtain ⟨hd, he, hb, hr, hc, ⟨h19, h42⟩, hl, hrd, hvn, ht, hsh, h0⟩ := hv.parts
  obtain ⟨b, l, n0, hs⟩ := hv.sh.at_1.d
  have hs0 := hs
  obtain ⟨h1, hl3, h3, h4, h5⟩ := hs
  unfold W_X7_bank_r1_c1 W_X7_faultless_r1 W_X7_faulted_r1
  refine C_isSheet_1 ⟨fun _ => ?_, fun c => absurd (show (1 : Int32) ≠ 0 by decide) c⟩
  by_cases hlv : 0 ≤ v.toInt ∧ v.toInt < (3 : Nat)
  · obtain ⟨l2, hl2, rfl⟩ := zasn hlv
    refine C_isLane_y hl2 ⟨fun _ => C_foc_5 hs0 ?_, fun c => absurd (show (1 : Int32) ≠ 0 by decide) c⟩
    have hfl := zff_le b l n0 (zi l2) w u
    have hK : ∀ (J B : Nat → Nat → Int32) (Q2 : Int32 → (Nat → Nat → Int32) → (Nat → Nat → Int32) → Prop), B 65 1 = A 65 1 → B 66 1 = A 66 1 → (zff b l n0 (zi l2) w u = 0 → W_X8_readsBank_r44 Ln J B ((60 * zi (1 : Nat)) + w) u (fun (r5 : Int32) (I6 : Nat → Nat → Int32) (A7 : Nat → Nat → Int32) => (((r5 : Int32) ≠ 0 → ((zLoop (L_X8_bank_r44_114 Ln (zp (zp (zp (zp I6 44 1 (I6 44 12)) 44 2 (I6 44 13)) 44 3 (I6 44 14)) 44 4 (I6 44 15)) (zi (1 : Nat)) (zi l2) w u 0 Q2) (0, A7)))) ∧ (¬ ((r5 : Int32) ≠ 0) → ((W_X8_refused_r44 Ln I6 A7 (((-100)) - (I6 44 11)) (fun (r10 : Int32) (I11 : Nat → Nat → Int32) => (Q2 r10 I11 A7)))))))) → (0 < zff b l n0 (zi l2) w u → Q2 (zi (-10 - zff b l n0 (zi l2) w u)) (zp J 44 0 (zi (zff b l n0 (zi l2) w u))) B) → W_X8_bank_r44 Ln J B (zi (1 : Nat)) (zi l2) w u Q2 := by
      intro J B Q2 hB1 hB2 k0 k1
      unfold W_X8_bank_r44
      refine K_noSheet_y (by decide) ⟨fun _ => K_lane_y hl2 ⟨fun _ => K_cellsBarred (b := b) (l := l) (n0 := n0) (by decide) h1 (by rw [hB1]; exact h4) (fun q => by rw [hB2]; exact (h5 q).2.2.1) (fun q => ⟨fun _ => k0 q, fun c => absurd (by decide) c⟩) (fun q => ⟨fun c => ?_, fun _ => k1 q⟩), fun c => absurd (show (1 : Int32) ≠ 0 by decide) c⟩, fun c => absurd rfl c⟩
      exact absurd c (by rw [show (0 : Int32) = zi 0 from rfl, zi_le (by omega) (by omega) (by omega) (by omega)]; omega)
    refine ⟨fun c => ?_, fun c => ?_⟩
    · have hz : zff b l n0 (zi l2) w u = 0 := by
        rw [show (0 : Int32) = zi 0 from rfl, zi_inj (by omega) (by omega) (by omega) (by omega)] at c; exact c
      obtain ⟨hbt, hll, hu0, hw0, hwu⟩ := zff_0 hz
      obtain ⟨i, hi, rfl⟩ := zasn (v := w) (n := 61) ⟨hw0, by omega⟩
      obtain ⟨n, hn61, rfl⟩ := zasn (v := u) (n := 61) ⟨hu0, by omega⟩
      rw [zi_toInt (by omega) (by omega), zi_toInt (by omega) (by omega)] at hwu
      have hcell := (h5 hbt).2.2.2
      obtain ⟨cd, hcd⟩ : ∃ cd : Nat → Int32, ∀ x, x < n → A 6 (i + x) = cd x := ⟨fun x => A 6 (i + x), fun _ _ => rfl⟩
      have hcd2 : ∀ x, x < n → A 67 (60 * 1 + i + x) = cd x := fun x hx => by rw [show 60 * 1 + i + x = 60 * 1 + (i + x) by omega, ← hcell (i + x) (by omega)]; exact hcd x hx
      have hbx : (60 : Int32) * zi (1 : Nat) + zi i = zi ((60 * 1 + i : Nat) : Int) := by rw [zq60, zi_mul, zi_add]; rfl
      rw [hbx] at hK
      refine C_firstFault_6 (by omega) hcd (fun p hp => ⟨fun q => ?_, fun _ => hq _ _ _ rfl (fun Q2 h2 => hK _ _ _ rfl rfl (fun _ => ?_) (fun q => by omega))⟩) (fun hall hn5 => ⟨fun _ => ?_, fun q => absurd rfl q⟩)
      · have := hp.1
        rw [show (-1 : Int32) = zi (-1) from by decide, zi_inj (by omega) (by omega) (by omega) (by omega)] at q; omega
      · -- a text with a fault
        refine K_readsBank (cd := cd) (by omega) (by omega) hcd2 (fun p2 I6 A7 f6 f7 e11 hp2 => ⟨fun q => absurd rfl q, fun _ => ?_⟩) (fun m I6 A7 hnm hm1 hm6 hall _ _ _ _ _ _ _ => (zbadR_no hp hall (by omega)).elim)
        unfold W_X8_refused_r44
        rw [e11, zbadR_one hp2 hp]
        refine h2 _ _ ⟨D, E, hv.mk' (fun o k hk => ?_) (fun a ha => f7 a ?_) ?_ ?_ (hsh.fr (fun o j ho => ?_) (fun a ha => f7 a (by omega)))⟩
        · rw [zpJ (f := zkI) rfl hk]
          by_cases eo : o = 44
          · subst eo
            rw [f6.2 k (by
              by_cases c : k < 11 ∨ 15 < k
              · exact c
              · have : k = 11 ∨ k = 12 ∨ k = 13 ∨ k = 14 ∨ k = 15 := by omega
                rcases this with rfl | rfl | rfl | rfl | rfl <;> cases hk), zp_ne (by decide)]
          · rw [f6.1 o eo, zpJ (f := zkI) rfl hk]
        · by_cases c : a < 50 ∨ 53 < a
          · exact c
          · have : a = 50 ∨ a = 51 ∨ a = 52 ∨ a = 53 := by omega
            rcases this with rfl | rfl | rfl | rfl <;> cases ha
        · rw [zp_ne (by decide), f6.1 1 (by decide), zp_at, if_neg (by decide), zp_at, if_neg (by decide), f6.2 39 (by decide), zp_ne (by decide)]; exact ht.1
        · rw [zp_ne (by decide), f6.1 1 (by decide), zp_eq, zp_eq]
        · rw [zp_ne (by omega), f6.1 o (by omega), zp_ne (by omega)]
      · -- a text that is taken
        obtain ⟨m, hnm⟩ : ∃ m, n = 5 + 6 * m := ⟨(n - 5) / 6, by omega⟩
        have hm1 : 1 ≤ m := by omega
        have hm6 : m ≤ 6 := by
          by_cases c : n ≤ 41
          · omega
          · have := hall 41 (by omega)
            rw [zms_41 (by decide)] at this; cases this
        have hd2 := tD_ok hnm hm6 hall
        refine C_become_6 (by omega) hcd hnm hm1 hm6 hall (fun I5 A6 f5 f6 hcb I7 e7 => ?_)
        have f7 : ∀ o, o ≠ 11 → o ≠ 18 → o ≠ 22 → o ≠ 1 → I7 o = I o := fun o q1 q2 q3 q4 => by rw [e7, zp_ne q4, zp_ne q3, zp_ne q2]; exact f5 o q1
        have i11 : ∀ k, I7 11 k = I5 11 k := fun k => by rw [e7, zp_ne (by decide), zp_ne (by decide), zp_ne (by decide)]
        have i18 : I7 18 3 = zi ((0 : Nat) : Int) := by rw [e7, zp_ne (by decide), zp_ne (by decide), zp_eq]; rfl
        have i22 : I7 22 3 = zi ((0 : Nat) : Int) := by rw [e7, zp_ne (by decide), zp_eq]; rfl
        have i19 : I7 1 9 = zi ((0 : Nat) : Int) := by rw [e7, zp_eq]; rfl
        have i110 : I7 1 10 = I 1 10 := by rw [e7, zp_at, if_neg (by decide), zp_ne (by decide), zp_ne (by decide), f5 1 (by decide)]
        clear e7
        have hcb7 : CB (tD cd m) I7 A6 := hcb.fi i11 (fun _ _ _ => rfl)
        refine C_goThroughNights (D := tD cd m) (E := eN) hd2 BE_N hcb7 i19 ⟨i18, fun j h => absurd h (Nat.not_lt_zero j)⟩ (fun A8 f8 hcc hvy => ?_)
        have g8 : ∀ a, a ≠ 42 → (a < 12 ∨ 17 < a) → (a < 29 ∨ 34 < a) → A8 a = A a := fun a q1 q2 q3 => by rw [f8 a q1 q3, f6 a q2]
        rw [show I7 11 0 = zi (m : Int) from hcb7.1]
        refine hq _ _ _ (g8 0 (by decide) (by decide) (by decide)) (fun Q2 h2 => hK _ _ _ (by rw [g8 65 (by decide) (by decide) (by decide)]) (by rw [g8 66 (by decide) (by decide) (by decide)]) (fun _ => ?_) (fun q => by omega))
        refine K_readsBank (cd := cd) (by omega) (by omega) (fun x hx => by rw [g8 67 (by decide) (by decide) (by decide)]; exact hcd2 x hx) (fun p2 I9 A9 _ _ _ hp2 => (zbadR_no hp2 hall hn5).elim) (fun m2 I9 A9 hnm2 _ _ _ f9 fA9 s12 s13 s14 s15 hrd9 => ⟨fun _ => ?_, fun q => absurd (show (1 : Int32) ≠ 0 by decide) q⟩)
        have em : m2 = m := by omega
        subst em
        rw [s12, s13, s14, s15]
        refine K_bankLoop hm6 (by rw [zp_eq]) (fun A2 fA2 e2 => h2 _ _ ⟨tD cd m2, eN, ?_⟩)
        -- what stands now
        generalize hJ : zp (zp (zp (zp (zp (zp (zp (zp I9 44 1 (zi (num (cd 1)))) 44 2 (zi ((10 * num (cd 2) + num (cd 3) : Nat) : Int))) 44 3 (zi (num (cd 4)))) 44 4 (zi m2)) 44 10 0) 44 20 0) 44 31 0) 44 0 0 = J
        have j44 : ∀ o, o ≠ 44 → o ≠ 1 → J o = I7 o := fun o q1 q2 => by rw [← hJ, zp_ne q1, zp_ne q1, zp_ne q1, zp_ne q1, zp_ne q1, zp_ne q1, zp_ne q1, zp_ne q1, f9.1 o q1, zp_ne q2]
        have j1 : ∀ k, J 1 k = zp I7 1 11 0 1 k := fun k => by rw [← hJ, zp_ne (by decide), zp_ne (by decide), zp_ne (by decide), zp_ne (by decide), zp_ne (by decide), zp_ne (by decide), zp_ne (by decide), zp_ne (by decide), f9.1 1 (by decide)]
        have k0 : J 44 0 = 0 := by rw [← hJ, zp_eq]
        have k1 : J 44 1 = zi (num (cd 1)) := by rw [← hJ]; rfl
        have k2 : J 44 2 = zi ((10 * num (cd 2) + num (cd 3) : Nat) : Int) := by rw [← hJ]; rfl
        have k3 : J 44 3 = zi (num (cd 4)) := by rw [← hJ]; rfl
        have k4 : J 44 4 = zi (m2 : Int) := by rw [← hJ]; rfl
        have k10 : J 44 10 = zi ((0 : Nat) : Int) := by rw [← hJ]; rfl
        have k20 : J 44 20 = zi ((0 : Nat) : Int) := by rw [← hJ]; rfl
        have k31 : J 44 31 = zi ((0 : Nat) : Int) := by rw [← hJ]; rfl
        have k39 : J 44 39 = I 44 39 := by
          rw [← hJ, zp_at, if_neg (by decide), zp_at, if_neg (by decide), zp_at, if_neg (by decide), zp_at, if_neg (by decide), zp_at, if_neg (by decide), zp_at, if_neg (by decide), zp_at, if_neg (by decide), zp_at, if_neg (by decide), f9.2 39 (by decide), zp_ne (by decide), f7 44 (by decide) (by decide) (by decide) (by decide)]
        clear hJ
        have g2 : ∀ a, (a < 45 ∨ 53 < a) → A2 a = A8 a := fun a q => by rw [fA2 a (by omega), fA9 a (by omega)]
        refine ⟨hd2, BE_N, hcb7.fi (fun k => by rw [j44 11 (by decide) (by decide)]) (fun a q1 q2 => by rw [g2 a (by omega), f8 a (by omega) (by omega)]), ⟨k4, k1, k2, k3, fun s hsm => ?_⟩, ⟨k10, by decide, fun s hsm => ?_⟩, ⟨?_, fun s hsm => by rw [g2 42 (by decide)]; exact hcc s hsm⟩, ⟨by rw [j44 18 (by decide) (by decide)]; exact i18, k20, fun j h => absurd h (Nat.not_lt_zero j)⟩, ⟨by rw [j44 22 (by decide) (by decide)]; exact i22, k31, fun j h => absurd h (Nat.not_lt_zero j)⟩, fun _ => ⟨_, zRo_so _ _ _, ?_⟩, ⟨?_, ?_⟩, hsh.fr (fun o j ho => by rw [j44 o (by omega) (by omega), f7 o (by omega) (by omega) (by omega) (by omega)]) (fun a ha => by rw [g2 a (by omega), g8 a (by omega) (by omega) (by omega)]), by rw [g2 0 (by decide), g8 0 (by decide) (by decide) (by decide)]; exact h0⟩
        · obtain ⟨t1, t2, t3, t4⟩ := tD_s (cd := cd) (m := m2) hsm
          obtain ⟨e45, e46, e47, e48, _⟩ := e2 s hsm
          obtain ⟨r50, r51, r52, r53⟩ := hrd9 s hsm
          rw [t1, t2, t3, t4, e45, e46, e47, e48, r50, r51, r52, r53]
          exact ⟨rfl, rfl, rfl, rfl⟩
        · obtain ⟨t1, t2, t3, t4⟩ := tD_s (cd := cd) (m := m2) hsm
          rw [zco_N, t2, (e2 s hsm).2.2.2.2, (hrd9 s hsm).2.1]
        · rw [j1, zp_at, if_neg (by decide)]; exact i19
        · unfold VY at hvy ⊢
          rw [g2 29 (by decide), g2 30 (by decide), g2 31 (by decide), g2 32 (by decide)]; exact hvy
        · rw [j1, zp_at, if_neg (by decide), i110, k39]; exact ht.1
        · rw [j1, zp_eq, k0]
    · have hf : 0 < zff b l n0 (zi l2) w u := by
        rw [show (0 : Int32) = zi 0 from rfl, zi_inj (by omega) (by omega) (by omega) (by omega)] at c; omega
      rw [zm10]
      exact hq _ _ _ rfl (fun Q2 h2 => hK _ _ _ rfl rfl (fun q => by omega) (fun _ => h2 _ _ ⟨D, E, hv.ft _⟩))
  · refine C_isLane_n hlv ⟨fun c => absurd rfl c, fun _ => hq _ _ _ rfl (fun Q2 h2 => ?_)⟩
    unfold W_X8_bank_r44 W_X8_refused_r44
    exact K_noSheet_y (by decide) ⟨fun _ => K_lane_n hlv ⟨fun c => absurd rfl c, fun _ => h2 _ _ ⟨D, E, hv.ft 0⟩⟩, fun c => absurd rfl c⟩
theorem OP_bank_c2 {Ln : Nat} {xs : Nat → Int32} {I A : Nat → Nat → Int32} {v w u : Int32} {Q : Int32 → (Nat → Nat → Int32) → (Nat → Nat → Int32) → Prop} (hv : INV xs I A) (hq : ∀ x I' A', A' 0 = A 0 → (∀ Q2 : Int32 → (Nat → Nat → Int32) → (Nat → Nat → Int32) → Prop, (∀ I2 A2, INV xs I2 A2 → Q2 x I2 A2) → W_X8_bank_r44 Ln I' A' (zi (2 : Nat)) v w u Q2) → Q x I' A') : W_X7_bank_r1_c2 Ln I A v w u Q := by
  obtain ⟨D, E, hv⟩ := hv
  obtain ⟨hd, he, hb, hr, hc, ⟨h19, h42⟩, hl, hrd, hvn, ht, hsh, h0⟩ := hv.parts
  obtain ⟨b, l, n0, hs⟩ := hv.sh.at_2.d
  have hs0 := hs
  obtain ⟨h1, hl3, h3, h4, h5⟩ := hs
  unfold W_X7_bank_r1_c2 W_X7_faultless_r1 W_X7_faulted_r1
  refine C_isSheet_2 ⟨fun _ => ?_, fun c => absurd (show (1 : Int32) ≠ 0 by decide) c⟩
  by_cases hlv : 0 ≤ v.toInt ∧ v.toInt < (3 : Nat)
  · obtain ⟨l2, hl2, rfl⟩ := zasn hlv
    refine C_isLane_y hl2 ⟨fun _ => C_foc_7 hs0 ?_, fun c => absurd (show (1 : Int32) ≠ 0 by decide) c⟩
    have hfl := zff_le b l n0 (zi l2) w u
    have hK : ∀ (J B : Nat → Nat → Int32) (Q2 : Int32 → (Nat → Nat → Int32) → (Nat → Nat → Int32) → Prop), B 65 2 = A 65 2 → B 66 2 = A 66 2 → (zff b l n0 (zi l2) w u = 0 → W_X8_readsBank_r44 Ln J B ((60 * zi (2 : Nat)) + w) u (fun (r5 : Int32) (I6 : Nat → Nat → Int32) (A7 : Nat → Nat → Int32) => (((r5 : Int32) ≠ 0 → ((zLoop (L_X8_bank_r44_114 Ln (zp (zp (zp (zp I6 44 1 (I6 44 12)) 44 2 (I6 44 13)) 44 3 (I6 44 14)) 44 4 (I6 44 15)) (zi (2 : Nat)) (zi l2) w u 0 Q2) (0, A7)))) ∧ (¬ ((r5 : Int32) ≠ 0) → ((W_X8_refused_r44 Ln I6 A7 (((-100)) - (I6 44 11)) (fun (r10 : Int32) (I11 : Nat → Nat → Int32) => (Q2 r10 I11 A7)))))))) → (0 < zff b l n0 (zi l2) w u → Q2 (zi (-10 - zff b l n0 (zi l2) w u)) (zp J 44 0 (zi (zff b l n0 (zi l2) w u))) B) → W_X8_bank_r44 Ln J B (zi (2 : Nat)) (zi l2) w u Q2 := by
      intro J B Q2 hB1 hB2 k0 k1
      unfold W_X8_bank_r44
      refine K_noSheet_y (by decide) ⟨fun _ => K_lane_y hl2 ⟨fun _ => K_cellsBarred (b := b) (l := l) (n0 := n0) (by decide) h1 (by rw [hB1]; exact h4) (fun q => by rw [hB2]; exact (h5 q).2.2.1) (fun q => ⟨fun _ => k0 q, fun c => absurd (by decide) c⟩) (fun q => ⟨fun c => ?_, fun _ => k1 q⟩), fun c => absurd (show (1 : Int32) ≠ 0 by decide) c⟩, fun c => absurd rfl c⟩
      exact absurd c (by rw [show (0 : Int32) = zi 0 from rfl, zi_le (by omega) (by omega) (by omega) (by omega)]; omega)
    refine ⟨fun c => ?_, fun c => ?_⟩
    · have hz : zff b l n0 (zi l2) w u = 0 := by
        rw [show (0 : Int32) = zi 0 from rfl, zi_inj (by omega) (by omega) (by omega) (by omega)] at c; exact c
      obtain ⟨hbt, hll, hu0, hw0, hwu⟩ := zff_0 hz
      obtain ⟨i, hi, rfl⟩ := zasn (v := w) (n := 61) ⟨hw0, by omega⟩
      obtain ⟨n, hn61, rfl⟩ := zasn (v := u) (n := 61) ⟨hu0, by omega⟩
      rw [zi_toInt (by omega) (by omega), zi_toInt (by omega) (by omega)] at hwu
      have hcell := (h5 hbt).2.2.2
      obtain ⟨cd, hcd⟩ : ∃ cd : Nat → Int32, ∀ x, x < n → A 8 (i + x) = cd x := ⟨fun x => A 8 (i + x), fun _ _ => rfl⟩
      have hcd2 : ∀ x, x < n → A 67 (60 * 2 + i + x) = cd x := fun x hx => by rw [show 60 * 2 + i + x = 60 * 2 + (i + x) by omega, ← hcell (i + x) (by omega)]; exact hcd x hx
      have hbx : (60 : Int32) * zi (2 : Nat) + zi i = zi ((60 * 2 + i : Nat) : Int) := by rw [zq60, zi_mul, zi_add]; rfl
      rw [hbx] at hK
      refine C_firstFault_8 (by omega) hcd (fun p hp => ⟨fun q => ?_, fun _ => hq _ _ _ rfl (fun Q2 h2 => hK _ _ _ rfl rfl (fun _ => ?_) (fun q => by omega))⟩) (fun hall hn5 => ⟨fun _ => ?_, fun q => absurd rfl q⟩)
      · have := hp.1
        rw [show (-1 : Int32) = zi (-1) from by decide, zi_inj (by omega) (by omega) (by omega) (by omega)] at q; omega
      · -- a text with a fault
        refine K_readsBank (cd := cd) (by omega) (by omega) hcd2 (fun p2 I6 A7 f6 f7 e11 hp2 => ⟨fun q => absurd rfl q, fun _ => ?_⟩) (fun m I6 A7 hnm hm1 hm6 hall _ _ _ _ _ _ _ => (zbadR_no hp hall (by omega)).elim)
        unfold W_X8_refused_r44
        rw [e11, zbadR_one hp2 hp]
        refine h2 _ _ ⟨D, E, hv.mk' (fun o k hk => ?_) (fun a ha => f7 a ?_) ?_ ?_ (hsh.fr (fun o j ho => ?_) (fun a ha => f7 a (by omega)))⟩
        · rw [zpJ (f := zkI) rfl hk]
          by_cases eo : o = 44
          · subst eo
            rw [f6.2 k (by
              by_cases c : k < 11 ∨ 15 < k
              · exact c
              · have : k = 11 ∨ k = 12 ∨ k = 13 ∨ k = 14 ∨ k = 15 := by omega
                rcases this with rfl | rfl | rfl | rfl | rfl <;> cases hk), zp_ne (by decide)]
          · rw [f6.1 o eo, zpJ (f := zkI) rfl hk]
        · by_cases c : a < 50 ∨ 53 < a
          · exact c
          · have : a = 50 ∨ a = 51 ∨ a = 52 ∨ a = 53 := by omega
            rcases this with rfl | rfl | rfl | rfl <;> cases ha
        · rw [zp_ne (by decide), f6.1 1 (by decide), zp_at, if_neg (by decide), zp_at, if_neg (by decide), f6.2 39 (by decide), zp_ne (by decide)]; exact ht.1
        · rw [zp_ne (by decide), f6.1 1 (by decide), zp_eq, zp_eq]
        · rw [zp_ne (by omega), f6.1 o (by omega), zp_ne (by omega)]
      · -- a text that is taken
        obtain ⟨m, hnm⟩ : ∃ m, n = 5 + 6 * m := ⟨(n - 5) / 6, by omega⟩
        have hm1 : 1 ≤ m := by omega
        have hm6 : m ≤ 6 := by
          by_cases c : n ≤ 41
          · omega
          · have := hall 41 (by omega)
            rw [zms_41 (by decide)] at this; cases this
        have hd2 := tD_ok hnm hm6 hall
        refine C_become_8 (by omega) hcd hnm hm1 hm6 hall (fun I5 A6 f5 f6 hcb I7 e7 => ?_)
        have f7 : ∀ o, o ≠ 11 → o ≠ 18 → o ≠ 22 → o ≠ 1 → I7 o = I o := fun o q1 q2 q3 q4 => by rw [e7, zp_ne q4, zp_ne q3, zp_ne q2]; exact f5 o q1
        have i11 : ∀ k, I7 11 k = I5 11 k := fun k => by rw [e7, zp_ne (by decide), zp_ne (by decide), zp_ne (by decide)]
        have i18 : I7 18 3 = zi ((0 : Nat) : Int) := by rw [e7, zp_ne (by decide), zp_ne (by decide), zp_eq]; rfl
        have i22 : I7 22 3 = zi ((0 : Nat) : Int) := by rw [e7, zp_ne (by decide), zp_eq]; rfl
        have i19 : I7 1 9 = zi ((0 : Nat) : Int) := by rw [e7, zp_eq]; rfl
        have i110 : I7 1 10 = I 1 10 := by rw [e7, zp_at, if_neg (by decide), zp_ne (by decide), zp_ne (by decide), f5 1 (by decide)]
        clear e7
        have hcb7 : CB (tD cd m) I7 A6 := hcb.fi i11 (fun _ _ _ => rfl)
        refine C_goThroughNights (D := tD cd m) (E := eN) hd2 BE_N hcb7 i19 ⟨i18, fun j h => absurd h (Nat.not_lt_zero j)⟩ (fun A8 f8 hcc hvy => ?_)
        have g8 : ∀ a, a ≠ 42 → (a < 12 ∨ 17 < a) → (a < 29 ∨ 34 < a) → A8 a = A a := fun a q1 q2 q3 => by rw [f8 a q1 q3, f6 a q2]
        rw [show I7 11 0 = zi (m : Int) from hcb7.1]
        refine hq _ _ _ (g8 0 (by decide) (by decide) (by decide)) (fun Q2 h2 => hK _ _ _ (by rw [g8 65 (by decide) (by decide) (by decide)]) (by rw [g8 66 (by decide) (by decide) (by decide)]) (fun _ => ?_) (fun q => by omega))
        refine K_readsBank (cd := cd) (by omega) (by omega) (fun x hx => by rw [g8 67 (by decide) (by decide) (by decide)]; exact hcd2 x hx) (fun p2 I9 A9 _ _ _ hp2 => (zbadR_no hp2 hall hn5).elim) (fun m2 I9 A9 hnm2 _ _ _ f9 fA9 s12 s13 s14 s15 hrd9 => ⟨fun _ => ?_, fun q => absurd (show (1 : Int32) ≠ 0 by decide) q⟩)
        have em : m2 = m := by omega
        subst em
        rw [s12, s13, s14, s15]
        refine K_bankLoop hm6 (by rw [zp_eq]) (fun A2 fA2 e2 => h2 _ _ ⟨tD cd m2, eN, ?_⟩)
        -- what stands now
        generalize hJ : zp (zp (zp (zp (zp (zp (zp (zp I9 44 1 (zi (num (cd 1)))) 44 2 (zi ((10 * num (cd 2) + num (cd 3) : Nat) : Int))) 44 3 (zi (num (cd 4)))) 44 4 (zi m2)) 44 10 0) 44 20 0) 44 31 0) 44 0 0 = J
        have j44 : ∀ o, o ≠ 44 → o ≠ 1 → J o = I7 o := fun o q1 q2 => by rw [← hJ, zp_ne q1, zp_ne q1, zp_ne q1, zp_ne q1, zp_ne q1, zp_ne q1, zp_ne q1, zp_ne q1, f9.1 o q1, zp_ne q2]
        have j1 : ∀ k, J 1 k = zp I7 1 11 0 1 k := fun k => by rw [← hJ, zp_ne (by decide), zp_ne (by decide), zp_ne (by decide), zp_ne (by decide), zp_ne (by decide), zp_ne (by decide), zp_ne (by decide), zp_ne (by decide), f9.1 1 (by decide)]
        have k0 : J 44 0 = 0 := by rw [← hJ, zp_eq]
        have k1 : J 44 1 = zi (num (cd 1)) := by rw [← hJ]; rfl
        have k2 : J 44 2 = zi ((10 * num (cd 2) + num (cd 3) : Nat) : Int) := by rw [← hJ]; rfl
        have k3 : J 44 3 = zi (num (cd 4)) := by rw [← hJ]; rfl
        have k4 : J 44 4 = zi (m2 : Int) := by rw [← hJ]; rfl
        have k10 : J 44 10 = zi ((0 : Nat) : Int) := by rw [← hJ]; rfl
        have k20 : J 44 20 = zi ((0 : Nat) : Int) := by rw [← hJ]; rfl
        have k31 : J 44 31 = zi ((0 : Nat) : Int) := by rw [← hJ]; rfl
        have k39 : J 44 39 = I 44 39 := by
          rw [← hJ, zp_at, if_neg (by decide), zp_at, if_neg (by decide), zp_at, if_neg (by decide), zp_at, if_neg (by decide), zp_at, if_neg (by decide), zp_at, if_neg (by decide), zp_at, if_neg (by decide), zp_at, if_neg (by decide), f9.2 39 (by decide), zp_ne (by decide), f7 44 (by decide) (by decide) (by decide) (by decide)]
        clear hJ
        have g2 : ∀ a, (a < 45 ∨ 53 < a) → A2 a = A8 a := fun a q => by rw [fA2 a (by omega), fA9 a (by omega)]
        refine ⟨hd2, BE_N, hcb7.fi (fun k => by rw [j44 11 (by decide) (by decide)]) (fun a q1 q2 => by rw [g2 a (by omega), f8 a (by omega) (by omega)]), ⟨k4, k1, k2, k3, fun s hsm => ?_⟩, ⟨k10, by decide, fun s hsm => ?_⟩, ⟨?_, fun s hsm => by rw [g2 42 (by decide)]; exact hcc s hsm⟩, ⟨by rw [j44 18 (by decide) (by decide)]; exact i18, k20, fun j h => absurd h (Nat.not_lt_zero j)⟩, ⟨by rw [j44 22 (by decide) (by decide)]; exact i22, k31, fun j h => absurd h (Nat.not_lt_zero j)⟩, fun _ => ⟨_, zRo_so _ _ _, ?_⟩, ⟨?_, ?_⟩, hsh.fr (fun o j ho => by rw [j44 o (by omega) (by omega), f7 o (by omega) (by omega) (by omega) (by omega)]) (fun a ha => by rw [g2 a (by omega), g8 a (by omega) (by omega) (by omega)]), by rw [g2 0 (by decide), g8 0 (by decide) (by decide) (by decide)]; exact h0⟩
        · obtain ⟨t1, t2, t3, t4⟩ := tD_s (cd := cd) (m := m2) hsm
          obtain ⟨e45, e46, e47, e48, _⟩ := e2 s hsm
          obtain ⟨r50, r51, r52, r53⟩ := hrd9 s hsm
          rw [t1, t2, t3, t4, e45, e46, e47, e48, r50, r51, r52, r53]
          exact ⟨rfl, rfl, rfl, rfl⟩
        · obtain ⟨t1, t2, t3, t4⟩ := tD_s (cd := cd) (m := m2) hsm
          rw [zco_N, t2, (e2 s hsm).2.2.2.2, (hrd9 s hsm).2.1]
        · rw [j1, zp_at, if_neg (by decide)]; exact i19
        · unfold VY at hvy ⊢
          rw [g2 29 (by decide), g2 30 (by decide), g2 31 (by decide), g2 32 (by decide)]; exact hvy
        · rw [j1, zp_at, if_neg (by decide), i110, k39]; exact ht.1
        · rw [j1, zp_eq, k0]
    · have hf : 0 < zff b l n0 (zi l2) w u := by
        rw [show (0 : Int32) = zi 0 from rfl, zi_inj (by omega) (by omega) (by omega) (by omega)] at c; omega
      rw [zm10]
      exact hq _ _ _ rfl (fun Q2 h2 => hK _ _ _ rfl rfl (fun q => by omega) (fun _ => h2 _ _ ⟨D, E, hv.ft _⟩))
  · refine C_isLane_n hlv ⟨fun c => absurd rfl c, fun _ => hq _ _ _ rfl (fun Q2 h2 => ?_)⟩
    unfold W_X8_bank_r44 W_X8_refused_r44
    exact K_noSheet_y (by decide) ⟨fun _ => K_lane_n hlv ⟨fun c => absurd rfl c, fun _ => h2 _ _ ⟨D, E, hv.ft 0⟩⟩, fun c => absurd rfl c⟩
theorem OP_bank_c3 {Ln : Nat} {xs : Nat → Int32} {I A : Nat → Nat → Int32} {v w u : Int32} {Q : Int32 → (Nat → Nat → Int32) → (Nat → Nat → Int32) → Prop} (hv : INV xs I A) (hq : ∀ x I' A', A' 0 = A 0 → (∀ Q2 : Int32 → (Nat → Nat → Int32) → (Nat → Nat → Int32) → Prop, (∀ I2 A2, INV xs I2 A2 → Q2 x I2 A2) → W_X8_bank_r44 Ln I' A' (zi (3 : Nat)) v w u Q2) → Q x I' A') : W_X7_bank_r1_c3 Ln I A v w u Q := by
  obtain ⟨D, E, hv⟩ := hv
  obtain ⟨hd, he, hb, hr, hc, ⟨h19, h42⟩, hl, hrd, hvn, ht, hsh, h0⟩ := hv.parts
  obtain ⟨b, l, n0, hs⟩ := hv.sh.at_3.d
  have hs0 := hs
  obtain ⟨h1, hl3, h3, h4, h5⟩ := hs
  unfold W_X7_bank_r1_c3 W_X7_faultless_r1 W_X7_faulted_r1
  refine C_isSheet_3 ⟨fun _ => ?_, fun c => absurd (show (1 : Int32) ≠ 0 by decide) c⟩
  by_cases hlv : 0 ≤ v.toInt ∧ v.toInt < (3 : Nat)
  · obtain ⟨l2, hl2, rfl⟩ := zasn hlv
    refine C_isLane_y hl2 ⟨fun _ => C_foc_9 hs0 ?_, fun c => absurd (show (1 : Int32) ≠ 0 by decide) c⟩
    have hfl := zff_le b l n0 (zi l2) w u
    have hK : ∀ (J B : Nat → Nat → Int32) (Q2 : Int32 → (Nat → Nat → Int32) → (Nat → Nat → Int32) → Prop), B 65 3 = A 65 3 → B 66 3 = A 66 3 → (zff b l n0 (zi l2) w u = 0 → W_X8_readsBank_r44 Ln J B ((60 * zi (3 : Nat)) + w) u (fun (r5 : Int32) (I6 : Nat → Nat → Int32) (A7 : Nat → Nat → Int32) => (((r5 : Int32) ≠ 0 → ((zLoop (L_X8_bank_r44_114 Ln (zp (zp (zp (zp I6 44 1 (I6 44 12)) 44 2 (I6 44 13)) 44 3 (I6 44 14)) 44 4 (I6 44 15)) (zi (3 : Nat)) (zi l2) w u 0 Q2) (0, A7)))) ∧ (¬ ((r5 : Int32) ≠ 0) → ((W_X8_refused_r44 Ln I6 A7 (((-100)) - (I6 44 11)) (fun (r10 : Int32) (I11 : Nat → Nat → Int32) => (Q2 r10 I11 A7)))))))) → (0 < zff b l n0 (zi l2) w u → Q2 (zi (-10 - zff b l n0 (zi l2) w u)) (zp J 44 0 (zi (zff b l n0 (zi l2) w u))) B) → W_X8_bank_r44 Ln J B (zi (3 : Nat)) (zi l2) w u Q2 := by
      intro J B Q2 hB1 hB2 k0 k1
      unfold W_X8_bank_r44
      refine K_noSheet_y (by decide) ⟨fun _ => K_lane_y hl2 ⟨fun _ => K_cellsBarred (b := b) (l := l) (n0 := n0) (by decide) h1 (by rw [hB1]; exact h4) (fun q => by rw [hB2]; exact (h5 q).2.2.1) (fun q => ⟨fun _ => k0 q, fun c => absurd (by decide) c⟩) (fun q => ⟨fun c => ?_, fun _ => k1 q⟩), fun c => absurd (show (1 : Int32) ≠ 0 by decide) c⟩, fun c => absurd rfl c⟩
      exact absurd c (by rw [show (0 : Int32) = zi 0 from rfl, zi_le (by omega) (by omega) (by omega) (by omega)]; omega)
    refine ⟨fun c => ?_, fun c => ?_⟩
    · have hz : zff b l n0 (zi l2) w u = 0 := by
        rw [show (0 : Int32) = zi 0 from rfl, zi_inj (by omega) (by omega) (by omega) (by omega)] at c; exact c
      obtain ⟨hbt, hll, hu0, hw0, hwu⟩ := zff_0 hz
      obtain ⟨i, hi, rfl⟩ := zasn (v := w) (n := 61) ⟨hw0, by omega⟩
      obtain ⟨n, hn61, rfl⟩ := zasn (v := u) (n := 61) ⟨hu0, by omega⟩
      rw [zi_toInt (by omega) (by omega), zi_toInt (by omega) (by omega)] at hwu
      have hcell := (h5 hbt).2.2.2
      obtain ⟨cd, hcd⟩ : ∃ cd : Nat → Int32, ∀ x, x < n → A 10 (i + x) = cd x := ⟨fun x => A 10 (i + x), fun _ _ => rfl⟩
      have hcd2 : ∀ x, x < n → A 67 (60 * 3 + i + x) = cd x := fun x hx => by rw [show 60 * 3 + i + x = 60 * 3 + (i + x) by omega, ← hcell (i + x) (by omega)]; exact hcd x hx
      have hbx : (60 : Int32) * zi (3 : Nat) + zi i = zi ((60 * 3 + i : Nat) : Int) := by rw [zq60, zi_mul, zi_add]; rfl
      rw [hbx] at hK
      refine C_firstFault_10 (by omega) hcd (fun p hp => ⟨fun q => ?_, fun _ => hq _ _ _ rfl (fun Q2 h2 => hK _ _ _ rfl rfl (fun _ => ?_) (fun q => by omega))⟩) (fun hall hn5 => ⟨fun _ => ?_, fun q => absurd rfl q⟩)
      · have := hp.1
        rw [show (-1 : Int32) = zi (-1) from by decide, zi_inj (by omega) (by omega) (by omega) (by omega)] at q; omega
      · -- a text with a fault
        refine K_readsBank (cd := cd) (by omega) (by omega) hcd2 (fun p2 I6 A7 f6 f7 e11 hp2 => ⟨fun q => absurd rfl q, fun _ => ?_⟩) (fun m I6 A7 hnm hm1 hm6 hall _ _ _ _ _ _ _ => (zbadR_no hp hall (by omega)).elim)
        unfold W_X8_refused_r44
        rw [e11, zbadR_one hp2 hp]
        refine h2 _ _ ⟨D, E, hv.mk' (fun o k hk => ?_) (fun a ha => f7 a ?_) ?_ ?_ (hsh.fr (fun o j ho => ?_) (fun a ha => f7 a (by omega)))⟩
        · rw [zpJ (f := zkI) rfl hk]
          by_cases eo : o = 44
          · subst eo
            rw [f6.2 k (by
              by_cases c : k < 11 ∨ 15 < k
              · exact c
              · have : k = 11 ∨ k = 12 ∨ k = 13 ∨ k = 14 ∨ k = 15 := by omega
                rcases this with rfl | rfl | rfl | rfl | rfl <;> cases hk), zp_ne (by decide)]
          · rw [f6.1 o eo, zpJ (f := zkI) rfl hk]
        · by_cases c : a < 50 ∨ 53 < a
          · exact c
          · have : a = 50 ∨ a = 51 ∨ a = 52 ∨ a = 53 := by omega
            rcases this with rfl | rfl | rfl | rfl <;> cases ha
        · rw [zp_ne (by decide), f6.1 1 (by decide), zp_at, if_neg (by decide), zp_at, if_neg (by decide), f6.2 39 (by decide), zp_ne (by decide)]; exact ht.1
        · rw [zp_ne (by decide), f6.1 1 (by decide), zp_eq, zp_eq]
        · rw [zp_ne (by omega), f6.1 o (by omega), zp_ne (by omega)]
      · -- a text that is taken
        obtain ⟨m, hnm⟩ : ∃ m, n = 5 + 6 * m := ⟨(n - 5) / 6, by omega⟩
        have hm1 : 1 ≤ m := by omega
        have hm6 : m ≤ 6 := by
          by_cases c : n ≤ 41
          · omega
          · have := hall 41 (by omega)
            rw [zms_41 (by decide)] at this; cases this
        have hd2 := tD_ok hnm hm6 hall
        refine C_become_10 (by omega) hcd hnm hm1 hm6 hall (fun I5 A6 f5 f6 hcb I7 e7 => ?_)
        have f7 : ∀ o, o ≠ 11 → o ≠ 18 → o ≠ 22 → o ≠ 1 → I7 o = I o := fun o q1 q2 q3 q4 => by rw [e7, zp_ne q4, zp_ne q3, zp_ne q2]; exact f5 o q1
        have i11 : ∀ k, I7 11 k = I5 11 k := fun k => by rw [e7, zp_ne (by decide), zp_ne (by decide), zp_ne (by decide)]
        have i18 : I7 18 3 = zi ((0 : Nat) : Int) := by rw [e7, zp_ne (by decide), zp_ne (by decide), zp_eq]; rfl
        have i22 : I7 22 3 = zi ((0 : Nat) : Int) := by rw [e7, zp_ne (by decide), zp_eq]; rfl
        have i19 : I7 1 9 = zi ((0 : Nat) : Int) := by rw [e7, zp_eq]; rfl
        have i110 : I7 1 10 = I 1 10 := by rw [e7, zp_at, if_neg (by decide), zp_ne (by decide), zp_ne (by decide), f5 1 (by decide)]
        clear e7
        have hcb7 : CB (tD cd m) I7 A6 := hcb.fi i11 (fun _ _ _ => rfl)
        refine C_goThroughNights (D := tD cd m) (E := eN) hd2 BE_N hcb7 i19 ⟨i18, fun j h => absurd h (Nat.not_lt_zero j)⟩ (fun A8 f8 hcc hvy => ?_)
        have g8 : ∀ a, a ≠ 42 → (a < 12 ∨ 17 < a) → (a < 29 ∨ 34 < a) → A8 a = A a := fun a q1 q2 q3 => by rw [f8 a q1 q3, f6 a q2]
        rw [show I7 11 0 = zi (m : Int) from hcb7.1]
        refine hq _ _ _ (g8 0 (by decide) (by decide) (by decide)) (fun Q2 h2 => hK _ _ _ (by rw [g8 65 (by decide) (by decide) (by decide)]) (by rw [g8 66 (by decide) (by decide) (by decide)]) (fun _ => ?_) (fun q => by omega))
        refine K_readsBank (cd := cd) (by omega) (by omega) (fun x hx => by rw [g8 67 (by decide) (by decide) (by decide)]; exact hcd2 x hx) (fun p2 I9 A9 _ _ _ hp2 => (zbadR_no hp2 hall hn5).elim) (fun m2 I9 A9 hnm2 _ _ _ f9 fA9 s12 s13 s14 s15 hrd9 => ⟨fun _ => ?_, fun q => absurd (show (1 : Int32) ≠ 0 by decide) q⟩)
        have em : m2 = m := by omega
        subst em
        rw [s12, s13, s14, s15]
        refine K_bankLoop hm6 (by rw [zp_eq]) (fun A2 fA2 e2 => h2 _ _ ⟨tD cd m2, eN, ?_⟩)
        -- what stands now
        generalize hJ : zp (zp (zp (zp (zp (zp (zp (zp I9 44 1 (zi (num (cd 1)))) 44 2 (zi ((10 * num (cd 2) + num (cd 3) : Nat) : Int))) 44 3 (zi (num (cd 4)))) 44 4 (zi m2)) 44 10 0) 44 20 0) 44 31 0) 44 0 0 = J
        have j44 : ∀ o, o ≠ 44 → o ≠ 1 → J o = I7 o := fun o q1 q2 => by rw [← hJ, zp_ne q1, zp_ne q1, zp_ne q1, zp_ne q1, zp_ne q1, zp_ne q1, zp_ne q1, zp_ne q1, f9.1 o q1, zp_ne q2]
        have j1 : ∀ k, J 1 k = zp I7 1 11 0 1 k := fun k => by rw [← hJ, zp_ne (by decide), zp_ne (by decide), zp_ne (by decide), zp_ne (by decide), zp_ne (by decide), zp_ne (by decide), zp_ne (by decide), zp_ne (by decide), f9.1 1 (by decide)]
        have k0 : J 44 0 = 0 := by rw [← hJ, zp_eq]
        have k1 : J 44 1 = zi (num (cd 1)) := by rw [← hJ]; rfl
        have k2 : J 44 2 = zi ((10 * num (cd 2) + num (cd 3) : Nat) : Int) := by rw [← hJ]; rfl
        have k3 : J 44 3 = zi (num (cd 4)) := by rw [← hJ]; rfl
        have k4 : J 44 4 = zi (m2 : Int) := by rw [← hJ]; rfl
        have k10 : J 44 10 = zi ((0 : Nat) : Int) := by rw [← hJ]; rfl
        have k20 : J 44 20 = zi ((0 : Nat) : Int) := by rw [← hJ]; rfl
        have k31 : J 44 31 = zi ((0 : Nat) : Int) := by rw [← hJ]; rfl
        have k39 : J 44 39 = I 44 39 := by
          rw [← hJ, zp_at, if_neg (by decide), zp_at, if_neg (by decide), zp_at, if_neg (by decide), zp_at, if_neg (by decide), zp_at, if_neg (by decide), zp_at, if_neg (by decide), zp_at, if_neg (by decide), zp_at, if_neg (by decide), f9.2 39 (by decide), zp_ne (by decide), f7 44 (by decide) (by decide) (by decide) (by decide)]
        clear hJ
        have g2 : ∀ a, (a < 45 ∨ 53 < a) → A2 a = A8 a := fun a q => by rw [fA2 a (by omega), fA9 a (by omega)]
        refine ⟨hd2, BE_N, hcb7.fi (fun k => by rw [j44 11 (by decide) (by decide)]) (fun a q1 q2 => by rw [g2 a (by omega), f8 a (by omega) (by omega)]), ⟨k4, k1, k2, k3, fun s hsm => ?_⟩, ⟨k10, by decide, fun s hsm => ?_⟩, ⟨?_, fun s hsm => by rw [g2 42 (by decide)]; exact hcc s hsm⟩, ⟨by rw [j44 18 (by decide) (by decide)]; exact i18, k20, fun j h => absurd h (Nat.not_lt_zero j)⟩, ⟨by rw [j44 22 (by decide) (by decide)]; exact i22, k31, fun j h => absurd h (Nat.not_lt_zero j)⟩, fun _ => ⟨_, zRo_so _ _ _, ?_⟩, ⟨?_, ?_⟩, hsh.fr (fun o j ho => by rw [j44 o (by omega) (by omega), f7 o (by omega) (by omega) (by omega) (by omega)]) (fun a ha => by rw [g2 a (by omega), g8 a (by omega) (by omega) (by omega)]), by rw [g2 0 (by decide), g8 0 (by decide) (by decide) (by decide)]; exact h0⟩
        · obtain ⟨t1, t2, t3, t4⟩ := tD_s (cd := cd) (m := m2) hsm
          obtain ⟨e45, e46, e47, e48, _⟩ := e2 s hsm
          obtain ⟨r50, r51, r52, r53⟩ := hrd9 s hsm
          rw [t1, t2, t3, t4, e45, e46, e47, e48, r50, r51, r52, r53]
          exact ⟨rfl, rfl, rfl, rfl⟩
        · obtain ⟨t1, t2, t3, t4⟩ := tD_s (cd := cd) (m := m2) hsm
          rw [zco_N, t2, (e2 s hsm).2.2.2.2, (hrd9 s hsm).2.1]
        · rw [j1, zp_at, if_neg (by decide)]; exact i19
        · unfold VY at hvy ⊢
          rw [g2 29 (by decide), g2 30 (by decide), g2 31 (by decide), g2 32 (by decide)]; exact hvy
        · rw [j1, zp_at, if_neg (by decide), i110, k39]; exact ht.1
        · rw [j1, zp_eq, k0]
    · have hf : 0 < zff b l n0 (zi l2) w u := by
        rw [show (0 : Int32) = zi 0 from rfl, zi_inj (by omega) (by omega) (by omega) (by omega)] at c; omega
      rw [zm10]
      exact hq _ _ _ rfl (fun Q2 h2 => hK _ _ _ rfl rfl (fun q => by omega) (fun _ => h2 _ _ ⟨D, E, hv.ft _⟩))
  · refine C_isLane_n hlv ⟨fun c => absurd rfl c, fun _ => hq _ _ _ rfl (fun Q2 h2 => ?_)⟩
    unfold W_X8_bank_r44 W_X8_refused_r44
    exact K_noSheet_y (by decide) ⟨fun _ => K_lane_n hlv ⟨fun c => absurd rfl c, fun _ => h2 _ _ ⟨D, E, hv.ft 0⟩⟩, fun c => absurd rfl c⟩
theorem OP_bank {Ln : Nat} {xs : Nat → Int32} {I A : Nat → Nat → Int32} {s v w u : Int32} {Q : Int32 → (Nat → Nat → Int32) → (Nat → Nat → Int32) → Prop} (hv : INV xs I A) (hq : ∀ x I' A', A' 0 = A 0 → (∀ Q2 : Int32 → (Nat → Nat → Int32) → (Nat → Nat → Int32) → Prop, (∀ I2 A2, INV xs I2 A2 → Q2 x I2 A2) → W_X8_bank_r44 Ln I' A' s v w u Q2) → Q x I' A') : W_X7_bank_r1 Ln I A s v w u Q := by
  unfold W_X7_bank_r1
  refine ⟨fun e => ?_, fun e => ?_, fun e => ?_, fun e => ?_, fun n0 n1 n2 n3 => ?_⟩
  · subst e; exact OP_bank_c0 hv hq
  · subst e; exact OP_bank_c1 hv hq
  · subst e; exact OP_bank_c2 hv hq
  · subst e; exact OP_bank_c3 hv hq
  · rcases z4 (v := s) with c | hn
    · exact absurd c (by rintro (c | c | c | c) <;> contradiction)
    · obtain ⟨D, E, hv⟩ := hv
      refine C_isSheet_n hn ⟨fun c => absurd rfl c, fun _ => ?_⟩
      unfold W_X7_faultless_r1
      refine hq _ _ _ rfl (fun Q2 h2 => ?_)
      unfold W_X8_bank_r44 W_X8_refused_r44
      exact K_noSheet_n hn ⟨fun c => absurd c (by decide), fun _ => h2 _ _ ⟨D, E, hv.ft 0⟩⟩
