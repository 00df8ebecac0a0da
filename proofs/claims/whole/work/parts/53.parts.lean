/-! telling, hailing, casts -/
theorem zclo {xs : Nat → Int32} {A : Nat → Nat → Int32} {Q2 : Int32 → (Nat → Nat → Int32) → Prop} {x y : Int32} {I2 : Nat → Nat → Int32} (h2 : ∀ I2, INV xs I2 A → Q2 x I2) (e : y = x) (hi : INV xs I2 A) : Q2 y I2 := by rw [e]; exact h2 _ hi
theorem zp_eq {I : Nat → Nat → Int32} {o k : Nat} {v : Int32} : zp I o k v o k = v := by rw [zp_at, if_pos rfl]
theorem OP_hail {Ln : Nat} {xs : Nat → Int32} {I A : Nat → Nat → Int32} {v : Int32} {Q : Int32 → (Nat → Nat → Int32) → Prop} (hv : INV xs I A) (hq : ∀ x I', (∀ Q2 : Int32 → (Nat → Nat → Int32) → Prop, (∀ I2, INV xs I2 A → Q2 x I2) → W_X8_hail_r44 Ln I' A v Q2) → Q x I') : W_X7_hail_r1 Ln I A v Q := by
  obtain ⟨D, E, hv⟩ := hv
  have hv0 := hv
  obtain ⟨hd, he, hb, hr, hc, ⟨h19, h42⟩, hl, hrd, hvn, ht, _, _⟩ := hv
  have hn := hd.1
  unfold W_X7_hail_r1
  by_cases hs0 : 0 ≤ v.toInt ∧ v.toInt < dn D
  · obtain ⟨s, hs, rfl⟩ := zasn hs0
    obtain ⟨b1, _⟩ := hb.2.2.2.2.1 s hs
    obtain ⟨r1, _⟩ := hr.2.2.2.2 s hs
    have hk := (hd.2.2.2.2 s).1
    have hz := zin_n (L := 6) (s := s) (by omega) (by decide)
    refine C_isShade_y hb.1 hn hs ⟨fun _ => ⟨hz, ?_⟩, fun c => absurd (show (1 : Int32) ≠ 0 by decide) c⟩
    rw [zi_nat' (show s < 2147483648 by omega), b1, ne_eq, show (2 : Int32) = zi (2 : Nat) from rfl, zeq_n (by omega) (by omega)]
    refine ⟨fun c => ?_, fun c => ?_⟩
    · unfold W_X7_hailByNumber_r1 W_X7_leave_r1
      refine hq _ _ (fun Q2 h2 => ?_)
      unfold W_X8_hail_r44
      refine K_noShade_y hr.1 hn hs ⟨fun _ => ⟨hz, fun _ => ?_, fun c2 => ?_⟩, fun c2 => absurd rfl c2⟩
      · unfold J_X8_hail_r44_26_s2 W_X8_traced_r44
        refine ⟨hz, fun _ => zclo h2 rfl ⟨D, E, hv0.tf (fun o k hk => (zpT rfl hk).trans (zpT rfl hk)) ?_ hv0.tr.2⟩, fun c2 => ?_⟩
        · rw [zp_eq, zp_ne (by decide), zp_eq, zp_ne (by decide), hv0.tr.1]
        · rw [zi_nat' (by omega), r1, ne_eq, show (2 : Int32) = zi (2 : Nat) from rfl, zeq_n (by omega) (by omega)] at c2; exact absurd c c2
      · rw [zi_nat' (by omega), r1, ne_eq, show (2 : Int32) = zi (2 : Nat) from rfl, zeq_n (by omega) (by omega)] at c2; exact absurd c c2
    · unfold W_X7_hailLiving_r1 W_X7_leave_r1
      refine hq _ _ (fun Q2 h2 => ?_)
      unfold W_X8_hail_r44
      refine K_noShade_y hr.1 hn hs ⟨fun _ => ⟨hz, fun c2 => ?_, fun _ => ?_⟩, fun c2 => absurd rfl c2⟩
      · rw [zi_nat' (by omega), r1, ne_eq, show (2 : Int32) = zi (2 : Nat) from rfl, zeq_n (by omega) (by omega)] at c2; exact absurd c2 c
      · unfold J_X8_hail_r44_26_s2 W_X8_traced_r44
        refine ⟨hz, fun c2 => ?_, fun _ => zclo h2 rfl ⟨D, E, hv0.tf (fun o k hk => (zpT rfl hk).trans (zpT rfl hk)) ?_ hv0.tr.2⟩⟩
        · rw [zi_nat' (by omega), r1, ne_eq, show (2 : Int32) = zi (2 : Nat) from rfl, zeq_n (by omega) (by omega)] at c2; exact absurd c2 c
        · rw [zp_eq, zp_ne (by decide), zp_eq, zp_ne (by decide), hv0.tr.1]
  · refine C_isShade_n hb.1 hn hs0 ⟨fun c => absurd rfl c, fun _ => hq _ _ (fun Q2 h2 => ?_)⟩
    unfold W_X8_hail_r44
    exact K_noShade_n hr.1 hn hs0 ⟨fun c => absurd c (by decide), fun _ => h2 _ ⟨D, E, hv0⟩⟩
theorem OP_tell {Ln : Nat} {xs : Nat → Int32} {I A : Nat → Nat → Int32} {v : Int32} {Q : Int32 → (Nat → Nat → Int32) → Prop} (hv : INV xs I A) (hq : ∀ x I', (∀ Q2 : Int32 → (Nat → Nat → Int32) → Prop, (∀ I2, INV xs I2 A → Q2 x I2) → W_X8_tell_r44 Ln I' A v Q2) → Q x I') : W_X7_tell_r1 Ln I A v Q := by
  obtain ⟨D, E, hv⟩ := hv
  have hv0 := hv
  obtain ⟨hd, he, hb, hr, hc, ⟨h19, h42⟩, hl, hrd, hvn, ht, _, _⟩ := hv
  have hn := hd.1
  unfold W_X7_tell_r1
  by_cases hs0 : 0 ≤ v.toInt ∧ v.toInt < dn D
  · obtain ⟨s, hs, rfl⟩ := zasn hs0
    obtain ⟨b1, _, b3, _⟩ := hb.2.2.2.2.1 s hs
    obtain ⟨r1, _, r3, _⟩ := hr.2.2.2.2 s hs
    have hk := (hd.2.2.2.2 s).1
    have hz := zin_n (L := 6) (s := s) (by omega) (by decide)
    refine C_isShade_y hb.1 hn hs ⟨fun _ => ⟨hz, ?_⟩, fun c => absurd (show (1 : Int32) ≠ 0 by decide) c⟩
    rw [zi_nat' (show s < 2147483648 by omega), b1]
    have hJ51 : ∀ (J : Nat → Nat → Int32) (w : Int32) (Q2 : Int32 → (Nat → Nat → Int32) → Prop), (w = 0 → Q2 (A 47 s) J) → (w = 1 → Q2 (A 47 s + 100) J) → (w ≠ 0 → w ≠ 1 → Q2 (2 * A 47 s + 100) J) → J_X8_tell_r44_51 Ln J A (zi s) w Q2 := by
      intro J w Q2 h0 h1 h2
      unfold J_X8_tell_r44_51
      rw [zi_nat' (show s < 2147483648 by omega)]
      exact ⟨hz, fun c x3 e => by subst e; exact ⟨fun c2 => h2 c c2, fun c2 => h1 (Decidable.not_not.mp c2)⟩, fun c x4 e => by subst e; exact h0 (Decidable.not_not.mp c)⟩
    rw [r3] at hJ51
    have hk3 : dk D s = 0 ∨ dk D s = 1 ∨ dk D s = 2 := by omega
    rcases hk3 with e | e | e <;> rw [e] at b1 r1 ⊢
    · refine ⟨fun c => absurd c (by decide), fun c => absurd c (by decide), fun _ _ => ?_⟩
      unfold W_X7_shadeTells_r1 W_X7_leave_r1
      rw [zi_nat' (by omega), b3]
      refine ⟨hz, hq _ _ (fun Q2 h2 => ?_)⟩
      unfold W_X8_tell_r44 J_X8_tell_r44_27 J_X8_tell_r44_36 W_X8_traced_r44
      refine K_noShade_y hr.1 hn hs ⟨fun _ => ⟨hz, ?_⟩, fun c2 => absurd rfl c2⟩
      rw [zi_nat' (by omega), r1]
      refine ⟨fun _ => ⟨fun _ => ⟨fun _ => hJ51 _ _ _ (fun _ => ?_) (fun c => absurd c (by decide)) (fun c => absurd (by decide) c), fun c => absurd (by decide) c⟩, fun c => absurd (by decide) c⟩, fun c => absurd (by decide) c⟩
      refine zclo h2 rfl ⟨D, E, hv0.tf (fun o k hk => (zpT rfl hk).trans (zpT rfl hk)) ?_ hv0.tr.2⟩
      rw [zp_eq, zp_ne (by decide), zp_eq, zp_ne (by decide), hv0.tr.1]
    · refine ⟨fun _ => ?_, fun c => absurd c (by decide), fun c => absurd (by decide) c⟩
      unfold W_X7_drownedTells_r1 W_X7_shadeTells_r1 W_X7_leave_r1
      rw [zi_nat' (by omega), b3]
      refine ⟨hz, hq _ _ (fun Q2 h2 => ?_)⟩
      unfold W_X8_tell_r44 J_X8_tell_r44_27 J_X8_tell_r44_36 W_X8_traced_r44
      refine K_noShade_y hr.1 hn hs ⟨fun _ => ⟨hz, ?_⟩, fun c2 => absurd rfl c2⟩
      rw [zi_nat' (by omega), r1]
      refine ⟨fun _ => ⟨fun c => absurd c (by decide), fun _ => ⟨fun _ => hJ51 _ _ _ (fun c => absurd c (by decide)) (fun _ => ?_) (fun _ c => absurd (by decide) c), fun c => absurd (by decide) c⟩⟩, fun c => absurd (by decide) c⟩
      refine zclo h2 rfl ⟨D, E, hv0.tf (fun o k hk => (zpT rfl hk).trans ((zpT rfl hk).trans ((zpT rfl hk).trans (zpT rfl hk)))) ?_ hv0.tr.2⟩
      simp only [zp_eq, zp_ne (show (1 : Nat) ≠ 44 by decide), zp_ne (show (44 : Nat) ≠ 1 by decide), hv0.tr.1]
    · refine ⟨fun c => absurd c (by decide), fun _ => ?_, fun _ c => absurd (by decide) c⟩
      unfold W_X7_livingTells_r1 W_X7_drownedTells_r1 W_X7_shadeTells_r1 W_X7_leave_r1
      rw [zi_nat' (by omega), b3]
      refine ⟨hz, hz, hq _ _ (fun Q2 h2 => ?_)⟩
      unfold W_X8_tell_r44 J_X8_tell_r44_27 J_X8_tell_r44_36 W_X8_traced_r44
      refine K_noShade_y hr.1 hn hs ⟨fun _ => ⟨hz, ?_⟩, fun c2 => absurd rfl c2⟩
      rw [zi_nat' (by omega), r1]
      refine ⟨fun c => absurd (by decide) c, fun _ x7 e7 => ?_⟩
      subst e7
      refine ⟨fun c => absurd c (by decide), fun _ => ⟨fun c => absurd (by decide) c, fun _ => hJ51 _ _ _ (fun c => absurd c (by decide)) (fun c => absurd c (by decide)) (fun _ _ => ?_)⟩⟩
      refine zclo h2 ?_ ⟨D, E, hv0.tf (fun o k hk => (zpT rfl hk).trans ((zpT rfl hk).trans ((zpT rfl hk).trans ((zpT rfl hk).trans ((zpT rfl hk).trans ((zpT rfl hk).trans ((zpT rfl hk).trans (zpT rfl hk)))))))) ?_ hv0.tr.2⟩
      · rw [zq2, zq100, zi_mul, zi_add, zi_add, zi_add]; congr 1; omega
      · simp only [zp_eq, zp_ne (show (1 : Nat) ≠ 44 by decide), zp_ne (show (44 : Nat) ≠ 1 by decide), hv0.tr.1]
  · refine C_isShade_n hb.1 hn hs0 ⟨fun c => absurd rfl c, fun _ => hq _ _ (fun Q2 h2 => ?_)⟩
    unfold W_X8_tell_r44
    exact K_noShade_n hr.1 hn hs0 ⟨fun c => absurd c (by decide), fun _ => h2 _ ⟨D, E, hv0⟩⟩
theorem OP_as {Ln : Nat} {xs : Nat → Int32} {I A : Nat → Nat → Int32} {v w : Int32} {Q : Int32 → (Nat → Nat → Int32) → Prop} (hv : INV xs I A) (hq : ∀ x I', (∀ Q2 : Int32 → (Nat → Nat → Int32) → Prop, (∀ I2, INV xs I2 A → Q2 x I2) → W_X8_as_r44 Ln I' A v w Q2) → Q x I') : W_X7_as_r1 Ln I A v w Q := by
  obtain ⟨D, E, hv⟩ := hv
  have hv0 := hv
  obtain ⟨hd, he, hb, hr, hc, ⟨h19, h42⟩, hl, hrd, hvn, ht, _, _⟩ := hv
  have hn := hd.1
  unfold W_X7_as_r1 J_X7_as_r1_23 W_X7_faultless_r1 W_X7_faulted_r1
  by_cases hs0 : 0 ≤ v.toInt ∧ v.toInt < dn D
  · obtain ⟨s, hs, rfl⟩ := zasn hs0
    obtain ⟨b1, _⟩ := hb.2.2.2.2.1 s hs
    obtain ⟨r1, _⟩ := hr.2.2.2.2 s hs
    have hk := (hd.2.2.2.2 s).1
    have hz := zin_n (L := 6) (s := s) (by omega) (by decide)
    refine C_isShade_y hb.1 hn hs ⟨fun _ => ?_, fun c => absurd (show (1 : Int32) ≠ 0 by decide) c⟩
    by_cases hw : 0 ≤ w.toInt ∧ w.toInt < (3 : Nat)
    · obtain ⟨k, hk3, rfl⟩ := zasn hw
      rw [zi_nat' (show s < 2147483648 by omega), b1, zlt0, zi_toInt (by omega) (by omega), zle_n (by omega) (by omega), show (3 : Int32) = zi (3 : Nat) from rfl, zlt_n (by omega) (by omega)]
      have hin : ∀ {J : Nat → Nat → Int32} {Q3 : Int32 → Prop}, Q3 1 → W_X8_in Ln J A (Int32.toInt64 (zi k)) 0 2 Q3 := fun h3 => K_in_y (by rw [zi_toInt (by omega) (by omega)]; show (0 : Int) ≤ k; omega) (by rw [zi_toInt (by omega) (by omega)]; show (k : Int) ≤ 2; omega) h3
      refine ⟨fun c => by omega, fun _ => ⟨fun _ => ⟨hz, fun c => hq _ _ (fun Q2 h2 => ?_), fun c => hq _ _ (fun Q2 h2 => ?_)⟩, fun c => absurd hk3 c⟩⟩
      · unfold W_X8_as_r44 W_X8_refused_r44 W_X8_failed_r44
        refine K_noShade_y hr.1 hn hs ⟨fun _ => hin ⟨fun _ => ⟨hz, fun c2 => ?_, fun _ => h2 _ ⟨D, E, hv0.ft 0⟩⟩, fun c2 => absurd (show (1 : Int32) ≠ 0 by decide) c2⟩, fun c2 => absurd rfl c2⟩
        rw [zi_nat' (by omega), r1, zlt_n (by omega) (by omega)] at c2; omega
      · unfold W_X8_as_r44 W_X8_refused_r44 W_X8_failed_r44
        refine K_noShade_y hr.1 hn hs ⟨fun _ => hin ⟨fun _ => ⟨hz, fun _ => h2 _ ⟨D, E, hv0.ft 2⟩, fun c2 => ?_⟩, fun c2 => absurd (show (1 : Int32) ≠ 0 by decide) c2⟩, fun c2 => absurd rfl c2⟩
        rw [zi_nat' (by omega), r1, zlt_n (by omega) (by omega)] at c2; omega
    · rw [zlt0, show (3 : Int32) = zi (3 : Nat) from rfl, zvlt (by omega)]
      have hr2 : Q (-2) (zp I 1 11 0) := by
        refine hq _ _ (fun Q2 h2 => ?_)
        unfold W_X8_as_r44 W_X8_refused_r44
        refine K_noShade_y hr.1 hn hs ⟨fun _ => K_in_n ?_ ⟨fun c => absurd rfl c, fun _ => h2 _ ⟨D, E, hv0.ft 0⟩⟩, fun c2 => absurd rfl c2⟩
        show ¬ ((0 : Int) ≤ w.toInt ∧ w.toInt ≤ 2)
        omega
      exact ⟨fun _ => hr2, fun c => ⟨fun c2 => by omega, fun _ => hr2⟩⟩
  · refine C_isShade_n hb.1 hn hs0 ⟨fun c => absurd rfl c, fun _ => hq _ _ (fun Q2 h2 => ?_)⟩
    unfold W_X8_as_r44 W_X8_refused_r44
    exact K_noShade_n hr.1 hn hs0 ⟨fun c => absurd c (by decide), fun _ => h2 _ ⟨D, E, hv0.ft 0⟩⟩
