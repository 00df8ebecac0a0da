/-! the questions of nights -/
theorem OP_many {Ln : Nat} {xs : Nat → Int32} {I A : Nat → Nat → Int32} {v : Int32} {Q : Int32 → Prop} (hv : INV xs I A) (hq : ∀ x, (∀ Q2 : Int32 → Prop, Q2 x → W_X8_many_r44 Ln I A v Q2) → Q x) : W_X7_many_r1 Ln I A v Q := by
  obtain ⟨D, E, hd, he, hb, hr, hc, ⟨h19, _⟩, hl, hrd, _, _, _, _⟩ := hv
  have e0 : I 44 4 = I 11 0 := hr.1.trans hb.1.symm
  have e1 : I 44 1 = I 11 1 := hr.2.1.trans hb.2.1.symm
  have e2 : I 44 2 = I 11 2 := hr.2.2.1.trans hb.2.2.1.symm
  have e3 : I 44 3 = I 11 3 := hr.2.2.2.1.trans hb.2.2.2.1.symm
  have e4 : I 44 20 = I 18 3 := hl.2.1.trans hl.1.symm
  have e5 : I 44 31 = I 22 3 := hrd.2.1.trans hrd.1.symm
  have e6 : I 44 10 = I 1 9 := hc.1.trans h19.symm
  unfold W_X7_many_r1
  unfold W_X8_many_r44 at hq
  rw [e0, e1, e2, e3, e4, e5, e6] at hq
  refine ⟨fun c => hq _ (fun Q2 h2 => ?_), fun c => hq _ (fun Q2 h2 => ?_), fun c => hq _ (fun Q2 h2 => ?_), fun c => hq _ (fun Q2 h2 => ?_), fun c => hq _ (fun Q2 h2 => ?_), fun c => hq _ (fun Q2 h2 => ?_), fun c => hq _ (fun Q2 h2 => ?_), fun c0 c1 c3 c4 c5 c6 c7 => hq _ (fun Q2 h2 => ?_)⟩ <;> refine ⟨fun k => ?_, fun k => ?_, fun k => ?_, fun k => ?_, fun k => ?_, fun k => ?_, fun k => ?_, fun k0 k1 k2 k3 k4 k5 k6 => ?_⟩ <;> first | exact h2 | omega
theorem OP_trace {Ln : Nat} {xs : Nat → Int32} {I A : Nat → Nat → Int32} {Q : Int32 → Prop} (hv : INV xs I A) (hq : ∀ x, (∀ Q2 : Int32 → Prop, Q2 x → W_X8_trace_r44 Ln I A Q2) → Q x) : W_X7_trace_r1 Ln I A Q := by
  obtain ⟨D, E, hd, he, hb, hr, hc, ⟨h19, _⟩, hl, hrd, _, ht, _, _⟩ := hv
  refine hq _ (fun Q2 h2 => ?_)
  unfold W_X8_trace_r44
  rw [← ht.1]; exact h2
theorem OP_fault {Ln : Nat} {xs : Nat → Int32} {I A : Nat → Nat → Int32} {Q : Int32 → Prop} (hv : INV xs I A) (hq : ∀ x, (∀ Q2 : Int32 → Prop, Q2 x → W_X8_fault_r44 Ln I A Q2) → Q x) : W_X7_fault_r1 Ln I A Q := by
  obtain ⟨D, E, hd, he, hb, hr, hc, ⟨h19, _⟩, hl, hrd, _, ht, _, _⟩ := hv
  refine hq _ (fun Q2 h2 => ?_)
  unfold W_X8_fault_r44
  rw [← ht.2]; exact h2
theorem OP_ofShade {Ln : Nat} {xs : Nat → Int32} {I A : Nat → Nat → Int32} {v w : Int32} {Q : Int32 → Prop} (hv : INV xs I A) (hq : ∀ x, (∀ Q2 : Int32 → Prop, Q2 x → W_X8_ofShade_r44 Ln I A v w Q2) → Q x) : W_X7_ofShade_r1 Ln I A v w Q := by
  obtain ⟨D, E, hd, he, hb, hr, hc, ⟨h19, h42⟩, hl, hrd, _, ht, _, _⟩ := hv
  have hn := hd.1
  unfold W_X7_ofShade_r1
  by_cases hs0 : 0 ≤ v.toInt ∧ v.toInt < dn D
  · obtain ⟨s, hs, rfl⟩ := zasn hs0
    obtain ⟨b1, b2, b3, b4⟩ := hb.2.2.2.2.1 s hs
    obtain ⟨r1, r2, r3, r4⟩ := hr.2.2.2.2 s hs
    have hz := zin_n (L := 6) (s := s) (by omega) (by decide)
    refine C_isShade_y hb.1 hn hs ⟨fun _ => ?_, fun c => absurd (show (1 : Int32) ≠ 0 by decide) c⟩
    rw [zi_nat' (show s < 2147483648 by omega), b1, b2, b3, b4, h42 s hs]
    have hq' : ∀ x, (∀ Q2 : Int32 → Prop, Q2 x → ((w.toInt = 0 → (zin (zi s) 6 = true ∧ Q2 (zi (dk D s)))) ∧ (w.toInt = 1 → (zin (zi s) 6 = true ∧ Q2 (zi (dt D s)))) ∧ (w.toInt = 2 → (zin (zi s) 6 = true ∧ Q2 (zi (dw D s)))) ∧ (w.toInt = 3 → (zin (zi s) 6 = true ∧ Q2 (zi (dc D s)))) ∧ (w.toInt = 4 → W_X8_paysOf_r44 Ln I A (zi s) (fun r2 => Q2 r2)) ∧ (w.toInt = 5 → W_X8_heavyOf_r44 Ln I A (zi s) (fun r3 => Q2 r3)) ∧ (w.toInt = 6 → (zin (zi s) 6 = true ∧ Q2 (zi (zco D E s)))) ∧ (¬ w.toInt = 0 → ¬ w.toInt = 1 → ¬ w.toInt = 2 → ¬ w.toInt = 3 → ¬ w.toInt = 4 → ¬ w.toInt = 5 → ¬ w.toInt = 6 → Q2 (-2)))) → Q x := by
      intro x hx
      refine hq x (fun Q2 h2 => ?_)
      unfold W_X8_ofShade_r44
      refine K_noShade_y hr.1 hn hs ⟨fun _ => ?_, fun c => absurd rfl c⟩
      rw [zi_nat' (show s < 2147483648 by omega), r1, r2, r3, r4, hc.2.2 s hs]
      exact hx Q2 h2
    refine ⟨fun c => ⟨hz, hq' _ (fun Q2 h2 => ?_)⟩, fun c => ⟨hz, hq' _ (fun Q2 h2 => ?_)⟩, fun c => ⟨hz, hq' _ (fun Q2 h2 => ?_)⟩, fun c => ⟨hz, hq' _ (fun Q2 h2 => ?_)⟩, fun c => C_price hd hb hs (hq' _ (fun Q2 h2 => ?_)), fun c => C_heavy hd hb hs (hq' _ (fun Q2 h2 => ?_)), fun c => ⟨hz, hq' _ (fun Q2 h2 => ?_)⟩, fun c0 c1 c3 c4 c5 c6 c7 => hq' _ (fun Q2 h2 => ?_)⟩ <;> refine ⟨fun k => ?_, fun k => ?_, fun k => ?_, fun k => ?_, fun k => ?_, fun k => ?_, fun k => ?_, fun k0 k1 k2 k3 k4 k5 k6 => ?_⟩ <;> first | exact ⟨hz, h2⟩ | exact h2 | exact K_heavyOf hd hr hs h2 | omega | (unfold W_X8_paysOf_r44; rw [zi_nat' (show s < 2147483648 by omega), r1, zq1, zi_add]; exact ⟨hz, h2⟩)
  · refine C_isShade_n hb.1 hn hs0 ⟨fun c => absurd rfl c, fun _ => hq _ (fun Q2 h2 => ?_)⟩
    unfold W_X8_ofShade_r44
    exact K_noShade_n hr.1 hn hs0 ⟨fun c => absurd c (by decide), fun _ => h2⟩
theorem zen_ne {x : Nat} (h : x ≤ 99) : zi (zen x) = zi (-9) ↔ x = 99 := by
  unfold zen
  split
  · next e => exact ⟨fun _ => e, fun _ => rfl⟩
  · next e => rw [zi_inj (by omega) (by omega) (by omega) (by omega)]; exact ⟨fun c => by omega, fun c => absurd c e⟩
theorem zrun_le (D : Nat → Nat → Nat) (co : Nat → Int) (ro : Nat → Nat) (d s : Nat) (h : d ≤ 60) : (zrun D co ro d).1 s ≤ 99 ∧ ((zrun D co ro d).1 s < 99 → (zrun D co ro d).1 s < d) := by
  have := (zrun_ok D co ro d s).1
  omega
theorem OP_over {Ln : Nat} {xs : Nat → Int32} {I A : Nat → Nat → Int32} {v : Int32} {Q : Int32 → Prop} (hv : INV xs I A) (hq : ∀ x, (∀ Q2 : Int32 → (Nat → Nat → Int32) → (Nat → Nat → Int32) → Prop, (∀ I2 A2, INV xs I2 A2 → Q2 x I2 A2) → W_X8_over_r44 Ln I A v Q2) → Q x) : W_X7_over_r1 Ln I A v Q := by
  obtain ⟨D, E, hv⟩ := hv
  have hv0 := hv
  obtain ⟨hd, he, hb, hr, hc, ⟨h19, h42⟩, hl, hrd, hvn, ht, _, _⟩ := hv
  have hn := hd.1
  have hco := zco_ok hd he
  unfold W_X7_over_r1
  by_cases hs0 : 0 ≤ v.toInt ∧ v.toInt < dn D
  · obtain ⟨s, hs, rfl⟩ := zasn hs0
    obtain ⟨ro, hro, hvy⟩ := hvn (by omega)
    have hz := zin_n (L := 6) (s := s) (by omega) (by decide)
    refine C_isShade_y hb.1 hn hs ⟨fun c => absurd c (by decide), fun _ => ⟨hz, hq _ (fun Q2 h2 => ?_)⟩⟩
    unfold W_X8_over_r44
    refine K_noShade_y hr.1 hn hs ⟨fun _ => K_goAll hd hco hr hc hro (fun I2 A2 f g => ⟨hz, ?_⟩), fun c => absurd rfl c⟩
    have hle := (zrun_le D (zco D E) ro 60 s (by decide)).1
    rw [zi_nat' (by omega), hvy.1 s hs] at h2
    rw [zi_nat' (by omega), (g s hs).1, ne_eq, show (99 : Int32) = zi (99 : Nat) from rfl, zeq_n (by omega) (by omega)]
    refine ⟨fun c => ⟨hz, ?_⟩, fun c => ?_⟩
    · have h3 := h2 I2 A2 ⟨D, E, hv0.rf f⟩
      unfold zen at h3; rw [if_neg c] at h3; exact h3
    · have h3 := h2 I2 A2 ⟨D, E, hv0.rf f⟩
      unfold zen at h3; rw [if_pos (Decidable.not_not.mp c)] at h3; exact h3
  · refine C_isShade_n hb.1 hn hs0 ⟨fun _ => hq _ (fun Q2 h2 => ?_), fun c => absurd rfl c⟩
    unfold W_X8_over_r44
    exact K_noShade_n hr.1 hn hs0 ⟨fun c => absurd c (by decide), fun _ => h2 I A ⟨D, E, hv0⟩⟩
theorem OP_overBy {Ln : Nat} {xs : Nat → Int32} {I A : Nat → Nat → Int32} {v : Int32} {Q : Int32 → Prop} (hv : INV xs I A) (hq : ∀ x, (∀ Q2 : Int32 → (Nat → Nat → Int32) → (Nat → Nat → Int32) → Prop, (∀ I2 A2, INV xs I2 A2 → Q2 x I2 A2) → W_X8_overBy_r44 Ln I A v Q2) → Q x) : W_X7_overBy_r1 Ln I A v Q := by
  obtain ⟨D, E, hv⟩ := hv
  have hv0 := hv
  obtain ⟨hd, he, hb, hr, hc, ⟨h19, h42⟩, hl, hrd, hvn, ht, _, _⟩ := hv
  have hn := hd.1
  have hco := zco_ok hd he
  unfold W_X7_overBy_r1 W_X7_ofNight_r1_r32
  by_cases hs0 : 0 ≤ v.toInt ∧ v.toInt < (60 : Nat)
  · obtain ⟨d, hs, rfl⟩ := zasn hs0
    have hz := zin_n (L := 60) (s := d) (by omega) (by decide)
    refine C_isNight_y hs ⟨fun _ => ?_, fun c => absurd (show (1 : Int32) ≠ 0 by decide) c⟩
    by_cases h0 : 0 < dn D
    · obtain ⟨ro, hro, hvy⟩ := hvn h0
      refine C_noBank_y hb.1 hn h0 ⟨fun _ => ⟨hz, hq _ (fun Q2 h2 => ?_)⟩, fun c => absurd rfl c⟩
      unfold W_X8_overBy_r44
      refine K_refusedFor_y hr.1 hn h0 hs ⟨fun _ => K_goTo hd hco hr hc hro hs (fun I2 A2 f g e26 e27 => ?_), fun c => absurd (by decide) c⟩
      have h3 := h2 I2 A2 ⟨D, E, hv0.rf f⟩
      rw [zi_nat' (by omega)] at h3
      obtain ⟨y1, y2, y3⟩ := hvy.2 d hs
      refine K_overNow hd (hr.fr f) (fun t ht => ⟨(g t ht).1, (zrun_le D (zco D E) ro (d + 1) t (by omega)).1⟩) ?_
      rw [y3] at h3; exact h3
    · refine C_noBank_n hb.1 (by omega) ⟨fun c => absurd c (by decide), fun _ => hq _ (fun Q2 h2 => ?_)⟩
      unfold W_X8_overBy_r44
      exact K_refusedFor_0 hr.1 (by omega) hs ⟨fun c => absurd c (by decide), fun _ => h2 I A ⟨D, E, hv0⟩⟩
  · refine C_isNight_n hs0 ⟨fun c => absurd rfl c, fun _ => hq _ (fun Q2 h2 => ?_)⟩
    unfold W_X8_overBy_r44
    exact K_refusedFor_n hs0 ⟨fun c => absurd c (by decide), fun _ => h2 I A ⟨D, E, hv0⟩⟩
theorem OP_rower {Ln : Nat} {xs : Nat → Int32} {I A : Nat → Nat → Int32} {v : Int32} {Q : Int32 → Prop} (hv : INV xs I A) (hq : ∀ x, (∀ Q2 : Int32 → (Nat → Nat → Int32) → (Nat → Nat → Int32) → Prop, (∀ I2 A2, INV xs I2 A2 → Q2 x I2 A2) → W_X8_rower_r44 Ln I A v Q2) → Q x) : W_X7_rower_r1 Ln I A v Q := by
  obtain ⟨D, E, hv⟩ := hv
  have hv0 := hv
  obtain ⟨hd, he, hb, hr, hc, ⟨h19, h42⟩, hl, hrd, hvn, ht, _, _⟩ := hv
  have hn := hd.1
  have hco := zco_ok hd he
  unfold W_X7_rower_r1 W_X7_ofNight_r1_r30
  by_cases hs0 : 0 ≤ v.toInt ∧ v.toInt < (60 : Nat)
  · obtain ⟨d, hs, rfl⟩ := zasn hs0
    have hz := zin_n (L := 60) (s := d) (by omega) (by decide)
    refine C_isNight_y hs ⟨fun _ => ?_, fun c => absurd (show (1 : Int32) ≠ 0 by decide) c⟩
    by_cases h0 : 0 < dn D
    · obtain ⟨ro, hro, hvy⟩ := hvn h0
      refine C_noBank_y hb.1 hn h0 ⟨fun _ => ⟨hz, hq _ (fun Q2 h2 => ?_)⟩, fun c => absurd rfl c⟩
      unfold W_X8_rower_r44
      refine K_refusedFor_y hr.1 hn h0 hs ⟨fun _ => K_goTo hd hco hr hc hro hs (fun I2 A2 f g e26 e27 => ?_), fun c => absurd (by decide) c⟩
      have h3 := h2 I2 A2 ⟨D, E, hv0.rf f⟩
      rw [zi_nat' (by omega)] at h3
      obtain ⟨y1, y2, y3⟩ := hvy.2 d hs
      rw [y1] at h3; rw [e26]; exact h3
    · refine C_noBank_n hb.1 (by omega) ⟨fun c => absurd c (by decide), fun _ => hq _ (fun Q2 h2 => ?_)⟩
      unfold W_X8_rower_r44
      exact K_refusedFor_0 hr.1 (by omega) hs ⟨fun c => absurd c (by decide), fun _ => h2 I A ⟨D, E, hv0⟩⟩
  · refine C_isNight_n hs0 ⟨fun c => absurd rfl c, fun _ => hq _ (fun Q2 h2 => ?_)⟩
    unfold W_X8_rower_r44
    exact K_refusedFor_n hs0 ⟨fun c => absurd c (by decide), fun _ => h2 I A ⟨D, E, hv0⟩⟩
theorem OP_sits {Ln : Nat} {xs : Nat → Int32} {I A : Nat → Nat → Int32} {v : Int32} {Q : Int32 → Prop} (hv : INV xs I A) (hq : ∀ x, (∀ Q2 : Int32 → (Nat → Nat → Int32) → (Nat → Nat → Int32) → Prop, (∀ I2 A2, INV xs I2 A2 → Q2 x I2 A2) → W_X8_sits_r44 Ln I A v Q2) → Q x) : W_X7_sits_r1 Ln I A v Q := by
  obtain ⟨D, E, hv⟩ := hv
  have hv0 := hv
  obtain ⟨hd, he, hb, hr, hc, ⟨h19, h42⟩, hl, hrd, hvn, ht, _, _⟩ := hv
  have hn := hd.1
  have hco := zco_ok hd he
  unfold W_X7_sits_r1 W_X7_ofNight_r1_r31
  by_cases hs0 : 0 ≤ v.toInt ∧ v.toInt < (60 : Nat)
  · obtain ⟨d, hs, rfl⟩ := zasn hs0
    have hz := zin_n (L := 60) (s := d) (by omega) (by decide)
    refine C_isNight_y hs ⟨fun _ => ?_, fun c => absurd (show (1 : Int32) ≠ 0 by decide) c⟩
    by_cases h0 : 0 < dn D
    · obtain ⟨ro, hro, hvy⟩ := hvn h0
      refine C_noBank_y hb.1 hn h0 ⟨fun _ => ⟨hz, hq _ (fun Q2 h2 => ?_)⟩, fun c => absurd rfl c⟩
      unfold W_X8_sits_r44
      refine K_refusedFor_y hr.1 hn h0 hs ⟨fun _ => K_goTo hd hco hr hc hro hs (fun I2 A2 f g e26 e27 => ?_), fun c => absurd (by decide) c⟩
      have h3 := h2 I2 A2 ⟨D, E, hv0.rf f⟩
      rw [zi_nat' (by omega)] at h3
      obtain ⟨y1, y2, y3⟩ := hvy.2 d hs
      rw [y2] at h3; rw [e27]; exact h3
    · refine C_noBank_n hb.1 (by omega) ⟨fun c => absurd c (by decide), fun _ => hq _ (fun Q2 h2 => ?_)⟩
      unfold W_X8_sits_r44
      exact K_refusedFor_0 hr.1 (by omega) hs ⟨fun c => absurd c (by decide), fun _ => h2 I A ⟨D, E, hv0⟩⟩
  · refine C_isNight_n hs0 ⟨fun c => absurd rfl c, fun _ => hq _ (fun Q2 h2 => ?_)⟩
    unfold W_X8_sits_r44
    exact K_refusedFor_n hs0 ⟨fun c => absurd c (by decide), fun _ => h2 I A ⟨D, E, hv0⟩⟩
/-- the waiting of one -/
def zwait (D : Nat → Nat → Nat) (on : Nat → Nat) (s : Nat) : Int := (if on s = 99 then 60 else (on s : Int)) - dc D s
theorem K_waitOf {Ln : Nat} {D : Nat → Nat → Nat} {I A : Nat → Nat → Int32} {σ : ZS} {s : Nat} {Q : Int32 → Prop} (hd : BD D) (hr : RB D I A) (hg : RN D σ A) (hs : s < dn D) (hle : σ.1 s ≤ 99) (hq : Q (zi (zwait D σ.1 s))) : W_X8_waitOf_r44 Ln I A (zi s) Q := by
  have hn := hd.1
  have hz := zin_n (L := 6) (s := s) (by omega) (by decide)
  unfold W_X8_waitOf_r44
  rw [zi_nat' (by omega), (hg s hs).1, (hr.2.2.2.2 s hs).2.2.2, ne_eq, show (99 : Int32) = zi (99 : Nat) from rfl, zeq_n (by omega) (by omega), zi_sub, zq60, zi_sub]
  refine ⟨hz, fun c => ⟨hz, hz, ?_⟩, fun c => ⟨hz, ?_⟩⟩
  · unfold zwait at hq; rw [if_neg c] at hq; exact hq
  · unfold zwait at hq; rw [if_pos (Decidable.not_not.mp c)] at hq; exact hq
theorem C_waitOf_28 {Ln : Nat} {D : Nat → Nat → Nat} {I A : Nat → Nat → Int32} {on : Nat → Nat} {s : Nat} {Q : Int32 → Prop} (hd : BD D) (hb : CB D I A) (hg : ∀ t, t < dn D → A 29 t = zi (zen (on t))) (hs : s < dn D) (hle : on s ≤ 99) (hq : Q (zi (zwait D on s))) : W_X6_waitOf_r28 Ln I A (zi s) Q := by
  have hn := hd.1
  have hz := zin_n (L := 6) (s := s) (by omega) (by decide)
  unfold W_X6_waitOf_r28
  rw [zi_nat' (by omega), hg s hs, (hb.2.2.2.2.1 s hs).2.2.2, ne_eq, zqm9, zen_ne hle, zi_sub, zq60, zi_sub]
  refine ⟨hz, fun c => ⟨hz, hz, ?_⟩, fun c => ⟨hz, ?_⟩⟩
  · unfold zwait at hq; unfold zen; rw [if_neg c] at hq; rw [if_neg c]; exact hq
  · unfold zwait at hq; rw [if_pos (Decidable.not_not.mp c)] at hq; exact hq
theorem C_waitOf_35 {Ln : Nat} {D : Nat → Nat → Nat} {I A : Nat → Nat → Int32} {on : Nat → Nat} {s : Nat} {Q : Int32 → Prop} (hd : BD D) (hb : CB D I A) (hg : ∀ t, t < dn D → A 36 t = zi (zen (on t))) (hs : s < dn D) (hle : on s ≤ 99) (hq : Q (zi (zwait D on s))) : W_X6_waitOf_r35 Ln I A (zi s) Q := by
  have hn := hd.1
  have hz := zin_n (L := 6) (s := s) (by omega) (by decide)
  unfold W_X6_waitOf_r35
  rw [zi_nat' (by omega), hg s hs, (hb.2.2.2.2.1 s hs).2.2.2, ne_eq, zqm9, zen_ne hle, zi_sub, zq60, zi_sub]
  refine ⟨hz, fun c => ⟨hz, hz, ?_⟩, fun c => ⟨hz, ?_⟩⟩
  · unfold zwait at hq; unfold zen; rw [if_neg c] at hq; rw [if_neg c]; exact hq
  · unfold zwait at hq; rw [if_pos (Decidable.not_not.mp c)] at hq; exact hq
def zwall (D : Nat → Nat → Nat) (on : Nat → Nat) : Nat → Int
  | 0 => 0
  | s + 1 => zwall D on s + zwait D on s
theorem zwall_le {D : Nat → Nat → Nat} {on : Nat → Nat} (hd : BD D) (h : ∀ s, on s = 99 ∨ on s < 60) : ∀ n : Nat, -100 * (n : Int) ≤ zwall D on n ∧ zwall D on n ≤ 100 * (n : Int)
  | 0 => ⟨Int.le_refl _, Int.le_refl _⟩
  | s + 1 => by
    have h1 := zwall_le hd h s
    have h2 := h s
    have h3 := (hd.2.2.2.2 s).2.2.2
    simp only [zwall, zwait]
    split <;> omega
theorem C_waitOfAll_28 {Ln : Nat} {D : Nat → Nat → Nat} {I A : Nat → Nat → Int32} {on : Nat → Nat} {Q : Int32 → Prop} (hd : BD D) (hb : CB D I A) (hg : ∀ t, t < dn D → A 29 t = zi (zen (on t))) (hle : ∀ s, on s ≤ 99) (hq : Q (zi (zwall D on (dn D)))) : W_X6_waitOfAll_r28 Ln I A Q := by
  have hn := hd.1
  unfold W_X6_waitOfAll_r28
  refine zLoop.count (fun i => (zi (zwall D on i), zi i)) (dn D) rfl ?_ ?_
  · intro i hi K hk
    simp only [L_X6_waitOfAll_r28_4, hb.1]
    refine ⟨fun c => absurd ((zle_n (by omega) (by omega)).mp c) (by omega), fun _ => C_waitOf_28 hd hb hg hi (hle i) ?_⟩
    rw [zi_add, zi_succ]; exact hk
  · intro K
    simp only [L_X6_waitOfAll_r28_4, hb.1]
    exact ⟨fun _ => hq, fun c => absurd ((zle_n (by omega) (by omega)).mpr (Nat.le_refl _)) c⟩
theorem C_waitOfAll_35 {Ln : Nat} {D : Nat → Nat → Nat} {I A : Nat → Nat → Int32} {on : Nat → Nat} {Q : Int32 → Prop} (hd : BD D) (hb : CB D I A) (hg : ∀ t, t < dn D → A 36 t = zi (zen (on t))) (hle : ∀ s, on s ≤ 99) (hq : Q (zi (zwall D on (dn D)))) : W_X6_waitOfAll_r35 Ln I A Q := by
  have hn := hd.1
  unfold W_X6_waitOfAll_r35
  refine zLoop.count (fun i => (zi (zwall D on i), zi i)) (dn D) rfl ?_ ?_
  · intro i hi K hk
    simp only [L_X6_waitOfAll_r35_4, hb.1]
    refine ⟨fun c => absurd ((zle_n (by omega) (by omega)).mp c) (by omega), fun _ => C_waitOf_35 hd hb hg hi (hle i) ?_⟩
    rw [zi_add, zi_succ]; exact hk
  · intro K
    simp only [L_X6_waitOfAll_r35_4, hb.1]
    exact ⟨fun _ => hq, fun c => absurd ((zle_n (by omega) (by omega)).mpr (Nat.le_refl _)) c⟩
theorem K_waitsOfAll {Ln : Nat} {D : Nat → Nat → Nat} {co : Nat → Int} {lw : Nat} {I A : Nat → Nat → Int32} {ro : Nat → Nat} {Q : Int32 → (Nat → Nat → Int32) → (Nat → Nat → Int32) → Prop} (hd : BD D) (hco : CD co) (hb : RB D I A) (hc : RC D co lw I A) (hro : zSo (dn D) (zrk D co lw) ro)
    (hq : ∀ I' A', RF I A I' A' → Q (zi (zwall D (zrun D co ro 60).1 (dn D))) I' A') : W_X8_waitsOfAll_r44 Ln I A Q := by
  have hn := hd.1
  unfold W_X8_waitsOfAll_r44
  refine K_goAll hd hco hb hc hro (fun I2 A2 f g => ?_)
  have hb2 := hb.fr f
  refine zLoop.count (fun i => (zi (zwall D (zrun D co ro 60).1 i), zi i)) (dn D) rfl ?_ ?_
  · intro i hi K hk
    simp only [L_X8_waitsOfAll_r44_8, hb2.1]
    refine ⟨fun c => absurd ((zle_n (by omega) (by omega)).mp c) (by omega), fun _ => K_waitOf hd hb2 g hi (zrun_le D co ro 60 i (by decide)).1 ?_⟩
    rw [zi_add, zi_succ]; exact hk
  · intro K
    simp only [L_X8_waitsOfAll_r44_8, hb2.1]
    exact ⟨fun _ => hq I2 A2 f, fun c => absurd ((zle_n (by omega) (by omega)).mpr (Nat.le_refl _)) c⟩
theorem OP_waits {Ln : Nat} {xs : Nat → Int32} {I A : Nat → Nat → Int32} {v : Int32} {Q : Int32 → Prop} (hv : INV xs I A) (hq : ∀ x, (∀ Q2 : Int32 → (Nat → Nat → Int32) → (Nat → Nat → Int32) → Prop, (∀ I2 A2, INV xs I2 A2 → Q2 x I2 A2) → W_X8_waits_r44 Ln I A v Q2) → Q x) : W_X7_waits_r1 Ln I A v Q := by
  obtain ⟨D, E, hv⟩ := hv
  have hv0 := hv
  obtain ⟨hd, he, hb, hr, hc, ⟨h19, h42⟩, hl, hrd, hvn, ht, _, _⟩ := hv
  have hn := hd.1
  have hco := zco_ok hd he
  unfold W_X7_waits_r1
  by_cases hs0 : 0 ≤ v.toInt ∧ v.toInt < dn D
  · obtain ⟨s, hs, rfl⟩ := zasn hs0
    obtain ⟨ro, hro, hvy⟩ := hvn (by omega)
    have hle := (zrun_le D (zco D E) ro 60 s (by decide)).1
    refine C_isShade_y hb.1 hn hs ⟨fun c => absurd c (by decide), fun _ => C_waitOf_28 hd hb hvy.1 hs hle (hq _ (fun Q2 h2 => ?_))⟩
    unfold W_X8_waits_r44
    exact K_noShade_y hr.1 hn hs ⟨fun _ => K_goAll hd hco hr hc hro (fun I2 A2 f g => K_waitOf hd (hr.fr f) g hs hle (h2 I2 A2 ⟨D, E, hv0.rf f⟩)), fun c => absurd rfl c⟩
  · refine C_isShade_n hb.1 hn hs0 ⟨fun _ => hq _ (fun Q2 h2 => ?_), fun c => absurd rfl c⟩
    unfold W_X8_waits_r44
    exact K_noShade_n hr.1 hn hs0 ⟨fun c => absurd c (by decide), fun _ => h2 I A ⟨D, E, hv0⟩⟩
theorem K_shades {n : Nat} (hn : n ≤ 6) : (zi (n : Int) ≠ 0) ↔ 0 < n := by
  rw [ne_eq, show (0 : Int32) = zi (0 : Nat) from rfl, zeq_n (by omega) (by omega)]; omega
theorem OP_allWait {Ln : Nat} {xs : Nat → Int32} {I A : Nat → Nat → Int32} {Q : Int32 → Prop} (hv : INV xs I A) (hq : ∀ x, (∀ Q2 : Int32 → (Nat → Nat → Int32) → (Nat → Nat → Int32) → Prop, (∀ I2 A2, INV xs I2 A2 → Q2 x I2 A2) → W_X8_allWait_r44 Ln I A Q2) → Q x) : W_X7_allWait_r1 Ln I A Q := by
  obtain ⟨D, E, hv⟩ := hv
  have hv0 := hv
  obtain ⟨hd, he, hb, hr, hc, ⟨h19, h42⟩, hl, hrd, hvn, ht, _, _⟩ := hv
  have hn := hd.1
  have hco := zco_ok hd he
  unfold W_X7_allWait_r1
  by_cases h0 : 0 < dn D
  · obtain ⟨ro, hro, hvy⟩ := hvn h0
    refine C_noBank_y hb.1 hn h0 ⟨fun _ => C_waitOfAll_28 hd hb hvy.1 (fun s => (zrun_le D (zco D E) ro 60 s (by decide)).1) (hq _ (fun Q2 h2 => ?_)), fun c => absurd rfl c⟩
    unfold W_X8_allWait_r44
    rw [hr.1, K_shades hn]
    exact ⟨fun _ => K_waitsOfAll hd hco hr hc hro (fun I2 A2 f => h2 I2 A2 ⟨D, E, hv0.rf f⟩), fun c => absurd h0 c⟩
  · refine C_noBank_n hb.1 (by omega) ⟨fun c => absurd c (by decide), fun _ => hq _ (fun Q2 h2 => ?_)⟩
    unfold W_X8_allWait_r44
    rw [hr.1, K_shades hn]
    exact ⟨fun c => absurd c h0, fun _ => h2 I A ⟨D, E, hv0⟩⟩
