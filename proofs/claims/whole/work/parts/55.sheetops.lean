/-! what sheets are asked -/
theorem Iv.stf {xs : Nat → Int32} {D E : Nat → Nat → Nat} {I A I' A' : Nat → Nat → Int32} (h : Iv xs D E I A) (hI : ∀ o k, zkI o k = true → I' o k = I o k) (hA : ∀ a, zkA a = true → A' a = A a) (ht : I' 1 10 = I 1 10 ∧ I' 44 39 = I 44 39) (hf : I' 1 11 = I' 44 0) (hs : SH I' A') : Iv xs D E I' A' := h.mk' hI hA (by rw [ht.1, ht.2, h.tr.1]) hf hs
theorem zfn_c {b : Bool} {n0 : Nat} {i : Int32} : zfn b n0 i = 0 ∨ zfn b n0 i = 1 ∨ zfn b n0 i = 3 := by
  unfold zfn; split
  · exact Or.inr (Or.inl rfl)
  · split
    · exact Or.inl rfl
    · exact Or.inr (Or.inr rfl)
theorem zfn_0 {b : Bool} {n0 : Nat} {i : Int32} (h : zfn b n0 i = 0) : b = true ∧ 0 ≤ i.toInt ∧ i.toInt < n0 := by
  unfold zfn at h
  split at h
  · omega
  · next hb =>
    split at h
    · next hc => exact ⟨by simpa using hb, hc⟩
    · omega
def zcut (l : Nat) (v : Int32) : Int32 := if l = 0 then v.toInt8.toInt32 else if l = 1 then v.toInt16.toInt32 else v
theorem K_fill {Ln : Nat} {k n : Nat} {v2 : Int32} {I A : Nat → Nat → Int32} {Q : Int32 → (Nat → Nat → Int32) → (Nat → Nat → Int32) → Prop} (hk : k < 4) (hn : n ≤ 60) (hq : ∀ A', (∀ a, a ≠ 67 → A' a = A a) → (∀ j, j < 60 * k ∨ 60 * k + 60 ≤ j → A' 67 j = A 67 j) → (∀ i, i < n → A' 67 (60 * k + i) = 0) → Q 1 (zp I 44 0 0) A') : zLoop (L_X8_sheet_r44_65 Ln I (zi k) v2 (zi n) Q) (0, A) := by
  refine zLoop.inv (fun i σ => σ.1 = zi i ∧ (∀ a, a ≠ 67 → σ.2 a = A a) ∧ (∀ j, j < 60 * k ∨ 60 * k + 60 ≤ j → σ.2 67 j = A 67 j) ∧ ∀ j, j < i → σ.2 67 (60 * k + j) = 0) n ⟨rfl, fun _ _ => rfl, fun _ _ => rfl, fun s h => by omega⟩ ?_ ?_
  · rintro i ⟨v3, A2⟩ hi ⟨h3, hf, h4, h2⟩ K hk2
    simp only at h3 hf h2 h4
    subst h3
    simp only [L_X8_sheet_r44_65]
    rw [zle_n (by omega) (by omega), show (60 : Int32) * zi k + zi i = zi ((60 * k + i : Nat) : Int) from by rw [zq60, zi_mul, zi_add]; rfl, zi_nat' (by omega)]
    refine ⟨fun c => by omega, fun _ => ⟨zin_n (by omega) (by decide), ?_⟩⟩
    rw [zi_succ]
    refine hk2 _ ⟨rfl, fun a ha => (zw_ne ha).trans (hf a ha), fun j hj => ?_, fun j hj => ?_⟩
    · dsimp only
      rw [zw_at, if_neg (by omega)]; exact h4 j hj
    · dsimp only
      rw [zw_at]
      by_cases e : j = i
      · rw [if_pos (by omega)]
      · rw [if_neg (by omega)]; exact h2 j (by omega)
  · rintro ⟨v3, A2⟩ ⟨h3, hf, h4, h2⟩ K
    simp only at h3 hf h2 h4
    subst h3
    simp only [L_X8_sheet_r44_65]
    rw [zle_n (by omega) (by omega)]
    refine ⟨fun _ => ?_, fun c => absurd (Nat.le_refl _) c⟩
    unfold W_X8_refused_r44
    exact hq A2 hf h4 h2
theorem C_fill_4 {Ln : Nat} {I A : Nat → Nat → Int32} {x : Int32} {Q : (Nat → Nat → Int32) → Prop} (hq : ∀ A', (∀ a, a ≠ 4 → A' a = A a) → (∀ s, s < 60 → A' 4 s = x) → Q A') : W_J7_fill_53178_r4 Ln I A x Q := by
  unfold W_J7_fill_53178_r4
  refine zLoop.inv (fun i σ => σ.1 = zi i ∧ (∀ a, a ≠ 4 → σ.2 a = A a) ∧ ∀ s, s < i → σ.2 4 s = x) 60 ⟨rfl, fun _ _ => rfl, fun s h => by omega⟩ ?_ ?_
  · rintro i ⟨v3, A2⟩ hi ⟨h3, hf, h2⟩ K hk
    simp only at h3 hf h2
    subst h3
    simp only [L_J7_fill_53178_r4_5]
    rw [zi_nat' (by omega)]
    refine ⟨fun c => absurd c (by rw [zq60, zi_le (by omega) (by omega) (by omega) (by omega)]; omega), fun _ => ⟨zin_n (by omega) (by decide), ?_⟩⟩
    rw [zi_succ]
    refine hk _ ⟨rfl, fun a ha => (zw_ne ha).trans (hf a ha), fun s hs => ?_⟩
    dsimp only
    rw [zw_at]
    by_cases e : s = i
    · rw [if_pos e]
    · rw [if_neg e]; exact h2 s (by omega)
  · rintro ⟨v3, A2⟩ ⟨h3, hf, h2⟩ K
    simp only at h3 hf h2
    subst h3
    simp only [L_J7_fill_53178_r4_5]
    exact ⟨fun _ => hq A2 hf h2, fun c => absurd (by decide) c⟩
theorem OP_sheet_c0 {Ln : Nat} {xs : Nat → Int32} {I A : Nat → Nat → Int32} {v w : Int32} {Q : Int32 → (Nat → Nat → Int32) → (Nat → Nat → Int32) → Prop} (hv : INV xs I A) (hq : ∀ x I' A', A' 0 = A 0 → (∀ Q2 : Int32 → (Nat → Nat → Int32) → (Nat → Nat → Int32) → Prop, (∀ I2 A2, INV xs I2 A2 → Q2 x I2 A2) → W_X8_sheet_r44 Ln I' A' (zi (0 : Nat)) v w Q2) → Q x I' A') : W_X7_sheet_r1_c0 Ln I A v w Q := by
  obtain ⟨D, E, hv⟩ := hv
  unfold W_X7_sheet_r1_c0
  refine C_isSheet_0 ⟨fun _ => ?_, fun c => absurd (show (1 : Int32) ≠ 0 by decide) c⟩
  have h26 : ¬ (0 ≤ v.toInt ∧ v.toInt < (3 : Nat)) ∨ ¬ w ≤ 60 → J_X7_sheet_r1_c0_26 Ln I A v w Q := by
    intro hb
    unfold J_X7_sheet_r1_c0_26 W_X7_faultless_r1
    refine hq _ _ _ rfl (fun Q2 h2 => ?_)
    unfold W_X8_sheet_r44 J_X8_sheet_r44_31 W_X8_refused_r44
    refine K_noSheet_y (by decide) ⟨fun _ => ?_, fun c => absurd rfl c⟩
    by_cases hl : 0 ≤ v.toInt ∧ v.toInt < (3 : Nat)
    · obtain ⟨l, hl3, rfl⟩ := zasn hl
      refine K_lane_y hl3 ⟨fun c => absurd c (by decide), fun _ => ⟨fun c => ?_, fun _ => h2 _ _ ⟨D, E, hv.ft 0⟩⟩⟩
      rcases hb with hb | hb
      · exact absurd hl hb
      · exact absurd c hb
    · exact K_lane_n hl ⟨fun _ => h2 _ _ ⟨D, E, hv.ft 0⟩, fun c => absurd rfl c⟩
  by_cases hl : 0 ≤ v.toInt ∧ v.toInt < (3 : Nat)
  · obtain ⟨l, hl3, rfl⟩ := zasn hl
    refine C_isLane_y hl3 ⟨fun c => absurd c (by decide), fun _ => ⟨fun c => ⟨fun c2 => ?_, fun c2 => ?_⟩, fun c => h26 (Or.inr c)⟩⟩
    · rw [zq60, Int32.le_iff_toInt_le, zi_toInt (by omega) (by omega)] at c
      rw [Int32.le_iff_toInt_le, show (0 : Int32).toInt = 0 from rfl] at c2
      obtain ⟨n, hn, rfl⟩ := zasn (v := w) (n := 61) ⟨c2, by omega⟩
      unfold W_X4_renew_r3
      rintro I1 hI1
      refine C_fill_4 (fun A1 f1 g1 => ?_)
      unfold W_X7_faultless_r1
      refine hq _ _ _ (f1 0 (by decide)) (fun Q2 h2 => ?_)
      unfold W_X8_sheet_r44
      refine K_noSheet_y (by decide) ⟨fun _ => K_lane_y hl3 ⟨fun c => absurd c (by decide), fun _ => ⟨fun _ => ⟨fun _ => ⟨by decide, by decide, ?_⟩, fun c => absurd (by rw [zq0, zi_le (by omega) (by omega) (by omega) (by omega)]; omega) c⟩, fun c => absurd (by rw [zq60, zi_le (by omega) (by omega) (by omega) (by omega)]; omega) c⟩⟩, fun c => absurd rfl c⟩
      rw [zi_nat' (show 0 < 2147483648 by decide)]
      refine K_fill (by decide) (by omega) (fun A2 f2 g2 e2 => h2 _ _ ⟨D, E, ?_⟩)
      have hA : ∀ a, a ≠ 4 → a ≠ 65 → a ≠ 66 → a ≠ 67 → A2 a = A a := fun a q1 q2 q3 q4 => by rw [f2 a q4, zw_ne q3, zw_ne q2, f1 a q1]
      have e65 : ∀ q, A2 65 q = if q = 0 then zi n else A 65 q := fun q => by rw [f2 65 (by decide), zw_ne (by decide), zw_at, f1 65 (by decide)]
      have e66 : ∀ q, A2 66 q = if q = 0 then zi l else A 66 q := fun q => by rw [f2 66 (by decide), zw_at, zw_ne (by decide), f1 66 (by decide)]
      have e67 : ∀ q, q < 60 * 0 ∨ 60 * 0 + 60 ≤ q → A2 67 q = A 67 q := fun q hq2 => by rw [g2 q hq2, zw_ne (by decide), zw_ne (by decide), f1 67 (by decide)]
      refine hv.stf (fun o k hk => ?_) (fun a ha => hA a (by rintro rfl; cases ha) (by rintro rfl; cases ha) (by rintro rfl; cases ha) (by rintro rfl; cases ha)) ?_ ?_ (hv.sh.set_0 (fun o j ho ho2 => ?_) (fun q hq2 => by rw [e65, if_neg hq2]) (fun q hq2 => by rw [e66, if_neg hq2]) (fun a ha ha2 => hA a ha2 (by omega) (by omega) (by omega)) e67 ?_)
      · rw [zpJ (f := zkI) rfl hk, zpJ (f := zkI) rfl hk, hI1, zpJ (f := zkI) rfl hk, zpJ (f := zkI) rfl hk, zpJ (f := zkI) rfl hk]
      · rw [hI1]; exact ⟨rfl, rfl⟩
      · rw [zp_eq, zp_ne (by decide), zp_eq]
      · rw [zp_ne (by omega), zp_ne (by omega), hI1, zp_ne ho2, zp_ne ho2, zp_ne ho2]
      · refine Or.inr ⟨n, l, by omega, hl3, ?_, ?_, ?_, by rw [e65, if_pos rfl], by rw [e66, if_pos rfl], fun i hi => ?_⟩
        · rw [hI1]; rfl
        · rw [hI1]; rfl
        · rw [hI1]; rfl
        · rw [e2 i hi, f2 4 (by decide), zw_ne (by decide), zw_ne (by decide), g1 i (by omega)]
    · unfold W_X7_faulted_r1
      refine hq _ _ _ rfl (fun Q2 h2 => ?_)
      unfold W_X8_sheet_r44 W_X8_failed_r44
      exact K_noSheet_y (by decide) ⟨fun _ => K_lane_y hl3 ⟨fun c => absurd c (by decide), fun _ => ⟨fun _ => ⟨fun c3 => absurd c3 c2, fun _ => h2 _ _ ⟨D, E, hv.ft 4⟩⟩, fun c3 => absurd c c3⟩⟩, fun c => absurd rfl c⟩
  · exact C_isLane_n hl ⟨fun _ => h26 (Or.inl hl), fun c => absurd rfl c⟩
theorem OP_lose_c0 {Ln : Nat} {xs : Nat → Int32} {I A : Nat → Nat → Int32} {Q : Int32 → (Nat → Nat → Int32) → Prop} (hv : INV xs I A) (hq : ∀ x I', (∀ Q2 : Int32 → (Nat → Nat → Int32) → Prop, (∀ A2, INV xs I' A2 → Q2 x A2) → W_X8_lose_r44 Ln I' A (zi (0 : Nat)) Q2) → Q x I') : W_X7_lose_r1_c0 Ln I A Q := by
  obtain ⟨D, E, hv⟩ := hv
  obtain ⟨b, l, n, hs⟩ := hv.sh.at_0.d
  unfold W_X7_lose_r1_c0
  refine C_isSheet_0 ⟨fun _ => ?_, fun c => absurd (show (1 : Int32) ≠ 0 by decide) c⟩
  have hend : Iv xs D E (zp I 3 1 0) (zw A 65 0 (-1)) := by
    refine hv.stf (fun o k hk => zpJ (f := zkI) rfl hk) (fun a ha => zwJ (f := zkA) rfl ha) ⟨rfl, rfl⟩ hv.tr.2 (hv.sh.set_0 (fun o j ho ho2 => congrFun (zp_ne ho2) j) (fun q hq2 => by rw [zw_at, if_neg hq2]) (fun q hq2 => by rw [zw_ne (by decide)]) (fun a ha ha2 => zw_ne (by omega)) (fun j hj => by rw [zw_ne (by decide)]) ?_)
    exact Or.inl ⟨by rw [zp_eq], by rw [zw_at, if_pos rfl]; decide⟩
  obtain ⟨h1, h2, h3, h4, h5⟩ := hs
  rw [h3]
  cases b with
  | false =>
    refine ⟨fun _ => hq _ _ (fun Q2 hq2 => ?_), fun c => absurd rfl c⟩
    unfold W_X8_lose_r44
    rw [zi_nat' (show 0 < 2147483648 by decide), h4]
    exact K_noSheet_y (by decide) ⟨fun _ => ⟨by decide, fun c => absurd c (show ¬ (0 : Int32) ≤ zi (-1) by decide), fun _ => ⟨by decide, hq2 _ ⟨D, E, hend⟩⟩⟩, fun c => absurd rfl c⟩
  | true =>
    refine ⟨fun c => absurd c (show ¬ (1 : Int32) = 0 by decide), fun _ => hq _ _ (fun Q2 hq2 => ?_)⟩
    unfold W_X8_lose_r44
    rw [zi_nat' (show 0 < 2147483648 by decide), h4]
    exact K_noSheet_y (by decide) ⟨fun _ => ⟨by decide, fun _ => ⟨by decide, hq2 _ ⟨D, E, hend⟩⟩, fun c => absurd (by rw [if_pos rfl, zq0, zi_le (by omega) (by omega) (by omega) (by omega)]; omega) c⟩, fun c => absurd rfl c⟩
theorem C_write_3 {Ln : Nat} {I A : Nat → Nat → Int32} {l i : Nat} {v : Int32} {Q : (Nat → Nat → Int32) → Prop} (h2 : I 3 2 = zi l) (hl : l < 3) (hi : i < 60) (hq : Q (zw A 4 i (zcut l v))) : W_X4_write_r3 Ln I A (zi i) v Q := by
  have hz := zin_n (L := 60) (s := i) hi (by decide)
  unfold W_X4_write_r3
  rw [h2, zi_nat' (by omega), zi_toInt (by omega) (by omega)]
  unfold zcut at hq
  refine ⟨fun c => ⟨hz, ?_⟩, fun c => ⟨hz, ?_⟩, fun c1 c2 => ⟨hz, ?_⟩⟩
  · rw [if_pos (by omega)] at hq; exact hq
  · rw [if_neg (by omega), if_pos (by omega)] at hq; exact hq
  · rw [if_neg (by omega), if_neg (by omega)] at hq; exact hq
theorem OP_put_c0 {Ln : Nat} {xs : Nat → Int32} {I A : Nat → Nat → Int32} {v w : Int32} {Q : Int32 → (Nat → Nat → Int32) → (Nat → Nat → Int32) → Prop} (hv : INV xs I A) (hq : ∀ x I' A', A' 0 = A 0 → (∀ Q2 : Int32 → (Nat → Nat → Int32) → (Nat → Nat → Int32) → Prop, (∀ I2 A2, INV xs I2 A2 → Q2 x I2 A2) → W_X8_put_r44 Ln I' A' (zi (0 : Nat)) v w Q2) → Q x I' A') : W_X7_put_r1_c0 Ln I A v w Q := by
  obtain ⟨D, E, hv⟩ := hv
  obtain ⟨b, l, n, hs⟩ := hv.sh.at_0.d
  have hs0 := hs
  obtain ⟨h1, hl3, h3, h4, h5⟩ := hs
  unfold W_X7_put_r1_c0
  refine C_isSheet_0 ⟨fun _ => C_foc_3 hs0 ?_, fun c => absurd (show (1 : Int32) ≠ 0 by decide) c⟩
  rw [zff_1 (fun hb => (h5 hb).1)]
  by_cases hz : zfn b n v = 0
  · obtain ⟨hb, hi⟩ := zfn_0 hz
    obtain ⟨i, hi2, rfl⟩ := zasn hi
    subst hb
    obtain ⟨e2, e3, e66, ec⟩ := h5 rfl
    rw [hz]
    refine ⟨fun _ => C_write_3 e2 hl3 (by omega) ?_, fun c => absurd (by decide) c⟩
    unfold W_X7_faultless_r1
    refine hq _ _ _ (zw_ne (by decide)) (fun Q2 h2 => ?_)
    unfold W_X8_put_r44
    refine K_noSheet_y (by decide) ⟨fun _ => K_noCell (by decide) h1 (by rw [zw_ne (by decide)]; exact h4) ?_, fun c => absurd rfl c⟩
    rw [hz]
    refine ⟨fun _ => ?_, fun c => absurd (by decide) c⟩
    have h73 : ∀ v2 : Int32, v2 = zcut l w → J_X8_put_r44_73_s3 Ln (zp I 1 11 0) (zw A 4 i (zcut l w)) (zi (0 : Nat)) (zi i) w ((60 : Int32) * zi (0 : Nat) + zi i) v2 Q2 := by
      rintro v2 rfl
      unfold J_X8_put_r44_73_s3 W_X8_refused_r44
      rw [show (60 : Int32) * zi (0 : Nat) + zi i = zi ((60 * 0 + i : Nat) : Int) from by rw [zq60, zi_mul, zi_add]; rfl, zi_nat' (by omega)]
      refine ⟨zin_n (by omega) (by decide), fun A4 hA4 => h2 _ _ ⟨D, E, ?_⟩⟩
      subst hA4
      refine hv.stf (fun o k hk => (zpJ (f := zkI) rfl hk).trans (zpJ (f := zkI) rfl hk)) (fun a ha => (zwJ (f := zkA) rfl ha).trans (zwJ (f := zkA) rfl ha)) ⟨rfl, rfl⟩ (by rw [zp_eq, zp_ne (by decide), zp_eq]) (hv.sh.set_0 (fun o j ho ho2 => by rw [zp_ne (by omega), zp_ne (by omega)]) (fun q hq2 => by rw [zw_ne (by decide), zw_ne (by decide)]) (fun q hq2 => by rw [zw_ne (by decide), zw_ne (by decide)]) (fun a ha ha2 => by rw [zw_ne (by omega), zw_ne ha2]) (fun j hj => by rw [zw_at, if_neg (by omega), zw_ne (by decide)]) ?_)
      refine Or.inr ⟨n, l, h1, hl3, h3, e2, e3, ?_, ?_, fun j hj => ?_⟩
      · rw [zw_ne (by decide), zw_ne (by decide)]; exact h4
      · rw [zw_ne (by decide), zw_ne (by decide)]; exact e66
      · rw [zw_at, zw_ne (show 4 ≠ 67 by decide), zw_at, zw_ne (show (67 : Nat) ≠ 4 by decide)]
        by_cases e : j = i
        · rw [if_pos e, if_pos (by omega)]
        · rw [if_neg e, if_neg (by omega)]; exact ec j hj
    rw [zi_nat' (show 0 < 2147483648 by decide), zw_ne (show (66 : Nat) ≠ 4 by decide), e66, (show (zi l : Int32) ≠ 0 ↔ ¬ l = 0 from by rw [ne_eq, show (0 : Int32) = zi (0 : Nat) from rfl, zeq_n (by omega) (by omega)]), (show (zi l : Int32) ≠ 1 ↔ ¬ l = 1 from by rw [ne_eq, show (1 : Int32) = zi (1 : Nat) from rfl, zeq_n (by omega) (by omega)])]
    refine ⟨by decide, fun c x3 e3 => ⟨by decide, fun c2 => ?_, fun c2 => ?_⟩, fun c x7 e7 => ?_⟩
    · subst e3; exact h73 _ (by unfold zcut; rw [if_neg c, if_neg c2])
    · subst e3; exact h73 _ (by unfold zcut; rw [if_neg c, if_pos (by omega)])
    · subst e7; exact h73 _ (by unfold zcut; rw [if_pos (by omega)])
  · have hf := zfn_c (b := b) (n0 := n) (i := v)
    refine ⟨fun c => ?_, fun _ => ?_⟩
    · rw [show (0 : Int32) = zi 0 from rfl, zi_inj (by omega) (by omega) (by omega) (by omega)] at c; exact absurd c hz
    · unfold W_X7_faulted_r1
      refine hq _ _ _ rfl (fun Q2 h2 => ?_)
      unfold W_X8_put_r44
      refine K_noSheet_y (by decide) ⟨fun _ => K_noCell (by decide) h1 h4 ⟨fun c => ?_, fun _ => K_noCell (by decide) h1 h4 ?_⟩, fun c => absurd rfl c⟩
      · rw [show (0 : Int32) = zi 0 from rfl, zi_le (by omega) (by omega) (by omega) (by omega)] at c; omega
      · unfold W_X8_failed_r44
        exact h2 _ _ ⟨D, E, hv.ft _⟩
theorem OP_cell_c0 {Ln : Nat} {xs : Nat → Int32} {I A : Nat → Nat → Int32} {v w : Int32} {Q : Int64 → (Nat → Nat → Int32) → Prop} (hv : INV xs I A) (hq : ∀ x I', (∀ Q2 : Int64 → (Nat → Nat → Int32) → Prop, (∀ I2, INV xs I2 A → Q2 x I2) → W_X8_cell_r44 Ln I' A (zi (0 : Nat)) v w Q2) → Q x I') : W_X7_cell_r1_c0 Ln I A v w Q := by
  obtain ⟨D, E, hv⟩ := hv
  obtain ⟨b, l, n, hs⟩ := hv.sh.at_0.d
  have hs0 := hs
  obtain ⟨h1, hl3, h3, h4, h5⟩ := hs
  unfold W_X7_cell_r1_c0
  rintro I1 hI1
  refine C_isSheet_0 ⟨fun c => absurd c (by decide), fun _ => ?_⟩
  by_cases hl : 0 ≤ w.toInt ∧ w.toInt < (3 : Nat)
  · obtain ⟨l2, hl2, rfl⟩ := zasn hl
    refine C_isLane_y hl2 ⟨fun _ => C_foc_3 (b := b) (l := l) (n0 := n) ⟨h1, hl3, by rw [hI1]; exact h3, h4, by rw [hI1]; exact h5⟩ ?_, fun c => absurd (show (1 : Int32) ≠ 0 by decide) c⟩
    -- the reference, from its own fault on
    have hK : ∀ (J : Nat → Nat → Int32) (Q2 : Int64 → (Nat → Nat → Int32) → Prop), (zff b l n (zi l2) v 1 = 0 → Q2 (Int32.toInt64 (A 67 (60 * 0 + v.toInt.toNat))) (zp J 44 0 0)) → (zff b l n (zi l2) v 1 ≠ 0 → Q2 (-9223372036854775808) (zp (zp J 44 0 0) 44 0 (zi (zff b l n (zi l2) v 1)))) → W_X8_cell_r44 Ln J A (zi (0 : Nat)) v (zi l2) Q2 := by
      intro J Q2 k0 k1
      unfold W_X8_cell_r44
      rintro J1 rfl
      have h53 : (b = true → zi l2 = zi l) → J_X8_cell_r44_53 Ln (zp J 44 0 0) A (zi (0 : Nat)) v (zi l2) Q2 := by
        intro hb
        have e1 := zff_1 (n0 := n) (i := v) hb
        rw [e1] at k0 k1
        have hf := zfn_c (b := b) (n0 := n) (i := v)
        unfold J_X8_cell_r44_53
        refine K_noCell (by decide) h1 h4 ⟨fun c => ?_, fun c => K_noCell (by decide) h1 h4 ?_⟩
        · rw [show (0 : Int32) = zi 0 from rfl, zi_le (by omega) (by omega) (by omega) (by omega)] at c
          have hz : zfn b n v = 0 := by omega
          obtain ⟨hb2, hi⟩ := zfn_0 hz
          obtain ⟨i, hi2, rfl⟩ := zasn hi
          have h6 := k0 hz
          rw [zi_toInt (by omega) (by omega), Int.toNat_natCast] at h6
          rw [show (60 : Int32) * zi (0 : Nat) + zi i = zi ((60 * 0 + i : Nat) : Int) from by rw [zq60, zi_mul, zi_add]; rfl, zi_nat' (by omega)]
          exact ⟨zin_n (by omega) (by decide), h6⟩
        · rw [show (0 : Int32) = zi 0 from rfl, zi_le (by omega) (by omega) (by omega) (by omega)] at c
          unfold W_X8_failedLong_r44 W_X8_lost
          rintro J2 rfl
          exact k1 (by omega)
      refine K_noSheet_y (by decide) ⟨fun c => absurd rfl c, fun _ => K_lane_y hl2 ⟨fun _ => ⟨by decide, fun c => h53 (fun hb => ?_), fun c => ⟨by decide, fun c2 => h53 (fun hb => ?_), fun c2 => ?_⟩⟩, fun c => absurd (show (1 : Int32) ≠ 0 by decide) c⟩⟩
      · rw [zi_nat' (show 0 < 2147483648 by decide), h4, if_pos hb] at c; exact absurd c (by rw [zq0, zi_lt (by omega) (by omega) (by omega) (by omega)]; omega)
      · rw [zi_nat' (show 0 < 2147483648 by decide), (h5 hb).2.2.1] at c2; exact c2.symm
      · rw [zi_nat' (show 0 < 2147483648 by decide)] at c c2
        cases b with
        | false => rw [h4] at c; exact absurd (show zi (-1) < 0 by decide) c
        | true =>
          rw [(h5 rfl).2.2.1] at c2
          unfold W_X8_failedLong_r44 W_X8_lost
          rintro J2 rfl
          have hz : zff true l n (zi l2) v 1 = 2 := by unfold zff; rw [if_neg (by decide), if_neg (fun q => c2 q.symm)]
          rw [hz] at k1
          exact k1 (by decide)
    have hfl := zff_le b l n (zi l2) v 1
    refine ⟨fun c I5 hI5 => hq _ _ (fun Q2 h2 => hK _ _ (fun hz => ?_) (fun hz => ?_)), fun c I6 hI6 => ?_⟩
    · rw [hz] at c; exact absurd (by decide) c
    · refine h2 _ ⟨D, E, hv.tf (fun o k hk => ?_) ?_ ?_⟩
      · rw [zpT rfl hk, zpT rfl hk, hI5, zpT rfl hk, hI1, zpT rfl hk]
      · rw [hI5, hI1]; exact hv.tr.1
      · rw [zp_eq, zp_ne (by decide), zp_ne (by decide), hI5, zp_eq]
    · have hz : zff b l n (zi l2) v 1 = 0 := by
        rw [ne_eq, Decidable.not_not, show (0 : Int32) = zi 0 from rfl, zi_inj (by omega) (by omega) (by omega) (by omega)] at c; exact c
      obtain ⟨hb, _, _, hi, hi2⟩ := zff_0 hz
      rw [show (1 : Int32).toInt = 1 from rfl] at hi2
      obtain ⟨i, hi3, rfl⟩ := zasn (v := v) (n := n) ⟨hi, by omega⟩
      refine ⟨zin_n (by omega) (by decide), hq _ _ (fun Q2 h2 => hK _ _ (fun _ => ?_) (fun hz2 => absurd hz hz2))⟩
      rw [zi_toInt (by omega) (by omega), Int.toNat_natCast]
      rw [zi_nat' (by omega), (h5 hb).2.2.2 i hi3] at h2
      refine h2 _ ⟨D, E, hv.tf (fun o k hk => ?_) ?_ ?_⟩
      · rw [zpT rfl hk, hI6, zpT rfl hk, hI1, zpT rfl hk]
      · rw [hI6, hI1]; exact hv.tr.1
      · rw [zp_eq, zp_ne (by decide), hI6, zp_eq, hz]; rfl
  · refine C_isLane_n hl ⟨fun c => absurd rfl c, fun _ => hq _ _ (fun Q2 h2 => ?_)⟩
    unfold W_X8_cell_r44 J_X8_cell_r44_24 W_X8_lost
    rintro J1 rfl
    subst hI1
    exact K_noSheet_y (by decide) ⟨fun c => absurd rfl c, fun _ => K_lane_n hl ⟨fun c => absurd rfl c, fun _ => h2 _ ⟨D, E, hv.ft 0⟩⟩⟩
theorem C_fill_6 {Ln : Nat} {I A : Nat → Nat → Int32} {x : Int32} {Q : (Nat → Nat → Int32) → Prop} (hq : ∀ A', (∀ a, a ≠ 6 → A' a = A a) → (∀ s, s < 60 → A' 6 s = x) → Q A') : W_J7_fill_53178_r6 Ln I A x Q := by
  unfold W_J7_fill_53178_r6
  refine zLoop.inv (fun i σ => σ.1 = zi i ∧ (∀ a, a ≠ 6 → σ.2 a = A a) ∧ ∀ s, s < i → σ.2 6 s = x) 60 ⟨rfl, fun _ _ => rfl, fun s h => by omega⟩ ?_ ?_
  · rintro i ⟨v3, A2⟩ hi ⟨h3, hf, h2⟩ K hk
    simp only at h3 hf h2
    subst h3
    simp only [L_J7_fill_53178_r6_5]
    rw [zi_nat' (by omega)]
    refine ⟨fun c => absurd c (by rw [zq60, zi_le (by omega) (by omega) (by omega) (by omega)]; omega), fun _ => ⟨zin_n (by omega) (by decide), ?_⟩⟩
    rw [zi_succ]
    refine hk _ ⟨rfl, fun a ha => (zw_ne ha).trans (hf a ha), fun s hs => ?_⟩
    dsimp only
    rw [zw_at]
    by_cases e : s = i
    · rw [if_pos e]
    · rw [if_neg e]; exact h2 s (by omega)
  · rintro ⟨v3, A2⟩ ⟨h3, hf, h2⟩ K
    simp only at h3 hf h2
    subst h3
    simp only [L_J7_fill_53178_r6_5]
    exact ⟨fun _ => hq A2 hf h2, fun c => absurd (by decide) c⟩
theorem OP_sheet_c1 {Ln : Nat} {xs : Nat → Int32} {I A : Nat → Nat → Int32} {v w : Int32} {Q : Int32 → (Nat → Nat → Int32) → (Nat → Nat → Int32) → Prop} (hv : INV xs I A) (hq : ∀ x I' A', A' 0 = A 0 → (∀ Q2 : Int32 → (Nat → Nat → Int32) → (Nat → Nat → Int32) → Prop, (∀ I2 A2, INV xs I2 A2 → Q2 x I2 A2) → W_X8_sheet_r44 Ln I' A' (zi (1 : Nat)) v w Q2) → Q x I' A') : W_X7_sheet_r1_c1 Ln I A v w Q := by
  obtain ⟨D, E, hv⟩ := hv
  unfold W_X7_sheet_r1_c1
  refine C_isSheet_1 ⟨fun _ => ?_, fun c => absurd (show (1 : Int32) ≠ 0 by decide) c⟩
  have h26 : ¬ (0 ≤ v.toInt ∧ v.toInt < (3 : Nat)) ∨ ¬ w ≤ 60 → J_X7_sheet_r1_c1_26 Ln I A v w Q := by
    intro hb
    unfold J_X7_sheet_r1_c1_26 W_X7_faultless_r1
    refine hq _ _ _ rfl (fun Q2 h2 => ?_)
    unfold W_X8_sheet_r44 J_X8_sheet_r44_31 W_X8_refused_r44
    refine K_noSheet_y (by decide) ⟨fun _ => ?_, fun c => absurd rfl c⟩
    by_cases hl : 0 ≤ v.toInt ∧ v.toInt < (3 : Nat)
    · obtain ⟨l, hl3, rfl⟩ := zasn hl
      refine K_lane_y hl3 ⟨fun c => absurd c (by decide), fun _ => ⟨fun c => ?_, fun _ => h2 _ _ ⟨D, E, hv.ft 0⟩⟩⟩
      rcases hb with hb | hb
      · exact absurd hl hb
      · exact absurd c hb
    · exact K_lane_n hl ⟨fun _ => h2 _ _ ⟨D, E, hv.ft 0⟩, fun c => absurd rfl c⟩
  by_cases hl : 0 ≤ v.toInt ∧ v.toInt < (3 : Nat)
  · obtain ⟨l, hl3, rfl⟩ := zasn hl
    refine C_isLane_y hl3 ⟨fun c => absurd c (by decide), fun _ => ⟨fun c => ⟨fun c2 => ?_, fun c2 => ?_⟩, fun c => h26 (Or.inr c)⟩⟩
    · rw [zq60, Int32.le_iff_toInt_le, zi_toInt (by omega) (by omega)] at c
      rw [Int32.le_iff_toInt_le, show (0 : Int32).toInt = 0 from rfl] at c2
      obtain ⟨n, hn, rfl⟩ := zasn (v := w) (n := 61) ⟨c2, by omega⟩
      unfold W_X4_renew_r5
      rintro I1 hI1
      refine C_fill_6 (fun A1 f1 g1 => ?_)
      unfold W_X7_faultless_r1
      refine hq _ _ _ (f1 0 (by decide)) (fun Q2 h2 => ?_)
      unfold W_X8_sheet_r44
      refine K_noSheet_y (by decide) ⟨fun _ => K_lane_y hl3 ⟨fun c => absurd c (by decide), fun _ => ⟨fun _ => ⟨fun _ => ⟨by decide, by decide, ?_⟩, fun c => absurd (by rw [zq0, zi_le (by omega) (by omega) (by omega) (by omega)]; omega) c⟩, fun c => absurd (by rw [zq60, zi_le (by omega) (by omega) (by omega) (by omega)]; omega) c⟩⟩, fun c => absurd rfl c⟩
      rw [zi_nat' (show 1 < 2147483648 by decide)]
      refine K_fill (by decide) (by omega) (fun A2 f2 g2 e2 => h2 _ _ ⟨D, E, ?_⟩)
      have hA : ∀ a, a ≠ 6 → a ≠ 65 → a ≠ 66 → a ≠ 67 → A2 a = A a := fun a q1 q2 q3 q4 => by rw [f2 a q4, zw_ne q3, zw_ne q2, f1 a q1]
      have e65 : ∀ q, A2 65 q = if q = 1 then zi n else A 65 q := fun q => by rw [f2 65 (by decide), zw_ne (by decide), zw_at, f1 65 (by decide)]
      have e66 : ∀ q, A2 66 q = if q = 1 then zi l else A 66 q := fun q => by rw [f2 66 (by decide), zw_at, zw_ne (by decide), f1 66 (by decide)]
      have e67 : ∀ q, q < 60 * 1 ∨ 60 * 1 + 60 ≤ q → A2 67 q = A 67 q := fun q hq2 => by rw [g2 q hq2, zw_ne (by decide), zw_ne (by decide), f1 67 (by decide)]
      refine hv.stf (fun o k hk => ?_) (fun a ha => hA a (by rintro rfl; cases ha) (by rintro rfl; cases ha) (by rintro rfl; cases ha) (by rintro rfl; cases ha)) ?_ ?_ (hv.sh.set_1 (fun o j ho ho2 => ?_) (fun q hq2 => by rw [e65, if_neg hq2]) (fun q hq2 => by rw [e66, if_neg hq2]) (fun a ha ha2 => hA a ha2 (by omega) (by omega) (by omega)) e67 ?_)
      · rw [zpJ (f := zkI) rfl hk, zpJ (f := zkI) rfl hk, hI1, zpJ (f := zkI) rfl hk, zpJ (f := zkI) rfl hk, zpJ (f := zkI) rfl hk]
      · rw [hI1]; exact ⟨rfl, rfl⟩
      · rw [zp_eq, zp_ne (by decide), zp_eq]
      · rw [zp_ne (by omega), zp_ne (by omega), hI1, zp_ne ho2, zp_ne ho2, zp_ne ho2]
      · refine Or.inr ⟨n, l, by omega, hl3, ?_, ?_, ?_, by rw [e65, if_pos rfl], by rw [e66, if_pos rfl], fun i hi => ?_⟩
        · rw [hI1]; rfl
        · rw [hI1]; rfl
        · rw [hI1]; rfl
        · rw [e2 i hi, f2 6 (by decide), zw_ne (by decide), zw_ne (by decide), g1 i (by omega)]
    · unfold W_X7_faulted_r1
      refine hq _ _ _ rfl (fun Q2 h2 => ?_)
      unfold W_X8_sheet_r44 W_X8_failed_r44
      exact K_noSheet_y (by decide) ⟨fun _ => K_lane_y hl3 ⟨fun c => absurd c (by decide), fun _ => ⟨fun _ => ⟨fun c3 => absurd c3 c2, fun _ => h2 _ _ ⟨D, E, hv.ft 4⟩⟩, fun c3 => absurd c c3⟩⟩, fun c => absurd rfl c⟩
  · exact C_isLane_n hl ⟨fun _ => h26 (Or.inl hl), fun c => absurd rfl c⟩
theorem OP_lose_c1 {Ln : Nat} {xs : Nat → Int32} {I A : Nat → Nat → Int32} {Q : Int32 → (Nat → Nat → Int32) → Prop} (hv : INV xs I A) (hq : ∀ x I', (∀ Q2 : Int32 → (Nat → Nat → Int32) → Prop, (∀ A2, INV xs I' A2 → Q2 x A2) → W_X8_lose_r44 Ln I' A (zi (1 : Nat)) Q2) → Q x I') : W_X7_lose_r1_c1 Ln I A Q := by
  obtain ⟨D, E, hv⟩ := hv
  obtain ⟨b, l, n, hs⟩ := hv.sh.at_1.d
  unfold W_X7_lose_r1_c1
  refine C_isSheet_1 ⟨fun _ => ?_, fun c => absurd (show (1 : Int32) ≠ 0 by decide) c⟩
  have hend : Iv xs D E (zp I 5 1 0) (zw A 65 1 (-1)) := by
    refine hv.stf (fun o k hk => zpJ (f := zkI) rfl hk) (fun a ha => zwJ (f := zkA) rfl ha) ⟨rfl, rfl⟩ hv.tr.2 (hv.sh.set_1 (fun o j ho ho2 => congrFun (zp_ne ho2) j) (fun q hq2 => by rw [zw_at, if_neg hq2]) (fun q hq2 => by rw [zw_ne (by decide)]) (fun a ha ha2 => zw_ne (by omega)) (fun j hj => by rw [zw_ne (by decide)]) ?_)
    exact Or.inl ⟨by rw [zp_eq], by rw [zw_at, if_pos rfl]; decide⟩
  obtain ⟨h1, h2, h3, h4, h5⟩ := hs
  rw [h3]
  cases b with
  | false =>
    refine ⟨fun _ => hq _ _ (fun Q2 hq2 => ?_), fun c => absurd rfl c⟩
    unfold W_X8_lose_r44
    rw [zi_nat' (show 1 < 2147483648 by decide), h4]
    exact K_noSheet_y (by decide) ⟨fun _ => ⟨by decide, fun c => absurd c (show ¬ (0 : Int32) ≤ zi (-1) by decide), fun _ => ⟨by decide, hq2 _ ⟨D, E, hend⟩⟩⟩, fun c => absurd rfl c⟩
  | true =>
    refine ⟨fun c => absurd c (show ¬ (1 : Int32) = 0 by decide), fun _ => hq _ _ (fun Q2 hq2 => ?_)⟩
    unfold W_X8_lose_r44
    rw [zi_nat' (show 1 < 2147483648 by decide), h4]
    exact K_noSheet_y (by decide) ⟨fun _ => ⟨by decide, fun _ => ⟨by decide, hq2 _ ⟨D, E, hend⟩⟩, fun c => absurd (by rw [if_pos rfl, zq0, zi_le (by omega) (by omega) (by omega) (by omega)]; omega) c⟩, fun c => absurd rfl c⟩
theorem C_write_5 {Ln : Nat} {I A : Nat → Nat → Int32} {l i : Nat} {v : Int32} {Q : (Nat → Nat → Int32) → Prop} (h2 : I 5 2 = zi l) (hl : l < 3) (hi : i < 60) (hq : Q (zw A 6 i (zcut l v))) : W_X4_write_r5 Ln I A (zi i) v Q := by
  have hz := zin_n (L := 60) (s := i) hi (by decide)
  unfold W_X4_write_r5
  rw [h2, zi_nat' (by omega), zi_toInt (by omega) (by omega)]
  unfold zcut at hq
  refine ⟨fun c => ⟨hz, ?_⟩, fun c => ⟨hz, ?_⟩, fun c1 c2 => ⟨hz, ?_⟩⟩
  · rw [if_pos (by omega)] at hq; exact hq
  · rw [if_neg (by omega), if_pos (by omega)] at hq; exact hq
  · rw [if_neg (by omega), if_neg (by omega)] at hq; exact hq
theorem OP_put_c1 {Ln : Nat} {xs : Nat → Int32} {I A : Nat → Nat → Int32} {v w : Int32} {Q : Int32 → (Nat → Nat → Int32) → (Nat → Nat → Int32) → Prop} (hv : INV xs I A) (hq : ∀ x I' A', A' 0 = A 0 → (∀ Q2 : Int32 → (Nat → Nat → Int32) → (Nat → Nat → Int32) → Prop, (∀ I2 A2, INV xs I2 A2 → Q2 x I2 A2) → W_X8_put_r44 Ln I' A' (zi (1 : Nat)) v w Q2) → Q x I' A') : W_X7_put_r1_c1 Ln I A v w Q := by
  obtain ⟨D, E, hv⟩ := hv
  obtain ⟨b, l, n, hs⟩ := hv.sh.at_1.d
  have hs0 := hs
  obtain ⟨h1, hl3, h3, h4, h5⟩ := hs
  unfold W_X7_put_r1_c1
  refine C_isSheet_1 ⟨fun _ => C_foc_5 hs0 ?_, fun c => absurd (show (1 : Int32) ≠ 0 by decide) c⟩
  rw [zff_1 (fun hb => (h5 hb).1)]
  by_cases hz : zfn b n v = 0
  · obtain ⟨hb, hi⟩ := zfn_0 hz
    obtain ⟨i, hi2, rfl⟩ := zasn hi
    subst hb
    obtain ⟨e2, e3, e66, ec⟩ := h5 rfl
    rw [hz]
    refine ⟨fun _ => C_write_5 e2 hl3 (by omega) ?_, fun c => absurd (by decide) c⟩
    unfold W_X7_faultless_r1
    refine hq _ _ _ (zw_ne (by decide)) (fun Q2 h2 => ?_)
    unfold W_X8_put_r44
    refine K_noSheet_y (by decide) ⟨fun _ => K_noCell (by decide) h1 (by rw [zw_ne (by decide)]; exact h4) ?_, fun c => absurd rfl c⟩
    rw [hz]
    refine ⟨fun _ => ?_, fun c => absurd (by decide) c⟩
    have h73 : ∀ v2 : Int32, v2 = zcut l w → J_X8_put_r44_73_s3 Ln (zp I 1 11 0) (zw A 6 i (zcut l w)) (zi (1 : Nat)) (zi i) w ((60 : Int32) * zi (1 : Nat) + zi i) v2 Q2 := by
      rintro v2 rfl
      unfold J_X8_put_r44_73_s3 W_X8_refused_r44
      rw [show (60 : Int32) * zi (1 : Nat) + zi i = zi ((60 * 1 + i : Nat) : Int) from by rw [zq60, zi_mul, zi_add]; rfl, zi_nat' (by omega)]
      refine ⟨zin_n (by omega) (by decide), fun A4 hA4 => h2 _ _ ⟨D, E, ?_⟩⟩
      subst hA4
      refine hv.stf (fun o k hk => (zpJ (f := zkI) rfl hk).trans (zpJ (f := zkI) rfl hk)) (fun a ha => (zwJ (f := zkA) rfl ha).trans (zwJ (f := zkA) rfl ha)) ⟨rfl, rfl⟩ (by rw [zp_eq, zp_ne (by decide), zp_eq]) (hv.sh.set_1 (fun o j ho ho2 => by rw [zp_ne (by omega), zp_ne (by omega)]) (fun q hq2 => by rw [zw_ne (by decide), zw_ne (by decide)]) (fun q hq2 => by rw [zw_ne (by decide), zw_ne (by decide)]) (fun a ha ha2 => by rw [zw_ne (by omega), zw_ne ha2]) (fun j hj => by rw [zw_at, if_neg (by omega), zw_ne (by decide)]) ?_)
      refine Or.inr ⟨n, l, h1, hl3, h3, e2, e3, ?_, ?_, fun j hj => ?_⟩
      · rw [zw_ne (by decide), zw_ne (by decide)]; exact h4
      · rw [zw_ne (by decide), zw_ne (by decide)]; exact e66
      · rw [zw_at, zw_ne (show 6 ≠ 67 by decide), zw_at, zw_ne (show (67 : Nat) ≠ 6 by decide)]
        by_cases e : j = i
        · rw [if_pos e, if_pos (by omega)]
        · rw [if_neg e, if_neg (by omega)]; exact ec j hj
    rw [zi_nat' (show 1 < 2147483648 by decide), zw_ne (show (66 : Nat) ≠ 6 by decide), e66, (show (zi l : Int32) ≠ 0 ↔ ¬ l = 0 from by rw [ne_eq, show (0 : Int32) = zi (0 : Nat) from rfl, zeq_n (by omega) (by omega)]), (show (zi l : Int32) ≠ 1 ↔ ¬ l = 1 from by rw [ne_eq, show (1 : Int32) = zi (1 : Nat) from rfl, zeq_n (by omega) (by omega)])]
    refine ⟨by decide, fun c x3 e3 => ⟨by decide, fun c2 => ?_, fun c2 => ?_⟩, fun c x7 e7 => ?_⟩
    · subst e3; exact h73 _ (by unfold zcut; rw [if_neg c, if_neg c2])
    · subst e3; exact h73 _ (by unfold zcut; rw [if_neg c, if_pos (by omega)])
    · subst e7; exact h73 _ (by unfold zcut; rw [if_pos (by omega)])
  · have hf := zfn_c (b := b) (n0 := n) (i := v)
    refine ⟨fun c => ?_, fun _ => ?_⟩
    · rw [show (0 : Int32) = zi 0 from rfl, zi_inj (by omega) (by omega) (by omega) (by omega)] at c; exact absurd c hz
    · unfold W_X7_faulted_r1
      refine hq _ _ _ rfl (fun Q2 h2 => ?_)
      unfold W_X8_put_r44
      refine K_noSheet_y (by decide) ⟨fun _ => K_noCell (by decide) h1 h4 ⟨fun c => ?_, fun _ => K_noCell (by decide) h1 h4 ?_⟩, fun c => absurd rfl c⟩
      · rw [show (0 : Int32) = zi 0 from rfl, zi_le (by omega) (by omega) (by omega) (by omega)] at c; omega
      · unfold W_X8_failed_r44
        exact h2 _ _ ⟨D, E, hv.ft _⟩
theorem OP_cell_c1 {Ln : Nat} {xs : Nat → Int32} {I A : Nat → Nat → Int32} {v w : Int32} {Q : Int64 → (Nat → Nat → Int32) → Prop} (hv : INV xs I A) (hq : ∀ x I', (∀ Q2 : Int64 → (Nat → Nat → Int32) → Prop, (∀ I2, INV xs I2 A → Q2 x I2) → W_X8_cell_r44 Ln I' A (zi (1 : Nat)) v w Q2) → Q x I') : W_X7_cell_r1_c1 Ln I A v w Q := by
  obtain ⟨D, E, hv⟩ := hv
  obtain ⟨b, l, n, hs⟩ := hv.sh.at_1.d
  have hs0 := hs
  obtain ⟨h1, hl3, h3, h4, h5⟩ := hs
  unfold W_X7_cell_r1_c1
  rintro I1 hI1
  refine C_isSheet_1 ⟨fun c => absurd c (by decide), fun _ => ?_⟩
  by_cases hl : 0 ≤ w.toInt ∧ w.toInt < (3 : Nat)
  · obtain ⟨l2, hl2, rfl⟩ := zasn hl
    refine C_isLane_y hl2 ⟨fun _ => C_foc_5 (b := b) (l := l) (n0 := n) ⟨h1, hl3, by rw [hI1]; exact h3, h4, by rw [hI1]; exact h5⟩ ?_, fun c => absurd (show (1 : Int32) ≠ 0 by decide) c⟩
    -- the reference, from its own fault on
    have hK : ∀ (J : Nat → Nat → Int32) (Q2 : Int64 → (Nat → Nat → Int32) → Prop), (zff b l n (zi l2) v 1 = 0 → Q2 (Int32.toInt64 (A 67 (60 * 1 + v.toInt.toNat))) (zp J 44 0 0)) → (zff b l n (zi l2) v 1 ≠ 0 → Q2 (-9223372036854775808) (zp (zp J 44 0 0) 44 0 (zi (zff b l n (zi l2) v 1)))) → W_X8_cell_r44 Ln J A (zi (1 : Nat)) v (zi l2) Q2 := by
      intro J Q2 k0 k1
      unfold W_X8_cell_r44
      rintro J1 rfl
      have h53 : (b = true → zi l2 = zi l) → J_X8_cell_r44_53 Ln (zp J 44 0 0) A (zi (1 : Nat)) v (zi l2) Q2 := by
        intro hb
        have e1 := zff_1 (n0 := n) (i := v) hb
        rw [e1] at k0 k1
        have hf := zfn_c (b := b) (n0 := n) (i := v)
        unfold J_X8_cell_r44_53
        refine K_noCell (by decide) h1 h4 ⟨fun c => ?_, fun c => K_noCell (by decide) h1 h4 ?_⟩
        · rw [show (0 : Int32) = zi 0 from rfl, zi_le (by omega) (by omega) (by omega) (by omega)] at c
          have hz : zfn b n v = 0 := by omega
          obtain ⟨hb2, hi⟩ := zfn_0 hz
          obtain ⟨i, hi2, rfl⟩ := zasn hi
          have h6 := k0 hz
          rw [zi_toInt (by omega) (by omega), Int.toNat_natCast] at h6
          rw [show (60 : Int32) * zi (1 : Nat) + zi i = zi ((60 * 1 + i : Nat) : Int) from by rw [zq60, zi_mul, zi_add]; rfl, zi_nat' (by omega)]
          exact ⟨zin_n (by omega) (by decide), h6⟩
        · rw [show (0 : Int32) = zi 0 from rfl, zi_le (by omega) (by omega) (by omega) (by omega)] at c
          unfold W_X8_failedLong_r44 W_X8_lost
          rintro J2 rfl
          exact k1 (by omega)
      refine K_noSheet_y (by decide) ⟨fun c => absurd rfl c, fun _ => K_lane_y hl2 ⟨fun _ => ⟨by decide, fun c => h53 (fun hb => ?_), fun c => ⟨by decide, fun c2 => h53 (fun hb => ?_), fun c2 => ?_⟩⟩, fun c => absurd (show (1 : Int32) ≠ 0 by decide) c⟩⟩
      · rw [zi_nat' (show 1 < 2147483648 by decide), h4, if_pos hb] at c; exact absurd c (by rw [zq0, zi_lt (by omega) (by omega) (by omega) (by omega)]; omega)
      · rw [zi_nat' (show 1 < 2147483648 by decide), (h5 hb).2.2.1] at c2; exact c2.symm
      · rw [zi_nat' (show 1 < 2147483648 by decide)] at c c2
        cases b with
        | false => rw [h4] at c; exact absurd (show zi (-1) < 0 by decide) c
        | true =>
          rw [(h5 rfl).2.2.1] at c2
          unfold W_X8_failedLong_r44 W_X8_lost
          rintro J2 rfl
          have hz : zff true l n (zi l2) v 1 = 2 := by unfold zff; rw [if_neg (by decide), if_neg (fun q => c2 q.symm)]
          rw [hz] at k1
          exact k1 (by decide)
    have hfl := zff_le b l n (zi l2) v 1
    refine ⟨fun c I5 hI5 => hq _ _ (fun Q2 h2 => hK _ _ (fun hz => ?_) (fun hz => ?_)), fun c I6 hI6 => ?_⟩
    · rw [hz] at c; exact absurd (by decide) c
    · refine h2 _ ⟨D, E, hv.tf (fun o k hk => ?_) ?_ ?_⟩
      · rw [zpT rfl hk, zpT rfl hk, hI5, zpT rfl hk, hI1, zpT rfl hk]
      · rw [hI5, hI1]; exact hv.tr.1
      · rw [zp_eq, zp_ne (by decide), zp_ne (by decide), hI5, zp_eq]
    · have hz : zff b l n (zi l2) v 1 = 0 := by
        rw [ne_eq, Decidable.not_not, show (0 : Int32) = zi 0 from rfl, zi_inj (by omega) (by omega) (by omega) (by omega)] at c; exact c
      obtain ⟨hb, _, _, hi, hi2⟩ := zff_0 hz
      rw [show (1 : Int32).toInt = 1 from rfl] at hi2
      obtain ⟨i, hi3, rfl⟩ := zasn (v := v) (n := n) ⟨hi, by omega⟩
      refine ⟨zin_n (by omega) (by decide), hq _ _ (fun Q2 h2 => hK _ _ (fun _ => ?_) (fun hz2 => absurd hz hz2))⟩
      rw [zi_toInt (by omega) (by omega), Int.toNat_natCast]
      rw [zi_nat' (by omega), (h5 hb).2.2.2 i hi3] at h2
      refine h2 _ ⟨D, E, hv.tf (fun o k hk => ?_) ?_ ?_⟩
      · rw [zpT rfl hk, hI6, zpT rfl hk, hI1, zpT rfl hk]
      · rw [hI6, hI1]; exact hv.tr.1
      · rw [zp_eq, zp_ne (by decide), hI6, zp_eq, hz]; rfl
  · refine C_isLane_n hl ⟨fun c => absurd rfl c, fun _ => hq _ _ (fun Q2 h2 => ?_)⟩
    unfold W_X8_cell_r44 J_X8_cell_r44_24 W_X8_lost
    rintro J1 rfl
    subst hI1
    exact K_noSheet_y (by decide) ⟨fun c => absurd rfl c, fun _ => K_lane_n hl ⟨fun c => absurd rfl c, fun _ => h2 _ ⟨D, E, hv.ft 0⟩⟩⟩
theorem C_fill_8 {Ln : Nat} {I A : Nat → Nat → Int32} {x : Int32} {Q : (Nat → Nat → Int32) → Prop} (hq : ∀ A', (∀ a, a ≠ 8 → A' a = A a) → (∀ s, s < 60 → A' 8 s = x) → Q A') : W_J7_fill_53178_r8 Ln I A x Q := by
  unfold W_J7_fill_53178_r8
  refine zLoop.inv (fun i σ => σ.1 = zi i ∧ (∀ a, a ≠ 8 → σ.2 a = A a) ∧ ∀ s, s < i → σ.2 8 s = x) 60 ⟨rfl, fun _ _ => rfl, fun s h => by omega⟩ ?_ ?_
  · rintro i ⟨v3, A2⟩ hi ⟨h3, hf, h2⟩ K hk
    simp only at h3 hf h2
    subst h3
    simp only [L_J7_fill_53178_r8_5]
    rw [zi_nat' (by omega)]
    refine ⟨fun c => absurd c (by rw [zq60, zi_le (by omega) (by omega) (by omega) (by omega)]; omega), fun _ => ⟨zin_n (by omega) (by decide), ?_⟩⟩
    rw [zi_succ]
    refine hk _ ⟨rfl, fun a ha => (zw_ne ha).trans (hf a ha), fun s hs => ?_⟩
    dsimp only
    rw [zw_at]
    by_cases e : s = i
    · rw [if_pos e]
    · rw [if_neg e]; exact h2 s (by omega)
  · rintro ⟨v3, A2⟩ ⟨h3, hf, h2⟩ K
    simp only at h3 hf h2
    subst h3
    simp only [L_J7_fill_53178_r8_5]
    exact ⟨fun _ => hq A2 hf h2, fun c => absurd (by decide) c⟩
theorem OP_sheet_c2 {Ln : Nat} {xs : Nat → Int32} {I A : Nat → Nat → Int32} {v w : Int32} {Q : Int32 → (Nat → Nat → Int32) → (Nat → Nat → Int32) → Prop} (hv : INV xs I A) (hq : ∀ x I' A', A' 0 = A 0 → (∀ Q2 : Int32 → (Nat → Nat → Int32) → (Nat → Nat → Int32) → Prop, (∀ I2 A2, INV xs I2 A2 → Q2 x I2 A2) → W_X8_sheet_r44 Ln I' A' (zi (2 : Nat)) v w Q2) → Q x I' A') : W_X7_sheet_r1_c2 Ln I A v w Q := by
  obtain ⟨D, E, hv⟩ := hv
  unfold W_X7_sheet_r1_c2
  refine C_isSheet_2 ⟨fun _ => ?_, fun c => absurd (show (1 : Int32) ≠ 0 by decide) c⟩
  have h26 : ¬ (0 ≤ v.toInt ∧ v.toInt < (3 : Nat)) ∨ ¬ w ≤ 60 → J_X7_sheet_r1_c2_26 Ln I A v w Q := by
    intro hb
    unfold J_X7_sheet_r1_c2_26 W_X7_faultless_r1
    refine hq _ _ _ rfl (fun Q2 h2 => ?_)
    unfold W_X8_sheet_r44 J_X8_sheet_r44_31 W_X8_refused_r44
    refine K_noSheet_y (by decide) ⟨fun _ => ?_, fun c => absurd rfl c⟩
    by_cases hl : 0 ≤ v.toInt ∧ v.toInt < (3 : Nat)
    · obtain ⟨l, hl3, rfl⟩ := zasn hl
      refine K_lane_y hl3 ⟨fun c => absurd c (by decide), fun _ => ⟨fun c => ?_, fun _ => h2 _ _ ⟨D, E, hv.ft 0⟩⟩⟩
      rcases hb with hb | hb
      · exact absurd hl hb
      · exact absurd c hb
    · exact K_lane_n hl ⟨fun _ => h2 _ _ ⟨D, E, hv.ft 0⟩, fun c => absurd rfl c⟩
  by_cases hl : 0 ≤ v.toInt ∧ v.toInt < (3 : Nat)
  · obtain ⟨l, hl3, rfl⟩ := zasn hl
    refine C_isLane_y hl3 ⟨fun c => absurd c (by decide), fun _ => ⟨fun c => ⟨fun c2 => ?_, fun c2 => ?_⟩, fun c => h26 (Or.inr c)⟩⟩
    · rw [zq60, Int32.le_iff_toInt_le, zi_toInt (by omega) (by omega)] at c
      rw [Int32.le_iff_toInt_le, show (0 : Int32).toInt = 0 from rfl] at c2
      obtain ⟨n, hn, rfl⟩ := zasn (v := w) (n := 61) ⟨c2, by omega⟩
      unfold W_X4_renew_r7
      rintro I1 hI1
      refine C_fill_8 (fun A1 f1 g1 => ?_)
      unfold W_X7_faultless_r1
      refine hq _ _ _ (f1 0 (by decide)) (fun Q2 h2 => ?_)
      unfold W_X8_sheet_r44
      refine K_noSheet_y (by decide) ⟨fun _ => K_lane_y hl3 ⟨fun c => absurd c (by decide), fun _ => ⟨fun _ => ⟨fun _ => ⟨by decide, by decide, ?_⟩, fun c => absurd (by rw [zq0, zi_le (by omega) (by omega) (by omega) (by omega)]; omega) c⟩, fun c => absurd (by rw [zq60, zi_le (by omega) (by omega) (by omega) (by omega)]; omega) c⟩⟩, fun c => absurd rfl c⟩
      rw [zi_nat' (show 2 < 2147483648 by decide)]
      refine K_fill (by decide) (by omega) (fun A2 f2 g2 e2 => h2 _ _ ⟨D, E, ?_⟩)
      have hA : ∀ a, a ≠ 8 → a ≠ 65 → a ≠ 66 → a ≠ 67 → A2 a = A a := fun a q1 q2 q3 q4 => by rw [f2 a q4, zw_ne q3, zw_ne q2, f1 a q1]
      have e65 : ∀ q, A2 65 q = if q = 2 then zi n else A 65 q := fun q => by rw [f2 65 (by decide), zw_ne (by decide), zw_at, f1 65 (by decide)]
      have e66 : ∀ q, A2 66 q = if q = 2 then zi l else A 66 q := fun q => by rw [f2 66 (by decide), zw_at, zw_ne (by decide), f1 66 (by decide)]
      have e67 : ∀ q, q < 60 * 2 ∨ 60 * 2 + 60 ≤ q → A2 67 q = A 67 q := fun q hq2 => by rw [g2 q hq2, zw_ne (by decide), zw_ne (by decide), f1 67 (by decide)]
      refine hv.stf (fun o k hk => ?_) (fun a ha => hA a (by rintro rfl; cases ha) (by rintro rfl; cases ha) (by rintro rfl; cases ha) (by rintro rfl; cases ha)) ?_ ?_ (hv.sh.set_2 (fun o j ho ho2 => ?_) (fun q hq2 => by rw [e65, if_neg hq2]) (fun q hq2 => by rw [e66, if_neg hq2]) (fun a ha ha2 => hA a ha2 (by omega) (by omega) (by omega)) e67 ?_)
      · rw [zpJ (f := zkI) rfl hk, zpJ (f := zkI) rfl hk, hI1, zpJ (f := zkI) rfl hk, zpJ (f := zkI) rfl hk, zpJ (f := zkI) rfl hk]
      · rw [hI1]; exact ⟨rfl, rfl⟩
      · rw [zp_eq, zp_ne (by decide), zp_eq]
      · rw [zp_ne (by omega), zp_ne (by omega), hI1, zp_ne ho2, zp_ne ho2, zp_ne ho2]
      · refine Or.inr ⟨n, l, by omega, hl3, ?_, ?_, ?_, by rw [e65, if_pos rfl], by rw [e66, if_pos rfl], fun i hi => ?_⟩
        · rw [hI1]; rfl
        · rw [hI1]; rfl
        · rw [hI1]; rfl
        · rw [e2 i hi, f2 8 (by decide), zw_ne (by decide), zw_ne (by decide), g1 i (by omega)]
    · unfold W_X7_faulted_r1
      refine hq _ _ _ rfl (fun Q2 h2 => ?_)
      unfold W_X8_sheet_r44 W_X8_failed_r44
      exact K_noSheet_y (by decide) ⟨fun _ => K_lane_y hl3 ⟨fun c => absurd c (by decide), fun _ => ⟨fun _ => ⟨fun c3 => absurd c3 c2, fun _ => h2 _ _ ⟨D, E, hv.ft 4⟩⟩, fun c3 => absurd c c3⟩⟩, fun c => absurd rfl c⟩
  · exact C_isLane_n hl ⟨fun _ => h26 (Or.inl hl), fun c => absurd rfl c⟩
theorem OP_lose_c2 {Ln : Nat} {xs : Nat → Int32} {I A : Nat → Nat → Int32} {Q : Int32 → (Nat → Nat → Int32) → Prop} (hv : INV xs I A) (hq : ∀ x I', (∀ Q2 : Int32 → (Nat → Nat → Int32) → Prop, (∀ A2, INV xs I' A2 → Q2 x A2) → W_X8_lose_r44 Ln I' A (zi (2 : Nat)) Q2) → Q x I') : W_X7_lose_r1_c2 Ln I A Q := by
  obtain ⟨D, E, hv⟩ := hv
  obtain ⟨b, l, n, hs⟩ := hv.sh.at_2.d
  unfold W_X7_lose_r1_c2
  refine C_isSheet_2 ⟨fun _ => ?_, fun c => absurd (show (1 : Int32) ≠ 0 by decide) c⟩
  have hend : Iv xs D E (zp I 7 1 0) (zw A 65 2 (-1)) := by
    refine hv.stf (fun o k hk => zpJ (f := zkI) rfl hk) (fun a ha => zwJ (f := zkA) rfl ha) ⟨rfl, rfl⟩ hv.tr.2 (hv.sh.set_2 (fun o j ho ho2 => congrFun (zp_ne ho2) j) (fun q hq2 => by rw [zw_at, if_neg hq2]) (fun q hq2 => by rw [zw_ne (by decide)]) (fun a ha ha2 => zw_ne (by omega)) (fun j hj => by rw [zw_ne (by decide)]) ?_)
    exact Or.inl ⟨by rw [zp_eq], by rw [zw_at, if_pos rfl]; decide⟩
  obtain ⟨h1, h2, h3, h4, h5⟩ := hs
  rw [h3]
  cases b with
  | false =>
    refine ⟨fun _ => hq _ _ (fun Q2 hq2 => ?_), fun c => absurd rfl c⟩
    unfold W_X8_lose_r44
    rw [zi_nat' (show 2 < 2147483648 by decide), h4]
    exact K_noSheet_y (by decide) ⟨fun _ => ⟨by decide, fun c => absurd c (show ¬ (0 : Int32) ≤ zi (-1) by decide), fun _ => ⟨by decide, hq2 _ ⟨D, E, hend⟩⟩⟩, fun c => absurd rfl c⟩
  | true =>
    refine ⟨fun c => absurd c (show ¬ (1 : Int32) = 0 by decide), fun _ => hq _ _ (fun Q2 hq2 => ?_)⟩
    unfold W_X8_lose_r44
    rw [zi_nat' (show 2 < 2147483648 by decide), h4]
    exact K_noSheet_y (by decide) ⟨fun _ => ⟨by decide, fun _ => ⟨by decide, hq2 _ ⟨D, E, hend⟩⟩, fun c => absurd (by rw [if_pos rfl, zq0, zi_le (by omega) (by omega) (by omega) (by omega)]; omega) c⟩, fun c => absurd rfl c⟩
theorem C_write_7 {Ln : Nat} {I A : Nat → Nat → Int32} {l i : Nat} {v : Int32} {Q : (Nat → Nat → Int32) → Prop} (h2 : I 7 2 = zi l) (hl : l < 3) (hi : i < 60) (hq : Q (zw A 8 i (zcut l v))) : W_X4_write_r7 Ln I A (zi i) v Q := by
  have hz := zin_n (L := 60) (s := i) hi (by decide)
  unfold W_X4_write_r7
  rw [h2, zi_nat' (by omega), zi_toInt (by omega) (by omega)]
  unfold zcut at hq
  refine ⟨fun c => ⟨hz, ?_⟩, fun c => ⟨hz, ?_⟩, fun c1 c2 => ⟨hz, ?_⟩⟩
  · rw [if_pos (by omega)] at hq; exact hq
  · rw [if_neg (by omega), if_pos (by omega)] at hq; exact hq
  · rw [if_neg (by omega), if_neg (by omega)] at hq; exact hq
theorem OP_put_c2 {Ln : Nat} {xs : Nat → Int32} {I A : Nat → Nat → Int32} {v w : Int32} {Q : Int32 → (Nat → Nat → Int32) → (Nat → Nat → Int32) → Prop} (hv : INV xs I A) (hq : ∀ x I' A', A' 0 = A 0 → (∀ Q2 : Int32 → (Nat → Nat → Int32) → (Nat → Nat → Int32) → Prop, (∀ I2 A2, INV xs I2 A2 → Q2 x I2 A2) → W_X8_put_r44 Ln I' A' (zi (2 : Nat)) v w Q2) → Q x I' A') : W_X7_put_r1_c2 Ln I A v w Q := by
  obtain ⟨D, E, hv⟩ := hv
  obtain ⟨b, l, n, hs⟩ := hv.sh.at_2.d
  have hs0 := hs
  obtain ⟨h1, hl3, h3, h4, h5⟩ := hs
  unfold W_X7_put_r1_c2
  refine C_isSheet_2 ⟨fun _ => C_foc_7 hs0 ?_, fun c => absurd (show (1 : Int32) ≠ 0 by decide) c⟩
  rw [zff_1 (fun hb => (h5 hb).1)]
  by_cases hz : zfn b n v = 0
  · obtain ⟨hb, hi⟩ := zfn_0 hz
    obtain ⟨i, hi2, rfl⟩ := zasn hi
    subst hb
    obtain ⟨e2, e3, e66, ec⟩ := h5 rfl
    rw [hz]
    refine ⟨fun _ => C_write_7 e2 hl3 (by omega) ?_, fun c => absurd (by decide) c⟩
    unfold W_X7_faultless_r1
    refine hq _ _ _ (zw_ne (by decide)) (fun Q2 h2 => ?_)
    unfold W_X8_put_r44
    refine K_noSheet_y (by decide) ⟨fun _ => K_noCell (by decide) h1 (by rw [zw_ne (by decide)]; exact h4) ?_, fun c => absurd rfl c⟩
    rw [hz]
    refine ⟨fun _ => ?_, fun c => absurd (by decide) c⟩
    have h73 : ∀ v2 : Int32, v2 = zcut l w → J_X8_put_r44_73_s3 Ln (zp I 1 11 0) (zw A 8 i (zcut l w)) (zi (2 : Nat)) (zi i) w ((60 : Int32) * zi (2 : Nat) + zi i) v2 Q2 := by
      rintro v2 rfl
      unfold J_X8_put_r44_73_s3 W_X8_refused_r44
      rw [show (60 : Int32) * zi (2 : Nat) + zi i = zi ((60 * 2 + i : Nat) : Int) from by rw [zq60, zi_mul, zi_add]; rfl, zi_nat' (by omega)]
      refine ⟨zin_n (by omega) (by decide), fun A4 hA4 => h2 _ _ ⟨D, E, ?_⟩⟩
      subst hA4
      refine hv.stf (fun o k hk => (zpJ (f := zkI) rfl hk).trans (zpJ (f := zkI) rfl hk)) (fun a ha => (zwJ (f := zkA) rfl ha).trans (zwJ (f := zkA) rfl ha)) ⟨rfl, rfl⟩ (by rw [zp_eq, zp_ne (by decide), zp_eq]) (hv.sh.set_2 (fun o j ho ho2 => by rw [zp_ne (by omega), zp_ne (by omega)]) (fun q hq2 => by rw [zw_ne (by decide), zw_ne (by decide)]) (fun q hq2 => by rw [zw_ne (by decide), zw_ne (by decide)]) (fun a ha ha2 => by rw [zw_ne (by omega), zw_ne ha2]) (fun j hj => by rw [zw_at, if_neg (by omega), zw_ne (by decide)]) ?_)
      refine Or.inr ⟨n, l, h1, hl3, h3, e2, e3, ?_, ?_, fun j hj => ?_⟩
      · rw [zw_ne (by decide), zw_ne (by decide)]; exact h4
      · rw [zw_ne (by decide), zw_ne (by decide)]; exact e66
      · rw [zw_at, zw_ne (show 8 ≠ 67 by decide), zw_at, zw_ne (show (67 : Nat) ≠ 8 by decide)]
        by_cases e : j = i
        · rw [if_pos e, if_pos (by omega)]
        · rw [if_neg e, if_neg (by omega)]; exact ec j hj
    rw [zi_nat' (show 2 < 2147483648 by decide), zw_ne (show (66 : Nat) ≠ 8 by decide), e66, (show (zi l : Int32) ≠ 0 ↔ ¬ l = 0 from by rw [ne_eq, show (0 : Int32) = zi (0 : Nat) from rfl, zeq_n (by omega) (by omega)]), (show (zi l : Int32) ≠ 1 ↔ ¬ l = 1 from by rw [ne_eq, show (1 : Int32) = zi (1 : Nat) from rfl, zeq_n (by omega) (by omega)])]
    refine ⟨by decide, fun c x3 e3 => ⟨by decide, fun c2 => ?_, fun c2 => ?_⟩, fun c x7 e7 => ?_⟩
    · subst e3; exact h73 _ (by unfold zcut; rw [if_neg c, if_neg c2])
    · subst e3; exact h73 _ (by unfold zcut; rw [if_neg c, if_pos (by omega)])
    · subst e7; exact h73 _ (by unfold zcut; rw [if_pos (by omega)])
  · have hf := zfn_c (b := b) (n0 := n) (i := v)
    refine ⟨fun c => ?_, fun _ => ?_⟩
    · rw [show (0 : Int32) = zi 0 from rfl, zi_inj (by omega) (by omega) (by omega) (by omega)] at c; exact absurd c hz
    · unfold W_X7_faulted_r1
      refine hq _ _ _ rfl (fun Q2 h2 => ?_)
      unfold W_X8_put_r44
      refine K_noSheet_y (by decide) ⟨fun _ => K_noCell (by decide) h1 h4 ⟨fun c => ?_, fun _ => K_noCell (by decide) h1 h4 ?_⟩, fun c => absurd rfl c⟩
      · rw [show (0 : Int32) = zi 0 from rfl, zi_le (by omega) (by omega) (by omega) (by omega)] at c; omega
      · unfold W_X8_failed_r44
        exact h2 _ _ ⟨D, E, hv.ft _⟩
theorem OP_cell_c2 {Ln : Nat} {xs : Nat → Int32} {I A : Nat → Nat → Int32} {v w : Int32} {Q : Int64 → (Nat → Nat → Int32) → Prop} (hv : INV xs I A) (hq : ∀ x I', (∀ Q2 : Int64 → (Nat → Nat → Int32) → Prop, (∀ I2, INV xs I2 A → Q2 x I2) → W_X8_cell_r44 Ln I' A (zi (2 : Nat)) v w Q2) → Q x I') : W_X7_cell_r1_c2 Ln I A v w Q := by
  obtain ⟨D, E, hv⟩ := hv
  obtain ⟨b, l, n, hs⟩ := hv.sh.at_2.d
  have hs0 := hs
  obtain ⟨h1, hl3, h3, h4, h5⟩ := hs
  unfold W_X7_cell_r1_c2
  rintro I1 hI1
  refine C_isSheet_2 ⟨fun c => absurd c (by decide), fun _ => ?_⟩
  by_cases hl : 0 ≤ w.toInt ∧ w.toInt < (3 : Nat)
  · obtain ⟨l2, hl2, rfl⟩ := zasn hl
    refine C_isLane_y hl2 ⟨fun _ => C_foc_7 (b := b) (l := l) (n0 := n) ⟨h1, hl3, by rw [hI1]; exact h3, h4, by rw [hI1]; exact h5⟩ ?_, fun c => absurd (show (1 : Int32) ≠ 0 by decide) c⟩
    -- the reference, from its own fault on
    have hK : ∀ (J : Nat → Nat → Int32) (Q2 : Int64 → (Nat → Nat → Int32) → Prop), (zff b l n (zi l2) v 1 = 0 → Q2 (Int32.toInt64 (A 67 (60 * 2 + v.toInt.toNat))) (zp J 44 0 0)) → (zff b l n (zi l2) v 1 ≠ 0 → Q2 (-9223372036854775808) (zp (zp J 44 0 0) 44 0 (zi (zff b l n (zi l2) v 1)))) → W_X8_cell_r44 Ln J A (zi (2 : Nat)) v (zi l2) Q2 := by
      intro J Q2 k0 k1
      unfold W_X8_cell_r44
      rintro J1 rfl
      have h53 : (b = true → zi l2 = zi l) → J_X8_cell_r44_53 Ln (zp J 44 0 0) A (zi (2 : Nat)) v (zi l2) Q2 := by
        intro hb
        have e1 := zff_1 (n0 := n) (i := v) hb
        rw [e1] at k0 k1
        have hf := zfn_c (b := b) (n0 := n) (i := v)
        unfold J_X8_cell_r44_53
        refine K_noCell (by decide) h1 h4 ⟨fun c => ?_, fun c => K_noCell (by decide) h1 h4 ?_⟩
        · rw [show (0 : Int32) = zi 0 from rfl, zi_le (by omega) (by omega) (by omega) (by omega)] at c
          have hz : zfn b n v = 0 := by omega
          obtain ⟨hb2, hi⟩ := zfn_0 hz
          obtain ⟨i, hi2, rfl⟩ := zasn hi
          have h6 := k0 hz
          rw [zi_toInt (by omega) (by omega), Int.toNat_natCast] at h6
          rw [show (60 : Int32) * zi (2 : Nat) + zi i = zi ((60 * 2 + i : Nat) : Int) from by rw [zq60, zi_mul, zi_add]; rfl, zi_nat' (by omega)]
          exact ⟨zin_n (by omega) (by decide), h6⟩
        · rw [show (0 : Int32) = zi 0 from rfl, zi_le (by omega) (by omega) (by omega) (by omega)] at c
          unfold W_X8_failedLong_r44 W_X8_lost
          rintro J2 rfl
          exact k1 (by omega)
      refine K_noSheet_y (by decide) ⟨fun c => absurd rfl c, fun _ => K_lane_y hl2 ⟨fun _ => ⟨by decide, fun c => h53 (fun hb => ?_), fun c => ⟨by decide, fun c2 => h53 (fun hb => ?_), fun c2 => ?_⟩⟩, fun c => absurd (show (1 : Int32) ≠ 0 by decide) c⟩⟩
      · rw [zi_nat' (show 2 < 2147483648 by decide), h4, if_pos hb] at c; exact absurd c (by rw [zq0, zi_lt (by omega) (by omega) (by omega) (by omega)]; omega)
      · rw [zi_nat' (show 2 < 2147483648 by decide), (h5 hb).2.2.1] at c2; exact c2.symm
      · rw [zi_nat' (show 2 < 2147483648 by decide)] at c c2
        cases b with
        | false => rw [h4] at c; exact absurd (show zi (-1) < 0 by decide) c
        | true =>
          rw [(h5 rfl).2.2.1] at c2
          unfold W_X8_failedLong_r44 W_X8_lost
          rintro J2 rfl
          have hz : zff true l n (zi l2) v 1 = 2 := by unfold zff; rw [if_neg (by decide), if_neg (fun q => c2 q.symm)]
          rw [hz] at k1
          exact k1 (by decide)
    have hfl := zff_le b l n (zi l2) v 1
    refine ⟨fun c I5 hI5 => hq _ _ (fun Q2 h2 => hK _ _ (fun hz => ?_) (fun hz => ?_)), fun c I6 hI6 => ?_⟩
    · rw [hz] at c; exact absurd (by decide) c
    · refine h2 _ ⟨D, E, hv.tf (fun o k hk => ?_) ?_ ?_⟩
      · rw [zpT rfl hk, zpT rfl hk, hI5, zpT rfl hk, hI1, zpT rfl hk]
      · rw [hI5, hI1]; exact hv.tr.1
      · rw [zp_eq, zp_ne (by decide), zp_ne (by decide), hI5, zp_eq]
    · have hz : zff b l n (zi l2) v 1 = 0 := by
        rw [ne_eq, Decidable.not_not, show (0 : Int32) = zi 0 from rfl, zi_inj (by omega) (by omega) (by omega) (by omega)] at c; exact c
      obtain ⟨hb, _, _, hi, hi2⟩ := zff_0 hz
      rw [show (1 : Int32).toInt = 1 from rfl] at hi2
      obtain ⟨i, hi3, rfl⟩ := zasn (v := v) (n := n) ⟨hi, by omega⟩
      refine ⟨zin_n (by omega) (by decide), hq _ _ (fun Q2 h2 => hK _ _ (fun _ => ?_) (fun hz2 => absurd hz hz2))⟩
      rw [zi_toInt (by omega) (by omega), Int.toNat_natCast]
      rw [zi_nat' (by omega), (h5 hb).2.2.2 i hi3] at h2
      refine h2 _ ⟨D, E, hv.tf (fun o k hk => ?_) ?_ ?_⟩
      · rw [zpT rfl hk, hI6, zpT rfl hk, hI1, zpT rfl hk]
      · rw [hI6, hI1]; exact hv.tr.1
      · rw [zp_eq, zp_ne (by decide), hI6, zp_eq, hz]; rfl
  · refine C_isLane_n hl ⟨fun c => absurd rfl c, fun _ => hq _ _ (fun Q2 h2 => ?_)⟩
    unfold W_X8_cell_r44 J_X8_cell_r44_24 W_X8_lost
    rintro J1 rfl
    subst hI1
    exact K_noSheet_y (by decide) ⟨fun c => absurd rfl c, fun _ => K_lane_n hl ⟨fun c => absurd rfl c, fun _ => h2 _ ⟨D, E, hv.ft 0⟩⟩⟩
theorem C_fill_10 {Ln : Nat} {I A : Nat → Nat → Int32} {x : Int32} {Q : (Nat → Nat → Int32) → Prop} (hq : ∀ A', (∀ a, a ≠ 10 → A' a = A a) → (∀ s, s < 60 → A' 10 s = x) → Q A') : W_J7_fill_53178_r10 Ln I A x Q := by
  unfold W_J7_fill_53178_r10
  refine zLoop.inv (fun i σ => σ.1 = zi i ∧ (∀ a, a ≠ 10 → σ.2 a = A a) ∧ ∀ s, s < i → σ.2 10 s = x) 60 ⟨rfl, fun _ _ => rfl, fun s h => by omega⟩ ?_ ?_
  · rintro i ⟨v3, A2⟩ hi ⟨h3, hf, h2⟩ K hk
    simp only at h3 hf h2
    subst h3
    simp only [L_J7_fill_53178_r10_5]
    rw [zi_nat' (by omega)]
    refine ⟨fun c => absurd c (by rw [zq60, zi_le (by omega) (by omega) (by omega) (by omega)]; omega), fun _ => ⟨zin_n (by omega) (by decide), ?_⟩⟩
    rw [zi_succ]
    refine hk _ ⟨rfl, fun a ha => (zw_ne ha).trans (hf a ha), fun s hs => ?_⟩
    dsimp only
    rw [zw_at]
    by_cases e : s = i
    · rw [if_pos e]
    · rw [if_neg e]; exact h2 s (by omega)
  · rintro ⟨v3, A2⟩ ⟨h3, hf, h2⟩ K
    simp only at h3 hf h2
    subst h3
    simp only [L_J7_fill_53178_r10_5]
    exact ⟨fun _ => hq A2 hf h2, fun c => absurd (by decide) c⟩
theorem OP_sheet_c3 {Ln : Nat} {xs : Nat → Int32} {I A : Nat → Nat → Int32} {v w : Int32} {Q : Int32 → (Nat → Nat → Int32) → (Nat → Nat → Int32) → Prop} (hv : INV xs I A) (hq : ∀ x I' A', A' 0 = A 0 → (∀ Q2 : Int32 → (Nat → Nat → Int32) → (Nat → Nat → Int32) → Prop, (∀ I2 A2, INV xs I2 A2 → Q2 x I2 A2) → W_X8_sheet_r44 Ln I' A' (zi (3 : Nat)) v w Q2) → Q x I' A') : W_X7_sheet_r1_c3 Ln I A v w Q := by
  obtain ⟨D, E, hv⟩ := hv
  unfold W_X7_sheet_r1_c3
  refine C_isSheet_3 ⟨fun _ => ?_, fun c => absurd (show (1 : Int32) ≠ 0 by decide) c⟩
  have h26 : ¬ (0 ≤ v.toInt ∧ v.toInt < (3 : Nat)) ∨ ¬ w ≤ 60 → J_X7_sheet_r1_c3_26 Ln I A v w Q := by
    intro hb
    unfold J_X7_sheet_r1_c3_26 W_X7_faultless_r1
    refine hq _ _ _ rfl (fun Q2 h2 => ?_)
    unfold W_X8_sheet_r44 J_X8_sheet_r44_31 W_X8_refused_r44
    refine K_noSheet_y (by decide) ⟨fun _ => ?_, fun c => absurd rfl c⟩
    by_cases hl : 0 ≤ v.toInt ∧ v.toInt < (3 : Nat)
    · obtain ⟨l, hl3, rfl⟩ := zasn hl
      refine K_lane_y hl3 ⟨fun c => absurd c (by decide), fun _ => ⟨fun c => ?_, fun _ => h2 _ _ ⟨D, E, hv.ft 0⟩⟩⟩
      rcases hb with hb | hb
      · exact absurd hl hb
      · exact absurd c hb
    · exact K_lane_n hl ⟨fun _ => h2 _ _ ⟨D, E, hv.ft 0⟩, fun c => absurd rfl c⟩
  by_cases hl : 0 ≤ v.toInt ∧ v.toInt < (3 : Nat)
  · obtain ⟨l, hl3, rfl⟩ := zasn hl
    refine C_isLane_y hl3 ⟨fun c => absurd c (by decide), fun _ => ⟨fun c => ⟨fun c2 => ?_, fun c2 => ?_⟩, fun c => h26 (Or.inr c)⟩⟩
    · rw [zq60, Int32.le_iff_toInt_le, zi_toInt (by omega) (by omega)] at c
      rw [Int32.le_iff_toInt_le, show (0 : Int32).toInt = 0 from rfl] at c2
      obtain ⟨n, hn, rfl⟩ := zasn (v := w) (n := 61) ⟨c2, by omega⟩
      unfold W_X4_renew_r9
      rintro I1 hI1
      refine C_fill_10 (fun A1 f1 g1 => ?_)
      unfold W_X7_faultless_r1
      refine hq _ _ _ (f1 0 (by decide)) (fun Q2 h2 => ?_)
      unfold W_X8_sheet_r44
      refine K_noSheet_y (by decide) ⟨fun _ => K_lane_y hl3 ⟨fun c => absurd c (by decide), fun _ => ⟨fun _ => ⟨fun _ => ⟨by decide, by decide, ?_⟩, fun c => absurd (by rw [zq0, zi_le (by omega) (by omega) (by omega) (by omega)]; omega) c⟩, fun c => absurd (by rw [zq60, zi_le (by omega) (by omega) (by omega) (by omega)]; omega) c⟩⟩, fun c => absurd rfl c⟩
      rw [zi_nat' (show 3 < 2147483648 by decide)]
      refine K_fill (by decide) (by omega) (fun A2 f2 g2 e2 => h2 _ _ ⟨D, E, ?_⟩)
      have hA : ∀ a, a ≠ 10 → a ≠ 65 → a ≠ 66 → a ≠ 67 → A2 a = A a := fun a q1 q2 q3 q4 => by rw [f2 a q4, zw_ne q3, zw_ne q2, f1 a q1]
      have e65 : ∀ q, A2 65 q = if q = 3 then zi n else A 65 q := fun q => by rw [f2 65 (by decide), zw_ne (by decide), zw_at, f1 65 (by decide)]
      have e66 : ∀ q, A2 66 q = if q = 3 then zi l else A 66 q := fun q => by rw [f2 66 (by decide), zw_at, zw_ne (by decide), f1 66 (by decide)]
      have e67 : ∀ q, q < 60 * 3 ∨ 60 * 3 + 60 ≤ q → A2 67 q = A 67 q := fun q hq2 => by rw [g2 q hq2, zw_ne (by decide), zw_ne (by decide), f1 67 (by decide)]
      refine hv.stf (fun o k hk => ?_) (fun a ha => hA a (by rintro rfl; cases ha) (by rintro rfl; cases ha) (by rintro rfl; cases ha) (by rintro rfl; cases ha)) ?_ ?_ (hv.sh.set_3 (fun o j ho ho2 => ?_) (fun q hq2 => by rw [e65, if_neg hq2]) (fun q hq2 => by rw [e66, if_neg hq2]) (fun a ha ha2 => hA a ha2 (by omega) (by omega) (by omega)) e67 ?_)
      · rw [zpJ (f := zkI) rfl hk, zpJ (f := zkI) rfl hk, hI1, zpJ (f := zkI) rfl hk, zpJ (f := zkI) rfl hk, zpJ (f := zkI) rfl hk]
      · rw [hI1]; exact ⟨rfl, rfl⟩
      · rw [zp_eq, zp_ne (by decide), zp_eq]
      · rw [zp_ne (by omega), zp_ne (by omega), hI1, zp_ne ho2, zp_ne ho2, zp_ne ho2]
      · refine Or.inr ⟨n, l, by omega, hl3, ?_, ?_, ?_, by rw [e65, if_pos rfl], by rw [e66, if_pos rfl], fun i hi => ?_⟩
        · rw [hI1]; rfl
        · rw [hI1]; rfl
        · rw [hI1]; rfl
        · rw [e2 i hi, f2 10 (by decide), zw_ne (by decide), zw_ne (by decide), g1 i (by omega)]
    · unfold W_X7_faulted_r1
      refine hq _ _ _ rfl (fun Q2 h2 => ?_)
      unfold W_X8_sheet_r44 W_X8_failed_r44
      exact K_noSheet_y (by decide) ⟨fun _ => K_lane_y hl3 ⟨fun c => absurd c (by decide), fun _ => ⟨fun _ => ⟨fun c3 => absurd c3 c2, fun _ => h2 _ _ ⟨D, E, hv.ft 4⟩⟩, fun c3 => absurd c c3⟩⟩, fun c => absurd rfl c⟩
  · exact C_isLane_n hl ⟨fun _ => h26 (Or.inl hl), fun c => absurd rfl c⟩
theorem OP_lose_c3 {Ln : Nat} {xs : Nat → Int32} {I A : Nat → Nat → Int32} {Q : Int32 → (Nat → Nat → Int32) → Prop} (hv : INV xs I A) (hq : ∀ x I', (∀ Q2 : Int32 → (Nat → Nat → Int32) → Prop, (∀ A2, INV xs I' A2 → Q2 x A2) → W_X8_lose_r44 Ln I' A (zi (3 : Nat)) Q2) → Q x I') : W_X7_lose_r1_c3 Ln I A Q := by
  obtain ⟨D, E, hv⟩ := hv
  obtain ⟨b, l, n, hs⟩ := hv.sh.at_3.d
  unfold W_X7_lose_r1_c3
  refine C_isSheet_3 ⟨fun _ => ?_, fun c => absurd (show (1 : Int32) ≠ 0 by decide) c⟩
  have hend : Iv xs D E (zp I 9 1 0) (zw A 65 3 (-1)) := by
    refine hv.stf (fun o k hk => zpJ (f := zkI) rfl hk) (fun a ha => zwJ (f := zkA) rfl ha) ⟨rfl, rfl⟩ hv.tr.2 (hv.sh.set_3 (fun o j ho ho2 => congrFun (zp_ne ho2) j) (fun q hq2 => by rw [zw_at, if_neg hq2]) (fun q hq2 => by rw [zw_ne (by decide)]) (fun a ha ha2 => zw_ne (by omega)) (fun j hj => by rw [zw_ne (by decide)]) ?_)
    exact Or.inl ⟨by rw [zp_eq], by rw [zw_at, if_pos rfl]; decide⟩
  obtain ⟨h1, h2, h3, h4, h5⟩ := hs
  rw [h3]
  cases b with
  | false =>
    refine ⟨fun _ => hq _ _ (fun Q2 hq2 => ?_), fun c => absurd rfl c⟩
    unfold W_X8_lose_r44
    rw [zi_nat' (show 3 < 2147483648 by decide), h4]
    exact K_noSheet_y (by decide) ⟨fun _ => ⟨by decide, fun c => absurd c (show ¬ (0 : Int32) ≤ zi (-1) by decide), fun _ => ⟨by decide, hq2 _ ⟨D, E, hend⟩⟩⟩, fun c => absurd rfl c⟩
  | true =>
    refine ⟨fun c => absurd c (show ¬ (1 : Int32) = 0 by decide), fun _ => hq _ _ (fun Q2 hq2 => ?_)⟩
    unfold W_X8_lose_r44
    rw [zi_nat' (show 3 < 2147483648 by decide), h4]
    exact K_noSheet_y (by decide) ⟨fun _ => ⟨by decide, fun _ => ⟨by decide, hq2 _ ⟨D, E, hend⟩⟩, fun c => absurd (by rw [if_pos rfl, zq0, zi_le (by omega) (by omega) (by omega) (by omega)]; omega) c⟩, fun c => absurd rfl c⟩
theorem C_write_9 {Ln : Nat} {I A : Nat → Nat → Int32} {l i : Nat} {v : Int32} {Q : (Nat → Nat → Int32) → Prop} (h2 : I 9 2 = zi l) (hl : l < 3) (hi : i < 60) (hq : Q (zw A 10 i (zcut l v))) : W_X4_write_r9 Ln I A (zi i) v Q := by
  have hz := zin_n (L := 60) (s := i) hi (by decide)
  unfold W_X4_write_r9
  rw [h2, zi_nat' (by omega), zi_toInt (by omega) (by omega)]
  unfold zcut at hq
  refine ⟨fun c => ⟨hz, ?_⟩, fun c => ⟨hz, ?_⟩, fun c1 c2 => ⟨hz, ?_⟩⟩
  · rw [if_pos (by omega)] at hq; exact hq
  · rw [if_neg (by omega), if_pos (by omega)] at hq; exact hq
  · rw [if_neg (by omega), if_neg (by omega)] at hq; exact hq
theorem OP_put_c3 {Ln : Nat} {xs : Nat → Int32} {I A : Nat → Nat → Int32} {v w : Int32} {Q : Int32 → (Nat → Nat → Int32) → (Nat → Nat → Int32) → Prop} (hv : INV xs I A) (hq : ∀ x I' A', A' 0 = A 0 → (∀ Q2 : Int32 → (Nat → Nat → Int32) → (Nat → Nat → Int32) → Prop, (∀ I2 A2, INV xs I2 A2 → Q2 x I2 A2) → W_X8_put_r44 Ln I' A' (zi (3 : Nat)) v w Q2) → Q x I' A') : W_X7_put_r1_c3 Ln I A v w Q := by
  obtain ⟨D, E, hv⟩ := hv
  obtain ⟨b, l, n, hs⟩ := hv.sh.at_3.d
  have hs0 := hs
  obtain ⟨h1, hl3, h3, h4, h5⟩ := hs
  unfold W_X7_put_r1_c3
  refine C_isSheet_3 ⟨fun _ => C_foc_9 hs0 ?_, fun c => absurd (show (1 : Int32) ≠ 0 by decide) c⟩
  rw [zff_1 (fun hb => (h5 hb).1)]
  by_cases hz : zfn b n v = 0
  · obtain ⟨hb, hi⟩ := zfn_0 hz
    obtain ⟨i, hi2, rfl⟩ := zasn hi
    subst hb
    obtain ⟨e2, e3, e66, ec⟩ := h5 rfl
    rw [hz]
    refine ⟨fun _ => C_write_9 e2 hl3 (by omega) ?_, fun c => absurd (by decide) c⟩
    unfold W_X7_faultless_r1
    refine hq _ _ _ (zw_ne (by decide)) (fun Q2 h2 => ?_)
    unfold W_X8_put_r44
    refine K_noSheet_y (by decide) ⟨fun _ => K_noCell (by decide) h1 (by rw [zw_ne (by decide)]; exact h4) ?_, fun c => absurd rfl c⟩
    rw [hz]
    refine ⟨fun _ => ?_, fun c => absurd (by decide) c⟩
    have h73 : ∀ v2 : Int32, v2 = zcut l w → J_X8_put_r44_73_s3 Ln (zp I 1 11 0) (zw A 10 i (zcut l w)) (zi (3 : Nat)) (zi i) w ((60 : Int32) * zi (3 : Nat) + zi i) v2 Q2 := by
      rintro v2 rfl
      unfold J_X8_put_r44_73_s3 W_X8_refused_r44
      rw [show (60 : Int32) * zi (3 : Nat) + zi i = zi ((60 * 3 + i : Nat) : Int) from by rw [zq60, zi_mul, zi_add]; rfl, zi_nat' (by omega)]
      refine ⟨zin_n (by omega) (by decide), fun A4 hA4 => h2 _ _ ⟨D, E, ?_⟩⟩
      subst hA4
      refine hv.stf (fun o k hk => (zpJ (f := zkI) rfl hk).trans (zpJ (f := zkI) rfl hk)) (fun a ha => (zwJ (f := zkA) rfl ha).trans (zwJ (f := zkA) rfl ha)) ⟨rfl, rfl⟩ (by rw [zp_eq, zp_ne (by decide), zp_eq]) (hv.sh.set_3 (fun o j ho ho2 => by rw [zp_ne (by omega), zp_ne (by omega)]) (fun q hq2 => by rw [zw_ne (by decide), zw_ne (by decide)]) (fun q hq2 => by rw [zw_ne (by decide), zw_ne (by decide)]) (fun a ha ha2 => by rw [zw_ne (by omega), zw_ne ha2]) (fun j hj => by rw [zw_at, if_neg (by omega), zw_ne (by decide)]) ?_)
      refine Or.inr ⟨n, l, h1, hl3, h3, e2, e3, ?_, ?_, fun j hj => ?_⟩
      · rw [zw_ne (by decide), zw_ne (by decide)]; exact h4
      · rw [zw_ne (by decide), zw_ne (by decide)]; exact e66
      · rw [zw_at, zw_ne (show 10 ≠ 67 by decide), zw_at, zw_ne (show (67 : Nat) ≠ 10 by decide)]
        by_cases e : j = i
        · rw [if_pos e, if_pos (by omega)]
        · rw [if_neg e, if_neg (by omega)]; exact ec j hj
    rw [zi_nat' (show 3 < 2147483648 by decide), zw_ne (show (66 : Nat) ≠ 10 by decide), e66, (show (zi l : Int32) ≠ 0 ↔ ¬ l = 0 from by rw [ne_eq, show (0 : Int32) = zi (0 : Nat) from rfl, zeq_n (by omega) (by omega)]), (show (zi l : Int32) ≠ 1 ↔ ¬ l = 1 from by rw [ne_eq, show (1 : Int32) = zi (1 : Nat) from rfl, zeq_n (by omega) (by omega)])]
    refine ⟨by decide, fun c x3 e3 => ⟨by decide, fun c2 => ?_, fun c2 => ?_⟩, fun c x7 e7 => ?_⟩
    · subst e3; exact h73 _ (by unfold zcut; rw [if_neg c, if_neg c2])
    · subst e3; exact h73 _ (by unfold zcut; rw [if_neg c, if_pos (by omega)])
    · subst e7; exact h73 _ (by unfold zcut; rw [if_pos (by omega)])
  · have hf := zfn_c (b := b) (n0 := n) (i := v)
    refine ⟨fun c => ?_, fun _ => ?_⟩
    · rw [show (0 : Int32) = zi 0 from rfl, zi_inj (by omega) (by omega) (by omega) (by omega)] at c; exact absurd c hz
    · unfold W_X7_faulted_r1
      refine hq _ _ _ rfl (fun Q2 h2 => ?_)
      unfold W_X8_put_r44
      refine K_noSheet_y (by decide) ⟨fun _ => K_noCell (by decide) h1 h4 ⟨fun c => ?_, fun _ => K_noCell (by decide) h1 h4 ?_⟩, fun c => absurd rfl c⟩
      · rw [show (0 : Int32) = zi 0 from rfl, zi_le (by omega) (by omega) (by omega) (by omega)] at c; omega
      · unfold W_X8_failed_r44
        exact h2 _ _ ⟨D, E, hv.ft _⟩
theorem OP_cell_c3 {Ln : Nat} {xs : Nat → Int32} {I A : Nat → Nat → Int32} {v w : Int32} {Q : Int64 → (Nat → Nat → Int32) → Prop} (hv : INV xs I A) (hq : ∀ x I', (∀ Q2 : Int64 → (Nat → Nat → Int32) → Prop, (∀ I2, INV xs I2 A → Q2 x I2) → W_X8_cell_r44 Ln I' A (zi (3 : Nat)) v w Q2) → Q x I') : W_X7_cell_r1_c3 Ln I A v w Q := by
  obtain ⟨D, E, hv⟩ := hv
  obtain ⟨b, l, n, hs⟩ := hv.sh.at_3.d
  have hs0 := hs
  obtain ⟨h1, hl3, h3, h4, h5⟩ := hs
  unfold W_X7_cell_r1_c3
  rintro I1 hI1
  refine C_isSheet_3 ⟨fun c => absurd c (by decide), fun _ => ?_⟩
  by_cases hl : 0 ≤ w.toInt ∧ w.toInt < (3 : Nat)
  · obtain ⟨l2, hl2, rfl⟩ := zasn hl
    refine C_isLane_y hl2 ⟨fun _ => C_foc_9 (b := b) (l := l) (n0 := n) ⟨h1, hl3, by rw [hI1]; exact h3, h4, by rw [hI1]; exact h5⟩ ?_, fun c => absurd (show (1 : Int32) ≠ 0 by decide) c⟩
    -- the reference, from its own fault on
    have hK : ∀ (J : Nat → Nat → Int32) (Q2 : Int64 → (Nat → Nat → Int32) → Prop), (zff b l n (zi l2) v 1 = 0 → Q2 (Int32.toInt64 (A 67 (60 * 3 + v.toInt.toNat))) (zp J 44 0 0)) → (zff b l n (zi l2) v 1 ≠ 0 → Q2 (-9223372036854775808) (zp (zp J 44 0 0) 44 0 (zi (zff b l n (zi l2) v 1)))) → W_X8_cell_r44 Ln J A (zi (3 : Nat)) v (zi l2) Q2 := by
      intro J Q2 k0 k1
      unfold W_X8_cell_r44
      rintro J1 rfl
      have h53 : (b = true → zi l2 = zi l) → J_X8_cell_r44_53 Ln (zp J 44 0 0) A (zi (3 : Nat)) v (zi l2) Q2 := by
        intro hb
        have e1 := zff_1 (n0 := n) (i := v) hb
        rw [e1] at k0 k1
        have hf := zfn_c (b := b) (n0 := n) (i := v)
        unfold J_X8_cell_r44_53
        refine K_noCell (by decide) h1 h4 ⟨fun c => ?_, fun c => K_noCell (by decide) h1 h4 ?_⟩
        · rw [show (0 : Int32) = zi 0 from rfl, zi_le (by omega) (by omega) (by omega) (by omega)] at c
          have hz : zfn b n v = 0 := by omega
          obtain ⟨hb2, hi⟩ := zfn_0 hz
          obtain ⟨i, hi2, rfl⟩ := zasn hi
          have h6 := k0 hz
          rw [zi_toInt (by omega) (by omega), Int.toNat_natCast] at h6
          rw [show (60 : Int32) * zi (3 : Nat) + zi i = zi ((60 * 3 + i : Nat) : Int) from by rw [zq60, zi_mul, zi_add]; rfl, zi_nat' (by omega)]
          exact ⟨zin_n (by omega) (by decide), h6⟩
        · rw [show (0 : Int32) = zi 0 from rfl, zi_le (by omega) (by omega) (by omega) (by omega)] at c
          unfold W_X8_failedLong_r44 W_X8_lost
          rintro J2 rfl
          exact k1 (by omega)
      refine K_noSheet_y (by decide) ⟨fun c => absurd rfl c, fun _ => K_lane_y hl2 ⟨fun _ => ⟨by decide, fun c => h53 (fun hb => ?_), fun c => ⟨by decide, fun c2 => h53 (fun hb => ?_), fun c2 => ?_⟩⟩, fun c => absurd (show (1 : Int32) ≠ 0 by decide) c⟩⟩
      · rw [zi_nat' (show 3 < 2147483648 by decide), h4, if_pos hb] at c; exact absurd c (by rw [zq0, zi_lt (by omega) (by omega) (by omega) (by omega)]; omega)
      · rw [zi_nat' (show 3 < 2147483648 by decide), (h5 hb).2.2.1] at c2; exact c2.symm
      · rw [zi_nat' (show 3 < 2147483648 by decide)] at c c2
        cases b with
        | false => rw [h4] at c; exact absurd (show zi (-1) < 0 by decide) c
        | true =>
          rw [(h5 rfl).2.2.1] at c2
          unfold W_X8_failedLong_r44 W_X8_lost
          rintro J2 rfl
          have hz : zff true l n (zi l2) v 1 = 2 := by unfold zff; rw [if_neg (by decide), if_neg (fun q => c2 q.symm)]
          rw [hz] at k1
          exact k1 (by decide)
    have hfl := zff_le b l n (zi l2) v 1
    refine ⟨fun c I5 hI5 => hq _ _ (fun Q2 h2 => hK _ _ (fun hz => ?_) (fun hz => ?_)), fun c I6 hI6 => ?_⟩
    · rw [hz] at c; exact absurd (by decide) c
    · refine h2 _ ⟨D, E, hv.tf (fun o k hk => ?_) ?_ ?_⟩
      · rw [zpT rfl hk, zpT rfl hk, hI5, zpT rfl hk, hI1, zpT rfl hk]
      · rw [hI5, hI1]; exact hv.tr.1
      · rw [zp_eq, zp_ne (by decide), zp_ne (by decide), hI5, zp_eq]
    · have hz : zff b l n (zi l2) v 1 = 0 := by
        rw [ne_eq, Decidable.not_not, show (0 : Int32) = zi 0 from rfl, zi_inj (by omega) (by omega) (by omega) (by omega)] at c; exact c
      obtain ⟨hb, _, _, hi, hi2⟩ := zff_0 hz
      rw [show (1 : Int32).toInt = 1 from rfl] at hi2
      obtain ⟨i, hi3, rfl⟩ := zasn (v := v) (n := n) ⟨hi, by omega⟩
      refine ⟨zin_n (by omega) (by decide), hq _ _ (fun Q2 h2 => hK _ _ (fun _ => ?_) (fun hz2 => absurd hz hz2))⟩
      rw [zi_toInt (by omega) (by omega), Int.toNat_natCast]
      rw [zi_nat' (by omega), (h5 hb).2.2.2 i hi3] at h2
      refine h2 _ ⟨D, E, hv.tf (fun o k hk => ?_) ?_ ?_⟩
      · rw [zpT rfl hk, hI6, zpT rfl hk, hI1, zpT rfl hk]
      · rw [hI6, hI1]; exact hv.tr.1
      · rw [zp_eq, zp_ne (by decide), hI6, zp_eq, hz]; rfl
  · refine C_isLane_n hl ⟨fun c => absurd rfl c, fun _ => hq _ _ (fun Q2 h2 => ?_)⟩
    unfold W_X8_cell_r44 J_X8_cell_r44_24 W_X8_lost
    rintro J1 rfl
    subst hI1
    exact K_noSheet_y (by decide) ⟨fun c => absurd rfl c, fun _ => K_lane_n hl ⟨fun c => absurd rfl c, fun _ => h2 _ ⟨D, E, hv.ft 0⟩⟩⟩
