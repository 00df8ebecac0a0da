/-! the class's nights gone through -/
def zen (x : Nat) : Int := if x = 99 then -9 else x
def VY (D : Nat → Nat → Nat) (co : Nat → Int) (ro : Nat → Nat) (a b s o : Nat) (A : Nat → Nat → Int32) : Prop := (∀ t, t < dn D → A a t = zi (zen ((zrun D co ro 60).1 t))) ∧ ∀ d, d < 60 → A b d = zi (zrwr D co ro d (zrun D co ro d)) ∧ A s d = zm (zsit D co ro d (zrun D co ro d)) ∧ A o d = zm (zovr D (zrun D co ro (d + 1)).1)
theorem zm_wt (D : Nat → Nat → Nat) (d : Nat) (σ : ZS) : zm (zcame D d) &&& (zm (zovr D σ.1) ^^^ (-1)) = zm (zwt D d σ) := by rw [zm_andnot]; rfl
theorem zm_znone {p : Nat → Bool} : zm p = 0 ↔ znone p = true := by rw [zm_eq0, znone_iff]
theorem zpoor_lt {D : Nat → Nat → Nat} {co : Nat → Int} {ro : Nat → Nat} {d : Nat} {σ : ZS} {p : Nat} (h : zpoor D co ro d σ = some p) : p < dn D := (zwt_lt (zpoor_sub h).1).1
theorem zrun_s (D : Nat → Nat → Nat) (co : Nat → Int) (ro : Nat → Nat) (d : Nat) : zrun D co ro (d + 1) = zni D co ro d (zrun D co ro d) := rfl
theorem C_night_28_42 {Ln : Nat} {D : Nat → Nat → Nat} {co : Nat → Int} {I A : Nat → Nat → Int32} {ro : Nat → Nat} {v2 : Int32} {d : Nat} {Q : (Nat → Nat → Int32) → Prop} {K : Int32 × Int32 × (Nat → Nat → Int32) → Prop} (hd : BD D) (hb : CB D I A) (hr : ∀ i, i < dn D → A 33 i = zi (ro i) ∧ ro i < dn D) (hd6 : d < 60) {σ : ZS} (hok : zok σ d) (h29 : ∀ t, t < dn D → A 29 t = zi (zen (σ.1 t))) (h34 : ∀ t, t < dn D → A 34 t = zi (σ.2 t))
    (hk : ∀ A', (∀ x, (x < 29 ∨ 34 < x) → A' x = A x) → A' 33 = A 33 → (∀ t, t < dn D → A' 29 t = zi (zen ((zni D co ro d σ).1 t))) → (∀ t, t < dn D → A' 34 t = zi ((zni D co ro d σ).2 t)) → (∀ j, j ≠ d → A' 30 j = A 30 j ∧ A' 31 j = A 31 j ∧ A' 32 j = A 32 j) → A' 30 d = zi (zrwr D co ro d σ) → A' 31 d = zm (zsit D co ro d σ) → A' 32 d = zm (zovr D (zni D co ro d σ).1) → K (zm (zovr D (zni D co ro d σ).1), zi ((d + 1 : Nat) : Int), A')) :
    L_X6_goThrough_r28_r42_38 Ln I v2 (zm (zpay D co)) Q (zm (zovr D σ.1), zi d, A) K := by
  have hn := hd.1
  simp only [L_X6_goThrough_r28_r42_38]
  rw [zi_nat' (show d < 2147483648 by omega), hb.2.2.2.2.2.1 d hd6, zm_wt]
  have hz : zin (zi d) 60 = true := zin_n hd6 (by decide)
  refine ⟨fun c => absurd c (by rw [zq60, zi_le (by omega) (by omega) (by omega) (by omega)]; omega), fun _ => ⟨hz, hz, hz, fun c => ⟨hz, ?_⟩, fun c => ?_⟩⟩
  · have e : znone (zwt D d σ) = true := zm_znone.mp c
    have e1 : zni D co ro d σ = σ := by unfold zni; rw [if_pos e]
    have e2 : zrwr D co ro d σ = -9 := by unfold zrwr; rw [if_pos e]
    have e3 : zsit D co ro d σ = fun _ => false := by funext t; unfold zsit; rw [if_pos e]
    rw [zi_succ]
    rw [e1, e2, e3] at hk
    refine hk _ ?_ ?_ ?_ ?_ ?_ ?_ ?_ ?_
    · intro x hx; rw [zw_ne (by omega), zw_ne (by omega), zw_ne (by omega)]
    · rw [zw_ne (by decide), zw_ne (by decide), zw_ne (by decide)]
    · intro t ht; rw [zw_ne (by decide), zw_ne (by decide), zw_ne (by decide)]; exact h29 t ht
    · intro t ht; rw [zw_ne (by decide), zw_ne (by decide), zw_ne (by decide)]; exact h34 t ht
    · intro j hj
      refine ⟨?_, ?_, ?_⟩
      · rw [zw_ne (by decide), zw_ne (by decide), zw_at, if_neg hj]
      · rw [zw_ne (by decide), zw_at, if_neg hj, zw_ne (by decide)]
      · rw [zw_at, if_neg hj, zw_ne (by decide), zw_ne (by decide)]
    · rw [zw_ne (by decide), zw_ne (by decide), zw_at, if_pos rfl]; exact zqm9
    · rw [zw_ne (by decide), zw_at, if_pos rfl]; exact zm_none
    · rw [zw_at, if_pos rfl]
  · have e : znone (zwt D d σ) = false := by
      cases h : znone (zwt D d σ) with
      | false => rfl
      | true => exact absurd (zm_znone.mpr h) c
    rintro _ rfl A6 hA6
    rw [zm_andnot, zm_and]
    have f6 : ∀ x, x ≠ 30 → x ≠ 31 → A6 x = A x := fun x h1 h2 => by rw [hA6, zw_ne h2, zw_ne h1]
    have hb6 : CB D I A6 := hb.fr (fun a h1 h2 => f6 a (by omega) (by omega))
    refine C_firstOf_28 hd hb6 (ro := ro) (fun i hi => by rw [f6 33 (by decide) (by decide)]; exact hr i hi) ⟨hz, ?_⟩
    intro A8 hA8
    have f8 : ∀ x, x ≠ 30 → x ≠ 31 → A8 x = A x := fun x h1 h2 => by rw [hA8, zw_ne h1, f6 x h1 h2]
    have hb8 : CB D I A8 := hb.fr (fun a h1 h2 => f8 a (by omega) (by omega))
    have g8 : A8 30 d = zi (zfd (zpoor D co ro d σ)) := by rw [hA8, zw_at, if_pos rfl]; rfl
    have g8b : ∀ j, j ≠ d → A8 30 j = A 30 j := fun j hj => by rw [hA8, zw_at, if_neg hj, hA6, zw_ne (by decide), zw_at, if_neg hj]
    have g8s : ∀ j, j ≠ d → A8 31 j = A 31 j := fun j hj => by rw [hA8, zw_ne (by decide), hA6, zw_at, if_neg hj, zw_ne (by decide)]
    refine C_seat_28 hd hb8 (ro := ro) (fun i hi => by rw [f8 33 (by decide) (by decide)]; exact hr i hi) ⟨hz, hz, hz, ?_⟩
    rw [g8]
    -- what is left, whoever is freed
    have hrest : ∀ (fb : Nat → Bool) (rw' : Nat → Nat) (A11 : Nat → Nat → Int32), (∀ s, zfb D co ro d σ s = fb s) → (∀ t, (zni D co ro d σ).2 t = rw' t) → (∀ x, x ≠ 34 → A11 x = zw A8 31 d (zm (zse ro (zfit D) (fun s => zwt D d σ s && zpay D co s) (dn D) 0 (fun _ => false))) x) → (∀ t, t < dn D → A11 34 t = zi (rw' t)) →
        (∀ x12 : Int32, x12 = (zw A8 31 d (zm (zse ro (zfit D) (fun s => zwt D d σ s && zpay D co s) (dn D) 0 (fun _ => false))) 31) d → W_X6_note_r28 Ln I A11 (zm (zwt D d σ) &&& (zm (zovr D σ.1) ||| (x12 ||| zm fb))) (zi d) (fun A13 => zin (zi d) 60 = true ∧ K (zm (zovr D σ.1) ||| (x12 ||| zm fb), zi d + 1, zw A13 32 d (zm (zovr D σ.1) ||| (x12 ||| zm fb))))) := by
      intro fb rw' A11 hfb hrw f11 g11
      rw [zw_at, if_pos rfl]
      rintro _ rfl
      have eo : zm (zovr D σ.1) ||| (zm (zse ro (zfit D) (fun s => zwt D d σ s && zpay D co s) (dn D) 0 (fun _ => false)) ||| zm fb) = zm (zovr D (zni D co ro d σ).1) := by
        rw [zm_or, zm_or]
        refine zm_congr (fun s _ => ?_)
        rw [zni_over hd6 hok e, hfb]; rfl
      rw [eo, zm_and, zi_succ]
      have hb11 : CB D I A11 := hb.fr (fun a h1 h2 => by rw [f11 a (by omega), zw_ne (by omega), f8 a (by omega) (by omega)])
      refine C_note_28 hd hb11 (fun A13 f13 g13 => ⟨hz, ?_⟩)
      refine hk _ ?_ ?_ ?_ ?_ ?_ ?_ ?_ ?_
      · intro x hx; rw [zw_ne (by omega), f13 x (by omega), f11 x (by omega), zw_ne (by omega), f8 x (by omega) (by omega)]
      · rw [zw_ne (by decide), f13 33 (by decide), f11 33 (by decide), zw_ne (by decide), f8 33 (by decide) (by decide)]
      · intro t ht
        rw [zw_ne (by decide), g13 t ht, zni_on hd6 hok e, f11 29 (by decide), zw_ne (by decide), f8 29 (by decide) (by decide)]
        split
        · unfold zen; rw [if_neg (by omega)]
        · exact h29 t ht
      · intro t ht
        rw [zw_ne (by decide), f13 34 (by decide), g11 t ht, hrw]
      · intro j hj
        refine ⟨?_, ?_, ?_⟩
        · rw [zw_ne (by decide), f13 30 (by decide), f11 30 (by decide), zw_ne (by decide), g8b j hj]
        · rw [zw_ne (by decide), f13 31 (by decide), f11 31 (by decide), zw_at, if_neg hj, g8s j hj]
        · rw [zw_at, if_neg hj, f13 32 (by decide), f11 32 (by decide), zw_ne (by decide), f8 32 (by decide) (by decide)]
      · rw [zw_ne (by decide), f13 30 (by decide), f11 30 (by decide), zw_ne (by decide), g8]
        unfold zrwr; rw [e]; simp only [Bool.false_eq_true, if_false]
        cases zpoor D co ro d σ <;> rfl
      · rw [zw_ne (by decide), f13 31 (by decide), f11 31 (by decide), zw_at, if_pos rfl]
        refine zm_congr (fun t _ => ?_)
        unfold zsit; rw [e]; simp only [Bool.false_eq_true, if_false]; rfl
      · rw [zw_at, if_pos rfl]
    cases hp : zpoor D co ro d σ with
    | none =>
      refine C_freed_no_28 ?_
      rw [show (0 : Int32) = zm (fun _ => false) from zm_none]
      refine hrest (fun _ => false) σ.2 _ (fun s => by unfold zfb; rw [hp]) (fun t => by unfold zni; rw [e]; simp only [Bool.false_eq_true, if_false]; rw [hp]) (fun x hx => rfl) (fun t ht => ?_)
      rw [zw_ne (by decide), f8 34 (by decide) (by decide)]; exact h34 t ht
    | some p =>
      have hpl := zpoor_lt hp
      have hb9 : CB D I (zw A8 31 d (zm (zse ro (zfit D) (fun s => zwt D d σ s && zpay D co s) (dn D) 0 (fun _ => false)))) := hb.fr (fun a h1 h2 => by rw [zw_ne (by omega), f8 a (by omega) (by omega)])
      have hrw : ∀ t, (zni D co ro d σ).2 t = if t = p then σ.2 p + 1 else σ.2 t := fun t => by unfold zni; rw [e]; simp only [Bool.false_eq_true, if_false]; rw [hp]
      have hok2 := (hok p).2
      have g34 : ∀ t, t < dn D → zw (zw A8 31 d (zm (zse ro (zfit D) (fun s => zwt D d σ s && zpay D co s) (dn D) 0 (fun _ => false)))) 34 p (zi ((σ.2 p + 1 : Nat) : Int)) 34 t = zi ((if t = p then σ.2 p + 1 else σ.2 t : Nat) : Int) := by
        intro t ht
        rw [zw_at]
        split
        · rfl
        · rw [zw_ne (by decide), f8 34 (by decide) (by decide)]; exact h34 t ht
      refine C_freed_28 hd hb9 hpl (by rw [zw_ne (by decide), f8 34 (by decide) (by decide)]; exact h34 p hpl) (by omega) (fun hf => ?_) (fun hf => ?_)
      · rw [zm_one (by omega)]
        exact hrest (fun s => s == p) _ _ (fun s => by unfold zfb; rw [hp]; simp only [show (σ.2 p + 1 == dro D) = true from beq_iff_eq.mpr hf, Bool.and_true]) hrw (fun x hx => zw_ne hx) g34
      · rw [show (0 : Int32) = zm (fun _ => false) from zm_none]
        exact hrest (fun _ => false) _ _ (fun s => by unfold zfb; rw [hp]; simp only [show (σ.2 p + 1 == dro D) = false from beq_eq_false_iff_ne.mpr hf, Bool.and_false]) hrw (fun x hx => zw_ne hx) g34
theorem C_goThrough_28_42 {Ln : Nat} {D : Nat → Nat → Nat} {co : Nat → Int} {lw : Nat} {I A : Nat → Nat → Int32} {Q : (Nat → Nat → Int32) → Prop} (hd : BD D) (hco : CD co) (hb : CB D I A) (hc : CC D co 42 A) (hl : lw < 3) (hq : ∀ A' ro, (∀ x, (x < 29 ∨ 34 < x) → A' x = A x) → zSo (dn D) (zrk D co lw) ro → VY D co ro 29 30 31 32 A' → Q A') : W_X6_goThrough_r28_r42 Ln I A (zi lw) Q := by
  have hn := hd.1
  unfold W_X6_goThrough_r28_r42
  refine C_lineUp_28_42 hd hco hb hc hl (fun A1 ro f1 hro g1 => C_fill_29 (fun A2 f2 g2 => C_fill_34 (fun A3 f3 g3 => ?_)))
  have f0 : ∀ x, (x < 29 ∨ 34 < x) → A3 x = A x := fun x hx => by rw [f3 x (by omega), f2 x (by omega), f1 x (by omega)]
  have hb3 : CB D I A3 := hb.fr (fun a h1 h2 => f0 a (by omega))
  have hc3 : CC D co 42 A3 := fun s hs => by rw [f0 42 (by decide)]; exact hc s hs
  refine C_whoPays_42 hd hco hb3 hc3 ?_
  have hr3 : ∀ i, i < dn D → A3 33 i = zi (ro i) ∧ ro i < dn D := fun i hi => ⟨by rw [f3 33 (by decide), f2 33 (by decide)]; exact g1 i hi, hro.1 i hi⟩
  refine zLoop.inv (fun d σ => σ.2.1 = zi d ∧ σ.1 = zm (zovr D (zrun D co ro d).1) ∧ (∀ x, (x < 29 ∨ 34 < x) → σ.2.2 x = A x) ∧ σ.2.2 33 = A3 33 ∧ (∀ t, t < dn D → σ.2.2 29 t = zi (zen ((zrun D co ro d).1 t))) ∧ (∀ t, t < dn D → σ.2.2 34 t = zi ((zrun D co ro d).2 t)) ∧ ∀ j, j < d → σ.2.2 30 j = zi (zrwr D co ro j (zrun D co ro j)) ∧ σ.2.2 31 j = zm (zsit D co ro j (zrun D co ro j)) ∧ σ.2.2 32 j = zm (zovr D (zrun D co ro (j + 1)).1)) 60 ⟨rfl, ?_, f0, rfl, ?_, ?_, fun j hj => by omega⟩ ?_ ?_
  · rw [zm_none]; exact zm_congr (fun s _ => by simp [zovr, zrun])
  · intro t ht
    dsimp only
    rw [f3 29 (by decide), g2 t (by omega)]; exact zqm9
  · intro t ht
    dsimp only
    rw [g3 t (by omega)]; rfl
  · rintro d ⟨v4, v5, A4⟩ hd6 ⟨h5, h4, hf, hff, h29, h34, hj⟩ K hk
    simp only at h5 h4 hf hff h29 h34 hj
    subst h5; subst h4
    refine C_night_28_42 hd (hb.fr (fun a h1 h2 => hf a (by omega))) (fun i hi => by rw [hff]; exact hr3 i hi) hd6 (zrun_ok D co ro d) h29 h34 (fun A' k1 k2 k3 k4 k5 k6 k7 k8 => ?_)
    refine hk _ ⟨rfl, rfl, fun x hx => (k1 x hx).trans (hf x hx), k2.trans hff, k3, k4, fun j hj2 => ?_⟩
    dsimp only
    by_cases e : j = d
    · subst e; exact ⟨k6, k7, k8⟩
    · obtain ⟨q1, q2, q3⟩ := k5 j e
      rw [q1, q2, q3]; exact hj j (by omega)
  · rintro ⟨v4, v5, A4⟩ ⟨h5, h4, hf, hff, h29, h34, hj⟩ K
    simp only at h5 h4 hf hff h29 h34 hj
    subst h5; subst h4
    simp only [L_X6_goThrough_r28_r42_38]
    exact ⟨fun _ => hq A4 ro hf hro ⟨h29, hj⟩, fun c => absurd (by decide) c⟩
theorem C_night_35_42 {Ln : Nat} {D : Nat → Nat → Nat} {co : Nat → Int} {I A : Nat → Nat → Int32} {ro : Nat → Nat} {v2 : Int32} {d : Nat} {Q : (Nat → Nat → Int32) → Prop} {K : Int32 × Int32 × (Nat → Nat → Int32) → Prop} (hd : BD D) (hb : CB D I A) (hr : ∀ i, i < dn D → A 40 i = zi (ro i) ∧ ro i < dn D) (hd6 : d < 60) {σ : ZS} (hok : zok σ d) (h29 : ∀ t, t < dn D → A 36 t = zi (zen (σ.1 t))) (h34 : ∀ t, t < dn D → A 41 t = zi (σ.2 t))
    (hk : ∀ A', (∀ x, (x < 36 ∨ 41 < x) → A' x = A x) → A' 40 = A 40 → (∀ t, t < dn D → A' 36 t = zi (zen ((zni D co ro d σ).1 t))) → (∀ t, t < dn D → A' 41 t = zi ((zni D co ro d σ).2 t)) → (∀ j, j ≠ d → A' 37 j = A 37 j ∧ A' 38 j = A 38 j ∧ A' 39 j = A 39 j) → A' 37 d = zi (zrwr D co ro d σ) → A' 38 d = zm (zsit D co ro d σ) → A' 39 d = zm (zovr D (zni D co ro d σ).1) → K (zm (zovr D (zni D co ro d σ).1), zi ((d + 1 : Nat) : Int), A')) :
    L_X6_goThrough_r35_r42_38 Ln I v2 (zm (zpay D co)) Q (zm (zovr D σ.1), zi d, A) K := by
  have hn := hd.1
  simp only [L_X6_goThrough_r35_r42_38]
  rw [zi_nat' (show d < 2147483648 by omega), hb.2.2.2.2.2.1 d hd6, zm_wt]
  have hz : zin (zi d) 60 = true := zin_n hd6 (by decide)
  refine ⟨fun c => absurd c (by rw [zq60, zi_le (by omega) (by omega) (by omega) (by omega)]; omega), fun _ => ⟨hz, hz, hz, fun c => ⟨hz, ?_⟩, fun c => ?_⟩⟩
  · have e : znone (zwt D d σ) = true := zm_znone.mp c
    have e1 : zni D co ro d σ = σ := by unfold zni; rw [if_pos e]
    have e2 : zrwr D co ro d σ = -9 := by unfold zrwr; rw [if_pos e]
    have e3 : zsit D co ro d σ = fun _ => false := by funext t; unfold zsit; rw [if_pos e]
    rw [zi_succ]
    rw [e1, e2, e3] at hk
    refine hk _ ?_ ?_ ?_ ?_ ?_ ?_ ?_ ?_
    · intro x hx; rw [zw_ne (by omega), zw_ne (by omega), zw_ne (by omega)]
    · rw [zw_ne (by decide), zw_ne (by decide), zw_ne (by decide)]
    · intro t ht; rw [zw_ne (by decide), zw_ne (by decide), zw_ne (by decide)]; exact h29 t ht
    · intro t ht; rw [zw_ne (by decide), zw_ne (by decide), zw_ne (by decide)]; exact h34 t ht
    · intro j hj
      refine ⟨?_, ?_, ?_⟩
      · rw [zw_ne (by decide), zw_ne (by decide), zw_at, if_neg hj]
      · rw [zw_ne (by decide), zw_at, if_neg hj, zw_ne (by decide)]
      · rw [zw_at, if_neg hj, zw_ne (by decide), zw_ne (by decide)]
    · rw [zw_ne (by decide), zw_ne (by decide), zw_at, if_pos rfl]; exact zqm9
    · rw [zw_ne (by decide), zw_at, if_pos rfl]; exact zm_none
    · rw [zw_at, if_pos rfl]
  · have e : znone (zwt D d σ) = false := by
      cases h : znone (zwt D d σ) with
      | false => rfl
      | true => exact absurd (zm_znone.mpr h) c
    rintro _ rfl A6 hA6
    rw [zm_andnot, zm_and]
    have f6 : ∀ x, x ≠ 37 → x ≠ 38 → A6 x = A x := fun x h1 h2 => by rw [hA6, zw_ne h2, zw_ne h1]
    have hb6 : CB D I A6 := hb.fr (fun a h1 h2 => f6 a (by omega) (by omega))
    refine C_firstOf_35 hd hb6 (ro := ro) (fun i hi => by rw [f6 40 (by decide) (by decide)]; exact hr i hi) ⟨hz, ?_⟩
    intro A8 hA8
    have f8 : ∀ x, x ≠ 37 → x ≠ 38 → A8 x = A x := fun x h1 h2 => by rw [hA8, zw_ne h1, f6 x h1 h2]
    have hb8 : CB D I A8 := hb.fr (fun a h1 h2 => f8 a (by omega) (by omega))
    have g8 : A8 37 d = zi (zfd (zpoor D co ro d σ)) := by rw [hA8, zw_at, if_pos rfl]; rfl
    have g8b : ∀ j, j ≠ d → A8 37 j = A 37 j := fun j hj => by rw [hA8, zw_at, if_neg hj, hA6, zw_ne (by decide), zw_at, if_neg hj]
    have g8s : ∀ j, j ≠ d → A8 38 j = A 38 j := fun j hj => by rw [hA8, zw_ne (by decide), hA6, zw_at, if_neg hj, zw_ne (by decide)]
    refine C_seat_35 hd hb8 (ro := ro) (fun i hi => by rw [f8 40 (by decide) (by decide)]; exact hr i hi) ⟨hz, hz, hz, ?_⟩
    rw [g8]
    -- what is left, whoever is freed
    have hrest : ∀ (fb : Nat → Bool) (rw' : Nat → Nat) (A11 : Nat → Nat → Int32), (∀ s, zfb D co ro d σ s = fb s) → (∀ t, (zni D co ro d σ).2 t = rw' t) → (∀ x, x ≠ 41 → A11 x = zw A8 38 d (zm (zse ro (zfit D) (fun s => zwt D d σ s && zpay D co s) (dn D) 0 (fun _ => false))) x) → (∀ t, t < dn D → A11 41 t = zi (rw' t)) →
        (∀ x12 : Int32, x12 = (zw A8 38 d (zm (zse ro (zfit D) (fun s => zwt D d σ s && zpay D co s) (dn D) 0 (fun _ => false))) 38) d → W_X6_note_r35 Ln I A11 (zm (zwt D d σ) &&& (zm (zovr D σ.1) ||| (x12 ||| zm fb))) (zi d) (fun A13 => zin (zi d) 60 = true ∧ K (zm (zovr D σ.1) ||| (x12 ||| zm fb), zi d + 1, zw A13 39 d (zm (zovr D σ.1) ||| (x12 ||| zm fb))))) := by
      intro fb rw' A11 hfb hrw f11 g11
      rw [zw_at, if_pos rfl]
      rintro _ rfl
      have eo : zm (zovr D σ.1) ||| (zm (zse ro (zfit D) (fun s => zwt D d σ s && zpay D co s) (dn D) 0 (fun _ => false)) ||| zm fb) = zm (zovr D (zni D co ro d σ).1) := by
        rw [zm_or, zm_or]
        refine zm_congr (fun s _ => ?_)
        rw [zni_over hd6 hok e, hfb]; rfl
      rw [eo, zm_and, zi_succ]
      have hb11 : CB D I A11 := hb.fr (fun a h1 h2 => by rw [f11 a (by omega), zw_ne (by omega), f8 a (by omega) (by omega)])
      refine C_note_35 hd hb11 (fun A13 f13 g13 => ⟨hz, ?_⟩)
      refine hk _ ?_ ?_ ?_ ?_ ?_ ?_ ?_ ?_
      · intro x hx; rw [zw_ne (by omega), f13 x (by omega), f11 x (by omega), zw_ne (by omega), f8 x (by omega) (by omega)]
      · rw [zw_ne (by decide), f13 40 (by decide), f11 40 (by decide), zw_ne (by decide), f8 40 (by decide) (by decide)]
      · intro t ht
        rw [zw_ne (by decide), g13 t ht, zni_on hd6 hok e, f11 36 (by decide), zw_ne (by decide), f8 36 (by decide) (by decide)]
        split
        · unfold zen; rw [if_neg (by omega)]
        · exact h29 t ht
      · intro t ht
        rw [zw_ne (by decide), f13 41 (by decide), g11 t ht, hrw]
      · intro j hj
        refine ⟨?_, ?_, ?_⟩
        · rw [zw_ne (by decide), f13 37 (by decide), f11 37 (by decide), zw_ne (by decide), g8b j hj]
        · rw [zw_ne (by decide), f13 38 (by decide), f11 38 (by decide), zw_at, if_neg hj, g8s j hj]
        · rw [zw_at, if_neg hj, f13 39 (by decide), f11 39 (by decide), zw_ne (by decide), f8 39 (by decide) (by decide)]
      · rw [zw_ne (by decide), f13 37 (by decide), f11 37 (by decide), zw_ne (by decide), g8]
        unfold zrwr; rw [e]; simp only [Bool.false_eq_true, if_false]
        cases zpoor D co ro d σ <;> rfl
      · rw [zw_ne (by decide), f13 38 (by decide), f11 38 (by decide), zw_at, if_pos rfl]
        refine zm_congr (fun t _ => ?_)
        unfold zsit; rw [e]; simp only [Bool.false_eq_true, if_false]; rfl
      · rw [zw_at, if_pos rfl]
    cases hp : zpoor D co ro d σ with
    | none =>
      refine C_freed_no_35 ?_
      rw [show (0 : Int32) = zm (fun _ => false) from zm_none]
      refine hrest (fun _ => false) σ.2 _ (fun s => by unfold zfb; rw [hp]) (fun t => by unfold zni; rw [e]; simp only [Bool.false_eq_true, if_false]; rw [hp]) (fun x hx => rfl) (fun t ht => ?_)
      rw [zw_ne (by decide), f8 41 (by decide) (by decide)]; exact h34 t ht
    | some p =>
      have hpl := zpoor_lt hp
      have hb9 : CB D I (zw A8 38 d (zm (zse ro (zfit D) (fun s => zwt D d σ s && zpay D co s) (dn D) 0 (fun _ => false)))) := hb.fr (fun a h1 h2 => by rw [zw_ne (by omega), f8 a (by omega) (by omega)])
      have hrw : ∀ t, (zni D co ro d σ).2 t = if t = p then σ.2 p + 1 else σ.2 t := fun t => by unfold zni; rw [e]; simp only [Bool.false_eq_true, if_false]; rw [hp]
      have hok2 := (hok p).2
      have g34 : ∀ t, t < dn D → zw (zw A8 38 d (zm (zse ro (zfit D) (fun s => zwt D d σ s && zpay D co s) (dn D) 0 (fun _ => false)))) 41 p (zi ((σ.2 p + 1 : Nat) : Int)) 41 t = zi ((if t = p then σ.2 p + 1 else σ.2 t : Nat) : Int) := by
        intro t ht
        rw [zw_at]
        split
        · rfl
        · rw [zw_ne (by decide), f8 41 (by decide) (by decide)]; exact h34 t ht
      refine C_freed_35 hd hb9 hpl (by rw [zw_ne (by decide), f8 41 (by decide) (by decide)]; exact h34 p hpl) (by omega) (fun hf => ?_) (fun hf => ?_)
      · rw [zm_one (by omega)]
        exact hrest (fun s => s == p) _ _ (fun s => by unfold zfb; rw [hp]; simp only [show (σ.2 p + 1 == dro D) = true from beq_iff_eq.mpr hf, Bool.and_true]) hrw (fun x hx => zw_ne hx) g34
      · rw [show (0 : Int32) = zm (fun _ => false) from zm_none]
        exact hrest (fun _ => false) _ _ (fun s => by unfold zfb; rw [hp]; simp only [show (σ.2 p + 1 == dro D) = false from beq_eq_false_iff_ne.mpr hf, Bool.and_false]) hrw (fun x hx => zw_ne hx) g34
theorem C_goThrough_35_42 {Ln : Nat} {D : Nat → Nat → Nat} {co : Nat → Int} {lw : Nat} {I A : Nat → Nat → Int32} {Q : (Nat → Nat → Int32) → Prop} (hd : BD D) (hco : CD co) (hb : CB D I A) (hc : CC D co 42 A) (hl : lw < 3) (hq : ∀ A' ro, (∀ x, (x < 36 ∨ 41 < x) → A' x = A x) → zSo (dn D) (zrk D co lw) ro → VY D co ro 36 37 38 39 A' → Q A') : W_X6_goThrough_r35_r42 Ln I A (zi lw) Q := by
  have hn := hd.1
  unfold W_X6_goThrough_r35_r42
  refine C_lineUp_35_42 hd hco hb hc hl (fun A1 ro f1 hro g1 => C_fill_36 (fun A2 f2 g2 => C_fill_41 (fun A3 f3 g3 => ?_)))
  have f0 : ∀ x, (x < 36 ∨ 41 < x) → A3 x = A x := fun x hx => by rw [f3 x (by omega), f2 x (by omega), f1 x (by omega)]
  have hb3 : CB D I A3 := hb.fr (fun a h1 h2 => f0 a (by omega))
  have hc3 : CC D co 42 A3 := fun s hs => by rw [f0 42 (by decide)]; exact hc s hs
  refine C_whoPays_42 hd hco hb3 hc3 ?_
  have hr3 : ∀ i, i < dn D → A3 40 i = zi (ro i) ∧ ro i < dn D := fun i hi => ⟨by rw [f3 40 (by decide), f2 40 (by decide)]; exact g1 i hi, hro.1 i hi⟩
  refine zLoop.inv (fun d σ => σ.2.1 = zi d ∧ σ.1 = zm (zovr D (zrun D co ro d).1) ∧ (∀ x, (x < 36 ∨ 41 < x) → σ.2.2 x = A x) ∧ σ.2.2 40 = A3 40 ∧ (∀ t, t < dn D → σ.2.2 36 t = zi (zen ((zrun D co ro d).1 t))) ∧ (∀ t, t < dn D → σ.2.2 41 t = zi ((zrun D co ro d).2 t)) ∧ ∀ j, j < d → σ.2.2 37 j = zi (zrwr D co ro j (zrun D co ro j)) ∧ σ.2.2 38 j = zm (zsit D co ro j (zrun D co ro j)) ∧ σ.2.2 39 j = zm (zovr D (zrun D co ro (j + 1)).1)) 60 ⟨rfl, ?_, f0, rfl, ?_, ?_, fun j hj => by omega⟩ ?_ ?_
  · rw [zm_none]; exact zm_congr (fun s _ => by simp [zovr, zrun])
  · intro t ht
    dsimp only
    rw [f3 36 (by decide), g2 t (by omega)]; exact zqm9
  · intro t ht
    dsimp only
    rw [g3 t (by omega)]; rfl
  · rintro d ⟨v4, v5, A4⟩ hd6 ⟨h5, h4, hf, hff, h29, h34, hj⟩ K hk
    simp only at h5 h4 hf hff h29 h34 hj
    subst h5; subst h4
    refine C_night_35_42 hd (hb.fr (fun a h1 h2 => hf a (by omega))) (fun i hi => by rw [hff]; exact hr3 i hi) hd6 (zrun_ok D co ro d) h29 h34 (fun A' k1 k2 k3 k4 k5 k6 k7 k8 => ?_)
    refine hk _ ⟨rfl, rfl, fun x hx => (k1 x hx).trans (hf x hx), k2.trans hff, k3, k4, fun j hj2 => ?_⟩
    dsimp only
    by_cases e : j = d
    · subst e; exact ⟨k6, k7, k8⟩
    · obtain ⟨q1, q2, q3⟩ := k5 j e
      rw [q1, q2, q3]; exact hj j (by omega)
  · rintro ⟨v4, v5, A4⟩ ⟨h5, h4, hf, hff, h29, h34, hj⟩ K
    simp only at h5 h4 hf hff h29 h34 hj
    subst h5; subst h4
    simp only [L_X6_goThrough_r35_r42_38]
    exact ⟨fun _ => hq A4 ro hf hro ⟨h29, hj⟩, fun c => absurd (by decide) c⟩
theorem C_night_35_43 {Ln : Nat} {D : Nat → Nat → Nat} {co : Nat → Int} {I A : Nat → Nat → Int32} {ro : Nat → Nat} {v2 : Int32} {d : Nat} {Q : (Nat → Nat → Int32) → Prop} {K : Int32 × Int32 × (Nat → Nat → Int32) → Prop} (hd : BD D) (hb : CB D I A) (hr : ∀ i, i < dn D → A 40 i = zi (ro i) ∧ ro i < dn D) (hd6 : d < 60) {σ : ZS} (hok : zok σ d) (h29 : ∀ t, t < dn D → A 36 t = zi (zen (σ.1 t))) (h34 : ∀ t, t < dn D → A 41 t = zi (σ.2 t))
    (hk : ∀ A', (∀ x, (x < 36 ∨ 41 < x) → A' x = A x) → A' 40 = A 40 → (∀ t, t < dn D → A' 36 t = zi (zen ((zni D co ro d σ).1 t))) → (∀ t, t < dn D → A' 41 t = zi ((zni D co ro d σ).2 t)) → (∀ j, j ≠ d → A' 37 j = A 37 j ∧ A' 38 j = A 38 j ∧ A' 39 j = A 39 j) → A' 37 d = zi (zrwr D co ro d σ) → A' 38 d = zm (zsit D co ro d σ) → A' 39 d = zm (zovr D (zni D co ro d σ).1) → K (zm (zovr D (zni D co ro d σ).1), zi ((d + 1 : Nat) : Int), A')) :
    L_X6_goThrough_r35_r43_38 Ln I v2 (zm (zpay D co)) Q (zm (zovr D σ.1), zi d, A) K := by
  have hn := hd.1
  simp only [L_X6_goThrough_r35_r43_38]
  rw [zi_nat' (show d < 2147483648 by omega), hb.2.2.2.2.2.1 d hd6, zm_wt]
  have hz : zin (zi d) 60 = true := zin_n hd6 (by decide)
  refine ⟨fun c => absurd c (by rw [zq60, zi_le (by omega) (by omega) (by omega) (by omega)]; omega), fun _ => ⟨hz, hz, hz, fun c => ⟨hz, ?_⟩, fun c => ?_⟩⟩
  · have e : znone (zwt D d σ) = true := zm_znone.mp c
    have e1 : zni D co ro d σ = σ := by unfold zni; rw [if_pos e]
    have e2 : zrwr D co ro d σ = -9 := by unfold zrwr; rw [if_pos e]
    have e3 : zsit D co ro d σ = fun _ => false := by funext t; unfold zsit; rw [if_pos e]
    rw [zi_succ]
    rw [e1, e2, e3] at hk
    refine hk _ ?_ ?_ ?_ ?_ ?_ ?_ ?_ ?_
    · intro x hx; rw [zw_ne (by omega), zw_ne (by omega), zw_ne (by omega)]
    · rw [zw_ne (by decide), zw_ne (by decide), zw_ne (by decide)]
    · intro t ht; rw [zw_ne (by decide), zw_ne (by decide), zw_ne (by decide)]; exact h29 t ht
    · intro t ht; rw [zw_ne (by decide), zw_ne (by decide), zw_ne (by decide)]; exact h34 t ht
    · intro j hj
      refine ⟨?_, ?_, ?_⟩
      · rw [zw_ne (by decide), zw_ne (by decide), zw_at, if_neg hj]
      · rw [zw_ne (by decide), zw_at, if_neg hj, zw_ne (by decide)]
      · rw [zw_at, if_neg hj, zw_ne (by decide), zw_ne (by decide)]
    · rw [zw_ne (by decide), zw_ne (by decide), zw_at, if_pos rfl]; exact zqm9
    · rw [zw_ne (by decide), zw_at, if_pos rfl]; exact zm_none
    · rw [zw_at, if_pos rfl]
  · have e : znone (zwt D d σ) = false := by
      cases h : znone (zwt D d σ) with
      | false => rfl
      | true => exact absurd (zm_znone.mpr h) c
    rintro _ rfl A6 hA6
    rw [zm_andnot, zm_and]
    have f6 : ∀ x, x ≠ 37 → x ≠ 38 → A6 x = A x := fun x h1 h2 => by rw [hA6, zw_ne h2, zw_ne h1]
    have hb6 : CB D I A6 := hb.fr (fun a h1 h2 => f6 a (by omega) (by omega))
    refine C_firstOf_35 hd hb6 (ro := ro) (fun i hi => by rw [f6 40 (by decide) (by decide)]; exact hr i hi) ⟨hz, ?_⟩
    intro A8 hA8
    have f8 : ∀ x, x ≠ 37 → x ≠ 38 → A8 x = A x := fun x h1 h2 => by rw [hA8, zw_ne h1, f6 x h1 h2]
    have hb8 : CB D I A8 := hb.fr (fun a h1 h2 => f8 a (by omega) (by omega))
    have g8 : A8 37 d = zi (zfd (zpoor D co ro d σ)) := by rw [hA8, zw_at, if_pos rfl]; rfl
    have g8b : ∀ j, j ≠ d → A8 37 j = A 37 j := fun j hj => by rw [hA8, zw_at, if_neg hj, hA6, zw_ne (by decide), zw_at, if_neg hj]
    have g8s : ∀ j, j ≠ d → A8 38 j = A 38 j := fun j hj => by rw [hA8, zw_ne (by decide), hA6, zw_at, if_neg hj, zw_ne (by decide)]
    refine C_seat_35 hd hb8 (ro := ro) (fun i hi => by rw [f8 40 (by decide) (by decide)]; exact hr i hi) ⟨hz, hz, hz, ?_⟩
    rw [g8]
    -- what is left, whoever is freed
    have hrest : ∀ (fb : Nat → Bool) (rw' : Nat → Nat) (A11 : Nat → Nat → Int32), (∀ s, zfb D co ro d σ s = fb s) → (∀ t, (zni D co ro d σ).2 t = rw' t) → (∀ x, x ≠ 41 → A11 x = zw A8 38 d (zm (zse ro (zfit D) (fun s => zwt D d σ s && zpay D co s) (dn D) 0 (fun _ => false))) x) → (∀ t, t < dn D → A11 41 t = zi (rw' t)) →
        (∀ x12 : Int32, x12 = (zw A8 38 d (zm (zse ro (zfit D) (fun s => zwt D d σ s && zpay D co s) (dn D) 0 (fun _ => false))) 38) d → W_X6_note_r35 Ln I A11 (zm (zwt D d σ) &&& (zm (zovr D σ.1) ||| (x12 ||| zm fb))) (zi d) (fun A13 => zin (zi d) 60 = true ∧ K (zm (zovr D σ.1) ||| (x12 ||| zm fb), zi d + 1, zw A13 39 d (zm (zovr D σ.1) ||| (x12 ||| zm fb))))) := by
      intro fb rw' A11 hfb hrw f11 g11
      rw [zw_at, if_pos rfl]
      rintro _ rfl
      have eo : zm (zovr D σ.1) ||| (zm (zse ro (zfit D) (fun s => zwt D d σ s && zpay D co s) (dn D) 0 (fun _ => false)) ||| zm fb) = zm (zovr D (zni D co ro d σ).1) := by
        rw [zm_or, zm_or]
        refine zm_congr (fun s _ => ?_)
        rw [zni_over hd6 hok e, hfb]; rfl
      rw [eo, zm_and, zi_succ]
      have hb11 : CB D I A11 := hb.fr (fun a h1 h2 => by rw [f11 a (by omega), zw_ne (by omega), f8 a (by omega) (by omega)])
      refine C_note_35 hd hb11 (fun A13 f13 g13 => ⟨hz, ?_⟩)
      refine hk _ ?_ ?_ ?_ ?_ ?_ ?_ ?_ ?_
      · intro x hx; rw [zw_ne (by omega), f13 x (by omega), f11 x (by omega), zw_ne (by omega), f8 x (by omega) (by omega)]
      · rw [zw_ne (by decide), f13 40 (by decide), f11 40 (by decide), zw_ne (by decide), f8 40 (by decide) (by decide)]
      · intro t ht
        rw [zw_ne (by decide), g13 t ht, zni_on hd6 hok e, f11 36 (by decide), zw_ne (by decide), f8 36 (by decide) (by decide)]
        split
        · unfold zen; rw [if_neg (by omega)]
        · exact h29 t ht
      · intro t ht
        rw [zw_ne (by decide), f13 41 (by decide), g11 t ht, hrw]
      · intro j hj
        refine ⟨?_, ?_, ?_⟩
        · rw [zw_ne (by decide), f13 37 (by decide), f11 37 (by decide), zw_ne (by decide), g8b j hj]
        · rw [zw_ne (by decide), f13 38 (by decide), f11 38 (by decide), zw_at, if_neg hj, g8s j hj]
        · rw [zw_at, if_neg hj, f13 39 (by decide), f11 39 (by decide), zw_ne (by decide), f8 39 (by decide) (by decide)]
      · rw [zw_ne (by decide), f13 37 (by decide), f11 37 (by decide), zw_ne (by decide), g8]
        unfold zrwr; rw [e]; simp only [Bool.false_eq_true, if_false]
        cases zpoor D co ro d σ <;> rfl
      · rw [zw_ne (by decide), f13 38 (by decide), f11 38 (by decide), zw_at, if_pos rfl]
        refine zm_congr (fun t _ => ?_)
        unfold zsit; rw [e]; simp only [Bool.false_eq_true, if_false]; rfl
      · rw [zw_at, if_pos rfl]
    cases hp : zpoor D co ro d σ with
    | none =>
      refine C_freed_no_35 ?_
      rw [show (0 : Int32) = zm (fun _ => false) from zm_none]
      refine hrest (fun _ => false) σ.2 _ (fun s => by unfold zfb; rw [hp]) (fun t => by unfold zni; rw [e]; simp only [Bool.false_eq_true, if_false]; rw [hp]) (fun x hx => rfl) (fun t ht => ?_)
      rw [zw_ne (by decide), f8 41 (by decide) (by decide)]; exact h34 t ht
    | some p =>
      have hpl := zpoor_lt hp
      have hb9 : CB D I (zw A8 38 d (zm (zse ro (zfit D) (fun s => zwt D d σ s && zpay D co s) (dn D) 0 (fun _ => false)))) := hb.fr (fun a h1 h2 => by rw [zw_ne (by omega), f8 a (by omega) (by omega)])
      have hrw : ∀ t, (zni D co ro d σ).2 t = if t = p then σ.2 p + 1 else σ.2 t := fun t => by unfold zni; rw [e]; simp only [Bool.false_eq_true, if_false]; rw [hp]
      have hok2 := (hok p).2
      have g34 : ∀ t, t < dn D → zw (zw A8 38 d (zm (zse ro (zfit D) (fun s => zwt D d σ s && zpay D co s) (dn D) 0 (fun _ => false)))) 41 p (zi ((σ.2 p + 1 : Nat) : Int)) 41 t = zi ((if t = p then σ.2 p + 1 else σ.2 t : Nat) : Int) := by
        intro t ht
        rw [zw_at]
        split
        · rfl
        · rw [zw_ne (by decide), f8 41 (by decide) (by decide)]; exact h34 t ht
      refine C_freed_35 hd hb9 hpl (by rw [zw_ne (by decide), f8 41 (by decide) (by decide)]; exact h34 p hpl) (by omega) (fun hf => ?_) (fun hf => ?_)
      · rw [zm_one (by omega)]
        exact hrest (fun s => s == p) _ _ (fun s => by unfold zfb; rw [hp]; simp only [show (σ.2 p + 1 == dro D) = true from beq_iff_eq.mpr hf, Bool.and_true]) hrw (fun x hx => zw_ne hx) g34
      · rw [show (0 : Int32) = zm (fun _ => false) from zm_none]
        exact hrest (fun _ => false) _ _ (fun s => by unfold zfb; rw [hp]; simp only [show (σ.2 p + 1 == dro D) = false from beq_eq_false_iff_ne.mpr hf, Bool.and_false]) hrw (fun x hx => zw_ne hx) g34
theorem C_goThrough_35_43 {Ln : Nat} {D : Nat → Nat → Nat} {co : Nat → Int} {lw : Nat} {I A : Nat → Nat → Int32} {Q : (Nat → Nat → Int32) → Prop} (hd : BD D) (hco : CD co) (hb : CB D I A) (hc : CC D co 43 A) (hl : lw < 3) (hq : ∀ A' ro, (∀ x, (x < 36 ∨ 41 < x) → A' x = A x) → zSo (dn D) (zrk D co lw) ro → VY D co ro 36 37 38 39 A' → Q A') : W_X6_goThrough_r35_r43 Ln I A (zi lw) Q := by
  have hn := hd.1
  unfold W_X6_goThrough_r35_r43
  refine C_lineUp_35_43 hd hco hb hc hl (fun A1 ro f1 hro g1 => C_fill_36 (fun A2 f2 g2 => C_fill_41 (fun A3 f3 g3 => ?_)))
  have f0 : ∀ x, (x < 36 ∨ 41 < x) → A3 x = A x := fun x hx => by rw [f3 x (by omega), f2 x (by omega), f1 x (by omega)]
  have hb3 : CB D I A3 := hb.fr (fun a h1 h2 => f0 a (by omega))
  have hc3 : CC D co 43 A3 := fun s hs => by rw [f0 43 (by decide)]; exact hc s hs
  refine C_whoPays_43 hd hco hb3 hc3 ?_
  have hr3 : ∀ i, i < dn D → A3 40 i = zi (ro i) ∧ ro i < dn D := fun i hi => ⟨by rw [f3 40 (by decide), f2 40 (by decide)]; exact g1 i hi, hro.1 i hi⟩
  refine zLoop.inv (fun d σ => σ.2.1 = zi d ∧ σ.1 = zm (zovr D (zrun D co ro d).1) ∧ (∀ x, (x < 36 ∨ 41 < x) → σ.2.2 x = A x) ∧ σ.2.2 40 = A3 40 ∧ (∀ t, t < dn D → σ.2.2 36 t = zi (zen ((zrun D co ro d).1 t))) ∧ (∀ t, t < dn D → σ.2.2 41 t = zi ((zrun D co ro d).2 t)) ∧ ∀ j, j < d → σ.2.2 37 j = zi (zrwr D co ro j (zrun D co ro j)) ∧ σ.2.2 38 j = zm (zsit D co ro j (zrun D co ro j)) ∧ σ.2.2 39 j = zm (zovr D (zrun D co ro (j + 1)).1)) 60 ⟨rfl, ?_, f0, rfl, ?_, ?_, fun j hj => by omega⟩ ?_ ?_
  · rw [zm_none]; exact zm_congr (fun s _ => by simp [zovr, zrun])
  · intro t ht
    dsimp only
    rw [f3 36 (by decide), g2 t (by omega)]; exact zqm9
  · intro t ht
    dsimp only
    rw [g3 t (by omega)]; rfl
  · rintro d ⟨v4, v5, A4⟩ hd6 ⟨h5, h4, hf, hff, h29, h34, hj⟩ K hk
    simp only at h5 h4 hf hff h29 h34 hj
    subst h5; subst h4
    refine C_night_35_43 hd (hb.fr (fun a h1 h2 => hf a (by omega))) (fun i hi => by rw [hff]; exact hr3 i hi) hd6 (zrun_ok D co ro d) h29 h34 (fun A' k1 k2 k3 k4 k5 k6 k7 k8 => ?_)
    refine hk _ ⟨rfl, rfl, fun x hx => (k1 x hx).trans (hf x hx), k2.trans hff, k3, k4, fun j hj2 => ?_⟩
    dsimp only
    by_cases e : j = d
    · subst e; exact ⟨k6, k7, k8⟩
    · obtain ⟨q1, q2, q3⟩ := k5 j e
      rw [q1, q2, q3]; exact hj j (by omega)
  · rintro ⟨v4, v5, A4⟩ ⟨h5, h4, hf, hff, h29, h34, hj⟩ K
    simp only at h5 h4 hf hff h29 h34 hj
    subst h5; subst h4
    simp only [L_X6_goThrough_r35_r43_38]
    exact ⟨fun _ => hq A4 ro hf hro ⟨h29, hj⟩, fun c => absurd (by decide) c⟩
