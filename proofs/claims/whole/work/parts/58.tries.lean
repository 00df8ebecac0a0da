/-! nights gone through anew: other laws, other coins -/
theorem C_gt_42 {Ln : Nat} {D : Nat → Nat → Nat} {co : Nat → Int} {lw : Nat} {I A : Nat → Nat → Int32} {Q : (Nat → Nat → Int32) → Prop} (hd : BD D) (hco : CD co) (hb : CB D I A) (hc : CC D co 42 A) (hl : lw < 3) (hq : ∀ A', (∀ x, (x < 36 ∨ 41 < x) → A' x = A x) → VY D co (zRo D co lw) 36 37 38 39 A' → Q A') : W_X6_goThrough_r35_r42 Ln I A (zi lw) Q :=
  C_goThrough_35_42 hd hco hb hc hl (fun A' _ f hro hvy => hq A' f (VY_cg (zSo_one hro (zRo_so _ _ _)) hvy))
theorem C_gt_43 {Ln : Nat} {D : Nat → Nat → Nat} {co : Nat → Int} {lw : Nat} {I A : Nat → Nat → Int32} {Q : (Nat → Nat → Int32) → Prop} (hd : BD D) (hco : CD co) (hb : CB D I A) (hc : CC D co 43 A) (hl : lw < 3) (hq : ∀ A', (∀ x, (x < 36 ∨ 41 < x) → A' x = A x) → VY D co (zRo D co lw) 36 37 38 39 A' → Q A') : W_X6_goThrough_r35_r43 Ln I A (zi lw) Q :=
  C_goThrough_35_43 hd hco hb hc hl (fun A' _ f hro hvy => hq A' f (VY_cg (zSo_one hro (zRo_so _ _ _)) hvy))
/-- on which night each is over, by coins and law -/
noncomputable def zOn (D : Nat → Nat → Nat) (co : Nat → Int) (lw : Nat) : Nat → Nat := (zrun D co (zRo D co lw) 60).1
theorem zOn_le (D : Nat → Nat → Nat) (co : Nat → Int) (lw s : Nat) : zOn D co lw s = 99 ∨ zOn D co lw s < 60 := (zrun_ok D co (zRo D co lw) 60 s).1
theorem zOn_99 (D : Nat → Nat → Nat) (co : Nat → Int) (lw s : Nat) : zOn D co lw s ≤ 99 := by have := zOn_le D co lw s; omega
theorem zco_bd {D E : Nat → Nat → Nat} (hd : BD D) (he : BE D E) (s : Nat) : -18 ≤ zco D E s ∧ zco D E s ≤ 27 := by
  have h1 := zsum_le (X := E 1) he.2.2.2.1 (elc E) s
  have h2 := zsum_le (X := E 2) he.2.2.2.1 (elc E) s
  have h3 := (hd.2.2.2.2 s).2.1
  have h4 := he.2.1
  unfold zco
  omega
/-- what the reference may have written -/
def RG (I A I' A' : Nat → Nat → Int32) : Prop := (∀ o, o ≠ 44 → I' o = I o) ∧ (∀ k, k ≠ 10 → k ≠ 26 → k ≠ 27 → I' 44 k = I 44 k) ∧ ∀ a, a ≠ 49 → a ≠ 57 → a ≠ 58 → A' a = A a
theorem RG.refl (I A : Nat → Nat → Int32) : RG I A I A := ⟨fun _ _ => rfl, fun _ _ _ _ => rfl, fun _ _ _ _ => rfl⟩
theorem RG.trans {I A I' A' I2 A2 : Nat → Nat → Int32} (h : RG I A I' A') (h2 : RG I' A' I2 A2) : RG I A I2 A2 := ⟨fun o ho => (h2.1 o ho).trans (h.1 o ho), fun k h3 h4 h5 => (h2.2.1 k h3 h4 h5).trans (h.2.1 k h3 h4 h5), fun a h3 h4 h5 => (h2.2.2 a h3 h4 h5).trans (h.2.2 a h3 h4 h5)⟩
theorem RF.g {I A I' A' : Nat → Nat → Int32} (h : RF I A I' A') : RG I A I' A' := ⟨h.1, fun k _ h3 h4 => h.2.1 k h3 h4, fun a _ h3 h4 => h.2.2 a h3 h4⟩
theorem RG.law {I A I' A' : Nat → Nat → Int32} (h : RG I A I' A') (v : Int32) : RG I A (zp I' 44 10 v) A' := ⟨fun o ho => by rw [zp_ne ho]; exact h.1 o ho, fun k h3 h4 h5 => by rw [zp_at, if_neg h3]; exact h.2.1 k h3 h4 h5, h.2.2⟩
theorem RG.a49 {I A I' A' A2 : Nat → Nat → Int32} (h : RG I A I' A') (f : ∀ a, a ≠ 49 → A2 a = A' a) : RG I A I' A2 := ⟨h.1, h.2.1, fun a h3 h4 h5 => (f a h3).trans (h.2.2 a h3 h4 h5)⟩
theorem RB.g {D : Nat → Nat → Nat} {I A I' A' : Nat → Nat → Int32} (h : RB D I A) (h2 : RG I A I' A') : RB D I' A' := by
  obtain ⟨a, b, c, d, e⟩ := h
  obtain ⟨_, f, g⟩ := h2
  refine ⟨?_, ?_, ?_, ?_, ?_⟩
  · rw [f _ (by decide) (by decide) (by decide)]; exact a
  · rw [f _ (by decide) (by decide) (by decide)]; exact b
  · rw [f _ (by decide) (by decide) (by decide)]; exact c
  · rw [f _ (by decide) (by decide) (by decide)]; exact d
  · intro s hs
    rw [g 45 (by decide) (by decide) (by decide), g 46 (by decide) (by decide) (by decide), g 47 (by decide) (by decide) (by decide), g 48 (by decide) (by decide) (by decide)]; exact e s hs
theorem RD.g {D E : Nat → Nat → Nat} {I A I' A' : Nat → Nat → Int32} (h : RD D E I A) (h2 : RG I A I' A') : RD D E I' A' := by
  obtain ⟨h1, f, g⟩ := h2
  unfold RD at h ⊢
  rw [h1 22 (by decide), f 31 (by decide) (by decide) (by decide), g 23 (by decide) (by decide) (by decide), g 24 (by decide) (by decide) (by decide), g 25 (by decide) (by decide) (by decide), g 62 (by decide) (by decide) (by decide), g 63 (by decide) (by decide) (by decide), g 64 (by decide) (by decide) (by decide)]
  exact h
theorem Iv.g {xs : Nat → Int32} {D E : Nat → Nat → Nat} {I A I' A' : Nat → Nat → Int32} (h : Iv xs D E I A) (f : RG I A I' A') (hrc : RC D (zco D E) (elw E) I' A') : Iv xs D E I' A' := by
  obtain ⟨f1, f2, f3⟩ := f
  have hs := h.sh.fr (I' := I') (A' := A') (fun o j ho => by rw [f1 o (by omega)]) (fun a ha => f3 a (by omega) (by omega) (by omega))
  obtain ⟨a1, a2, a3, a4, a5, a6, a7, a8, a9, a10, a11, a12⟩ := h.parts
  unfold Iv CB RB CC LN RD VN VY at *
  simp only [f1 1 (by decide), f1 11 (by decide), f1 18 (by decide), f1 22 (by decide), f2 0 (by decide) (by decide) (by decide), f2 1 (by decide) (by decide) (by decide), f2 2 (by decide) (by decide) (by decide), f2 3 (by decide) (by decide) (by decide), f2 4 (by decide) (by decide) (by decide), f2 20 (by decide) (by decide) (by decide), f2 31 (by decide) (by decide) (by decide), f2 39 (by decide) (by decide) (by decide), f3 0 (by decide) (by decide) (by decide), f3 12 (by decide) (by decide) (by decide), f3 13 (by decide) (by decide) (by decide), f3 14 (by decide) (by decide) (by decide), f3 15 (by decide) (by decide) (by decide), f3 16 (by decide) (by decide) (by decide), f3 17 (by decide) (by decide) (by decide), f3 19 (by decide) (by decide) (by decide), f3 20 (by decide) (by decide) (by decide), f3 21 (by decide) (by decide) (by decide), f3 23 (by decide) (by decide) (by decide), f3 24 (by decide) (by decide) (by decide), f3 25 (by decide) (by decide) (by decide), f3 29 (by decide) (by decide) (by decide), f3 30 (by decide) (by decide) (by decide), f3 31 (by decide) (by decide) (by decide), f3 32 (by decide) (by decide) (by decide), f3 42 (by decide) (by decide) (by decide), f3 45 (by decide) (by decide) (by decide), f3 46 (by decide) (by decide) (by decide), f3 47 (by decide) (by decide) (by decide), f3 48 (by decide) (by decide) (by decide), f3 54 (by decide) (by decide) (by decide), f3 55 (by decide) (by decide) (by decide), f3 56 (by decide) (by decide) (by decide), f3 62 (by decide) (by decide) (by decide), f3 63 (by decide) (by decide) (by decide), f3 64 (by decide) (by decide) (by decide)]
  exact ⟨a1, a2, a3, a4, hrc, a6, a7, a8, a9, a10, hs, a12⟩
/-- what the class may have written when it tries -/
def CF (A A' : Nat → Nat → Int32) : Prop := ∀ x, (x < 36 ∨ 41 < x) → x ≠ 43 → A' x = A x
theorem CF.refl (A : Nat → Nat → Int32) : CF A A := fun _ _ _ => rfl
theorem CF.trans {A A' A2 : Nat → Nat → Int32} (h : CF A A') (h2 : CF A' A2) : CF A A2 := fun x h3 h4 => (h2 x h3 h4).trans (h x h3 h4)
theorem zcA_cf {a : Nat} (h : zcA a = true) : (a < 36 ∨ 41 < a) ∧ a ≠ 43 := by
  constructor
  · by_cases c : a < 36 ∨ 41 < a
    · exact c
    · have : a = 36 ∨ a = 37 ∨ a = 38 ∨ a = 39 ∨ a = 40 ∨ a = 41 := by omega
      rcases this with rfl | rfl | rfl | rfl | rfl | rfl <;> cases h
  · rintro rfl; cases h
theorem Iv.cf {xs : Nat → Int32} {D E : Nat → Nat → Nat} {I A A' : Nat → Nat → Int32} (h : Iv xs D E I A) (f : CF A A') : Iv xs D E I A' := h.fr (fun _ _ _ => rfl) (fun a ha => f a (zcA_cf ha).1 (zcA_cf ha).2)
theorem CB.cf {D : Nat → Nat → Nat} {I A A' : Nat → Nat → Int32} (h : CB D I A) (f : CF A A') : CB D I A' := h.fr (fun a h1 h2 => f a (by omega) (by omega))
/-- who waits longest -/
def zLw (D : Nat → Nat → Nat) (on : Nat → Nat) : Nat → Int
  | 0 => 0
  | s + 1 => if zLw D on s < zwait D on s then zwait D on s else zLw D on s
theorem zLw_bd {D : Nat → Nat → Nat} {on : Nat → Nat} (hd : BD D) (h : ∀ s, on s = 99 ∨ on s < 60) : ∀ n, 0 ≤ zLw D on n ∧ zLw D on n ≤ 100
  | 0 => ⟨Int.le_refl 0, show (0 : Int) ≤ 100 by decide⟩
  | s + 1 => by
    have h1 := zLw_bd hd h s
    have h2 := h s
    have h3 := (hd.2.2.2.2 s).2.2.2
    unfold zLw zwait
    split <;> split <;> omega
theorem zLw_iff {D : Nat → Nat → Nat} {on : Nat → Nat} {w : Nat} : ∀ n, zLw D on n ≤ w ↔ ∀ s, s < n → zwait D on s ≤ w
  | 0 => ⟨fun _ s h => by omega, fun _ => by show (0 : Int) ≤ w; omega⟩
  | n + 1 => by
    have ih := zLw_iff (D := D) (on := on) (w := w) n
    unfold zLw
    constructor
    · intro h s hs
      by_cases e : s = n
      · subst e; split at h <;> omega
      · refine ih.mp ?_ s (by omega)
        split at h <;> omega
    · intro h
      have h1 := ih.mpr (fun s hs => h s (by omega))
      have h2 := h n (by omega)
      split <;> omega
theorem zwait_bd {D : Nat → Nat → Nat} {on : Nat → Nat} (hd : BD D) {s : Nat} (h : on s = 99 ∨ on s < 60) : -100 ≤ zwait D on s ∧ zwait D on s ≤ 100 := by
  have h3 := (hd.2.2.2.2 s).2.2.2
  unfold zwait
  split <;> omega
theorem C_longestWait {Ln : Nat} {D : Nat → Nat → Nat} {I A : Nat → Nat → Int32} {on : Nat → Nat} {Q : Int32 → Prop} (hd : BD D) (hb : CB D I A) (hg : ∀ t, t < dn D → A 36 t = zi (zen (on t))) (hle : ∀ s, on s = 99 ∨ on s < 60) (hq : Q (zi (zLw D on (dn D)))) : W_X6_longestWait_r35 Ln I A Q := by
  have hn := hd.1
  unfold W_X6_longestWait_r35
  refine zLoop.count (fun i => (zi (zLw D on i), zi i)) (dn D) rfl ?_ ?_
  · intro i hi K hk
    have h1 := zLw_bd hd hle i
    have h2 := zwait_bd hd (hle i)
    simp only [L_X6_longestWait_r35_4, hb.1]
    refine ⟨fun c => absurd ((zle_n (by omega) (by omega)).mp c) (by omega), fun _ => C_waitOf_35 hd hb hg hi (by have := hle i; omega) ?_⟩
    have hl : zi (zLw D on i) < zi (zwait D on i) ↔ zLw D on i < zwait D on i := zi_lt (by omega) (by omega) (by omega) (by omega)
    rw [zi_succ, show (if zi (zLw D on i) < zi (zwait D on i) then zi (zwait D on i) else zi (zLw D on i)) = zi (zLw D on (i + 1)) from by
      show _ = zi (if zLw D on i < zwait D on i then zwait D on i else zLw D on i)
      by_cases q : zLw D on i < zwait D on i
      · rw [if_pos (hl.mpr q), if_pos q]
      · rw [if_neg (fun c => q (hl.mp c)), if_neg q]]
    exact hk
  · intro K
    simp only [L_X6_longestWait_r35_4, hb.1]
    exact ⟨fun _ => hq, fun c => absurd ((zle_n (by omega) (by omega)).mpr (Nat.le_refl _)) c⟩
noncomputable def zlk (D : Nat → Nat → Nat) (co : Nat → Int) (w v : Nat) : Bool := decide (zLw D (zOn D co v) (dn D) ≤ w)
theorem OP_laws {Ln : Nat} {xs : Nat → Int32} {I A : Nat → Nat → Int32} {v : Int32} {Q : Int32 → (Nat → Nat → Int32) → Prop} (hv : INV xs I A) (hq : ∀ x A', A' 0 = A 0 → (∀ Q2 : Int32 → (Nat → Nat → Int32) → (Nat → Nat → Int32) → Prop, (∀ I2 A2, INV xs I2 A2 → Q2 x I2 A2) → W_X8_laws_r44 Ln I A' v Q2) → Q x A') : W_X7_laws_r1 Ln I A v Q := by
  obtain ⟨D, E, hv⟩ := hv
  obtain ⟨hd, he, hb, hr, hc, ⟨h19, h42⟩, hl, hrd, hvn, ht, hsh, h0⟩ := hv.parts
  have hn := hd.1
  have hco := zco_ok hd he
  have hi : INV xs I A := ⟨D, E, hv⟩
  unfold W_X7_laws_r1
  by_cases hw : 0 ≤ v.toInt ∧ v.toInt < (61 : Nat)
  · obtain ⟨w, hw2, rfl⟩ := zasn hw
    have hin : ∀ {J B : Nat → Nat → Int32} {Q3 : Int32 → Prop}, Q3 1 → W_X8_in Ln J B (Int32.toInt64 (zi w)) 0 60 Q3 := fun h3 => K_in_y (by rw [zi_toInt (by omega) (by omega)]; show (0 : Int) ≤ w; omega) (by rw [zi_toInt (by omega) (by omega)]; show (w : Int) ≤ 60; omega) h3
    rw [zlt0, zi_toInt (by omega) (by omega), zq60, zi_le (by omega) (by omega) (by omega) (by omega)]
    refine ⟨fun c => by omega, fun _ => ⟨fun _ => ?_, fun c => by omega⟩⟩
    by_cases hnb : 0 < dn D
    · refine C_noBank_y hb.1 hn hnb ⟨fun _ => ?_, fun c => absurd rfl c⟩
      refine zLoop.inv (fun i σ => σ.1 = zm (zup (zlk D (zco D E) w) i) ∧ σ.2.1 = zi i ∧ CF A σ.2.2) 3 ⟨zm_up0 _, rfl, CF.refl A⟩ ?_ ?_
      · rintro i ⟨v2, v3, A1⟩ hi3 ⟨g1, g2, g3⟩ K hk
        simp only at g1 g2 g3
        subst g1; subst g2
        simp only [L_X7_laws_r1_27]
        refine ⟨fun c => absurd c (by rw [zq3, zi_le (by omega) (by omega) (by omega) (by omega)]; omega), fun _ => ?_⟩
        refine C_gt_42 hd hco (hb.cf g3) (fun s hs => by rw [g3 42 (by decide) (by decide)]; exact h42 s hs) hi3 (fun A2 f2 hvy => ?_)
        have g4 : CF A A2 := g3.trans (fun x h1 _ => f2 x h1)
        refine C_longestWait (on := zOn D (zco D E) i) hd (hb.cf g4) hvy.1 (zOn_le _ _ _) ?_
        have h1 := zLw_bd hd (zOn_le D (zco D E) i) (dn D)
        rw [zi_lt (by omega) (by omega) (by omega) (by omega), zi_succ]
        refine ⟨fun c => hk _ ⟨?_, rfl, g4⟩, fun c => hk _ ⟨?_, rfl, g4⟩⟩
        · exact zup_no (decide_eq_false (by omega))
        · exact zup_yes (by omega) (decide_eq_true (by omega))
      · rintro ⟨v2, v3, A1⟩ ⟨g1, g2, g3⟩ K
        simp only at g1 g2 g3
        subst g1; subst g2
        simp only [L_X7_laws_r1_27]
        refine ⟨fun _ => hq _ _ (g3 0 (by decide) (by decide)) (fun Q2 h2 => ?_), fun c => absurd (by decide) c⟩
        have hv1 := hv.cf g3
        obtain ⟨_, _, _, hr, hc, _, _, _, _, _, _, _⟩ := hv1.parts
        unfold W_X8_laws_r44
        refine hin ⟨fun _ => ?_, fun c => absurd (show (1 : Int32) ≠ 0 by decide) c⟩
        rw [hr.1, K_shades hn]
        refine ⟨fun _ => ?_, fun c => absurd hnb c⟩
        refine zLoop.inv (fun i σ => σ.1 = zm (zup (zlk D (zco D E) w) i) ∧ σ.2.1 = zi i ∧ RG I A1 σ.2.2.1 σ.2.2.2 ∧ σ.2.2.2 49 = A1 49) 3 ⟨zm_up0 _, rfl, RG.refl I A1, rfl⟩ ?_ ?_
        · rintro i ⟨v2, v3, J, B⟩ hi3 ⟨g1, g2, g4, g5⟩ K hk
          simp only at g1 g2 g4 g5
          subst g1; subst g2
          simp only [L_X8_laws_r44_35]
          refine ⟨fun c => absurd c (by rw [zq3, zi_le (by omega) (by omega) (by omega) (by omega)]; omega), fun _ => ?_⟩
          have g6 := g4.law (zi i)
          refine K_goAll (co := zco D E) (lw := i) (ro := zRo D (zco D E) i) hd hco (hr.g g6) ⟨by rw [zp_eq], hi3, fun s hs => by rw [g5]; exact hc.2.2 s hs⟩ (zRo_so _ _ _) (fun I2 A2 f hg => ?_)
          have g7 := g6.trans f.g
          have hr7 := hr.g g7
          refine zLoop.inv (fun j σ => σ.1 = (if zLw D (zOn D (zco D E) i) j ≤ w then 1 else 0) ∧ σ.2 = zi j) (dn D) ⟨by rw [if_pos (by show (0 : Int) ≤ w; omega)], rfl⟩ ?_ ?_
          · rintro j ⟨v5, v6⟩ hj ⟨k1, k2⟩ K2 hk2
            simp only at k1 k2
            subst k1; subst k2
            have h1 := zLw_bd hd (zOn_le D (zco D E) i) j
            have h3 := zwait_bd hd (zOn_le D (zco D E) i j)
            simp only [L_X8_laws_r44_57]
            rw [hr7.1, zle_n (by omega) (by omega), zi_succ j]
            refine ⟨fun c => by omega, fun _ => ⟨fun c => hk2 _ ⟨?_, rfl⟩, fun c => ?_⟩⟩
            · have e : ¬ zLw D (zOn D (zco D E) i) j ≤ w := fun q => by rw [if_pos q] at c; exact absurd c (by decide)
              rw [if_neg]; unfold zLw; split <;> omega
            · have e : zLw D (zOn D (zco D E) i) j ≤ w := by
                by_cases q : zLw D (zOn D (zco D E) i) j ≤ w
                · exact q
                · rw [if_neg q] at c; exact absurd rfl c
              refine K_waitOf (σ := zrun D (zco D E) (zRo D (zco D E) i) 60) hd hr7 hg hj (zOn_99 D (zco D E) i j) ?_
              rw [zi_lt (by omega) (by omega) (by show (-2147483648 : Int) ≤ zwait D (zOn D (zco D E) i) j; omega) (by show zwait D (zOn D (zco D E) i) j < 2147483648; omega)]
              refine ⟨fun q => hk2 _ ⟨?_, rfl⟩, fun q => hk2 _ ⟨?_, rfl⟩⟩
              · have q2 : (w : Int) < zwait D (zOn D (zco D E) i) j := q
                rw [if_neg]; unfold zLw; split <;> omega
              · have q2 : ¬ (w : Int) < zwait D (zOn D (zco D E) i) j := q
                rw [if_pos]; unfold zLw; split <;> omega
          · rintro ⟨v5, v6⟩ ⟨k1, k2⟩ K2
            simp only at k1 k2
            subst k1; subst k2
            simp only [L_X8_laws_r44_57]
            rw [hr7.1, zle_n (by omega) (by omega)]
            have g8 : A2 49 = A1 49 := (f.2.2 49 (by decide) (by decide)).trans g5
            refine ⟨fun _ => ⟨fun c => hk _ ⟨?_, zi_succ i, g7, g8⟩, fun c => hk _ ⟨?_, zi_succ i, g7, g8⟩⟩, fun c => absurd (Nat.le_refl _) c⟩
            · have e : ¬ zLw D (zOn D (zco D E) i) (dn D) ≤ w := fun q => by rw [if_pos q] at c; exact absurd c (by decide)
              show zm (zup (zlk D (zco D E) w) i) ||| 0 = _
              rw [zm_or0]; exact zup_no (decide_eq_false e)
            · have e : zLw D (zOn D (zco D E) i) (dn D) ≤ w := by
                by_cases q : zLw D (zOn D (zco D E) i) (dn D) ≤ w
                · exact q
                · rw [if_neg q] at c; exact absurd rfl c
              exact zup_yes (by omega) (decide_eq_true e)
        · rintro ⟨v2, v3, J, B⟩ ⟨g1, g2, g4, g5⟩ K
          simp only at g1 g2 g4 g5
          subst g1; subst g2
          simp only [L_X8_laws_r44_35]
          refine ⟨fun _ => h2 _ _ ⟨D, E, hv1.g (g4.law _) ⟨by rw [zp_eq]; exact hc.1, he.1, fun s hs => by rw [g5]; exact hc.2.2 s hs⟩⟩, fun c => absurd (by decide) c⟩
    · refine C_noBank_n hb.1 (by omega) ⟨fun c => absurd c (by decide), fun _ => hq _ _ rfl (fun Q2 h2 => ?_)⟩
      unfold W_X8_laws_r44
      refine hin ⟨fun _ => ?_, fun c => absurd (show (1 : Int32) ≠ 0 by decide) c⟩
      rw [hr.1, K_shades hn]
      exact ⟨fun c => absurd c hnb, fun _ => h2 _ _ hi⟩
  · have hr2 : Q (-2) A := by
      refine hq _ _ rfl (fun Q2 h2 => ?_)
      unfold W_X8_laws_r44
      exact K_in_n (by rw [show (60 : Int64).toInt = 60 from rfl, show (0 : Int64).toInt = 0 from rfl]; omega) ⟨fun c => absurd rfl c, fun _ => h2 _ _ hi⟩
    rw [zlt0, Int32.le_iff_toInt_le, show (60 : Int32).toInt = 60 from rfl]
    exact ⟨fun _ => hr2, fun c => ⟨fun c2 => by omega, fun _ => hr2⟩⟩
/-- all readings were so -/
def zsop (E : Nat → Nat → Nat) (on : Nat → Nat) : Nat → Bool
  | 0 => true
  | k + 1 => zsop E on k && (decide (on (E 4 k) ≤ E 5 k) == decide (E 6 k = 1))
theorem zsop_s {E : Nat → Nat → Nat} {on : Nat → Nat} {k : Nat} : zsop E on (k + 1) = (zsop E on k && (decide (on (E 4 k) ≤ E 5 k) == decide (E 6 k = 1))) := rfl
theorem zsop_no {E : Nat → Nat → Nat} {on : Nat → Nat} {k : Nat} (h : zsop E on k = false) : ∀ j, zsop E on (k + j) = false
  | 0 => h
  | j + 1 => by rw [show k + (j + 1) = (k + j) + 1 by omega, zsop_s, zsop_no h j]; rfl
theorem C_allSo {Ln : Nat} {D E : Nat → Nat → Nat} {co : Nat → Int} {lw : Nat} {I A : Nat → Nat → Int32} {Q : Int32 → Prop} (hd : BD D) (he : BE D E) (hrd : RD D E I A) (hvy : VY D co (zRo D co lw) 36 37 38 39 A) (h1 : zsop E (zOn D co lw) (erc E) = true → Q 1) (h0 : zsop E (zOn D co lw) (erc E) = false → Q 0) : W_X3_allSo_r22_r35 Ln I A Q := by
  have hn := hd.1
  have hc6 := he.2.2.1
  unfold W_X3_allSo_r22_r35
  refine zLoop.inv (fun i v => v = zi i ∧ zsop E (zOn D co lw) i = true) (erc E) ⟨rfl, rfl⟩ ?_ ?_
  · rintro i v2 hi ⟨rfl, g⟩ K hk
    obtain ⟨⟨e4, e5, e6⟩, _⟩ := hrd.2.2 i hi
    obtain ⟨b4, b5⟩ := he.2.2.2.2.2.1 i hi
    have b6 := he.2.2.2.2.2.2 i
    have hz := zin_n (L := 6) (s := i) (by omega) (by decide)
    have hz2 := zin_n (L := 60) (s := E 5 i) b5 (by decide)
    simp only [L_X3_allSo_r22_r35_2]
    rw [hrd.1, zle_n (by omega) (by omega), zi_nat' (show i < 2147483648 by omega), e4, e5, e6, zi_nat' (show E 5 i < 2147483648 by omega), (hvy.2 _ b5).2.2, zm_bit _ (show E 4 i < 6 by omega), zi_succ]
    have hby : zovr D (zrun D co (zRo D co lw) (E 5 i + 1)).1 (E 4 i) = decide (zOn D co lw (E 4 i) ≤ E 5 i) := by
      unfold zovr
      rw [show decide (E 4 i < dn D) = true from decide_eq_true b4, Bool.true_and]
      exact decide_eq_decide.mpr (zrun_by b5)
    rw [hby]
    have hno : ∀ b : Bool, zsop E (zOn D co lw) (i + 1) = b → b = false → Q 0 := by
      rintro b e rfl
      have := zsop_no e (erc E - (i + 1))
      rw [show i + 1 + (erc E - (i + 1)) = erc E by omega] at this
      exact h0 this
    have h6 : E 6 i = 0 ∨ E 6 i = 1 := by omega
    cases hd2 : decide (zOn D co lw (E 4 i) ≤ E 5 i) with
    | false =>
      refine ⟨fun c => by omega, fun _ => ⟨hz, hz2, hz, fun _ => ⟨hz, fun c => hk _ ⟨rfl, ?_⟩, fun c => hno _ rfl ?_⟩, fun c => absurd (show (0 : Int32) ≠ 1 by decide) c⟩⟩
      · rw [show (0 : Int32) = zi (0 : Nat) from rfl, zeq_n (by omega) (by omega)] at c
        rw [zsop_s, g, hd2, show decide (E 6 i = 1) = false from decide_eq_false (by omega)]; rfl
      · rw [show (0 : Int32) = zi (0 : Nat) from rfl, zeq_n (by omega) (by omega)] at c
        rw [zsop_s, g, hd2, show decide (E 6 i = 1) = true from decide_eq_true (by omega)]; rfl
    | true =>
      refine ⟨fun c => by omega, fun _ => ⟨hz, hz2, hz, fun c => absurd rfl c, fun _ => ⟨hz, fun c => hk _ ⟨rfl, ?_⟩, fun c => hno _ rfl ?_⟩⟩⟩
      · rw [show (1 : Int32) = zi (1 : Nat) from rfl, zeq_n (by omega) (by omega)] at c
        rw [zsop_s, g, hd2, show decide (E 6 i = 1) = true from decide_eq_true (by omega)]; rfl
      · rw [show (1 : Int32) = zi (1 : Nat) from rfl, zeq_n (by omega) (by omega)] at c
        rw [zsop_s, g, hd2, show decide (E 6 i = 1) = false from decide_eq_false (by omega)]; rfl
  · rintro v2 ⟨rfl, g⟩ K
    simp only [L_X3_allSo_r22_r35_2]
    rw [hrd.1, zle_n (by omega) (by omega)]
    exact ⟨fun _ => h1 g, fun c => absurd (Nat.le_refl _) c⟩
theorem K_areSo {Ln : Nat} {D E : Nat → Nat → Nat} {co : Nat → Int} {lw : Nat} {I A : Nat → Nat → Int32} {Q : Int32 → (Nat → Nat → Int32) → (Nat → Nat → Int32) → Prop} (hd : BD D) (he : BE D E) (hco : CD co) (hb : RB D I A) (hc : RC D co lw I A) (hrd : RD D E I A) (h1 : ∀ I' A', RF I A I' A' → zsop E (zOn D co lw) (erc E) = true → Q 1 I' A') (h0 : ∀ I' A', RF I A I' A' → zsop E (zOn D co lw) (erc E) = false → Q 0 I' A') : W_X8_areSo_r44 Ln I A Q := by
  have hn := hd.1
  have hc6 := he.2.2.1
  unfold W_X8_areSo_r44
  refine K_goAll hd hco hb hc (zRo_so D co lw) (fun I2 A2 f hg => ?_)
  have hrd2 := hrd.g f.g
  refine zLoop.inv (fun i σ => σ.2 = zi i ∧ σ.1 = (bif zsop E (zOn D co lw) i then 1 else 0)) (erc E) ⟨rfl, rfl⟩ ?_ ?_
  · rintro i ⟨v1, v2⟩ hi ⟨g2, g1⟩ K hk
    simp only at g1 g2
    subst g2; subst g1
    obtain ⟨_, e4, e5, e6⟩ := hrd2.2.2 i hi
    obtain ⟨b4, b5⟩ := he.2.2.2.2.2.1 i hi
    have b6 := he.2.2.2.2.2.2 i
    have hz := zin_n (L := 6) (s := i) (by omega) (by decide)
    have hz2 := zin_n (L := 6) (s := E 4 i) (by omega) (by decide)
    have h99 := zOn_99 D co lw (E 4 i)
    have hg4 : A2 57 (E 4 i) = zi (zOn D co lw (E 4 i)) := (hg _ b4).1
    simp only [L_X8_areSo_r44_8]
    rw [hrd2.2.1, zle_n (by omega) (by omega), zi_nat' (show i < 2147483648 by omega), e4, e5, zi_nat' (show E 4 i < 2147483648 by omega), hg4, zlt_n (by omega) (by omega), zi_succ]
    refine ⟨fun c => by omega, fun _ => ⟨fun c => hk _ ⟨rfl, ?_⟩, fun c => ?_⟩⟩
    · cases hz3 : zsop E (zOn D co lw) i with
      | true => rw [hz3] at c; exact absurd c (by decide)
      | false => dsimp only; rw [zsop_s, hz3]; rfl
    · cases hz3 : zsop E (zOn D co lw) i with
      | false => rw [hz3] at c; exact absurd rfl c
      | true =>
        have hJ : ∀ (s0 : Int32), s0 = (if zOn D co lw (E 4 i) ≤ E 5 i then 1 else 0) → J_X8_areSo_r44_45_s1 Ln I2 A2 (bif true then 1 else 0) (zi i) s0 K Q := by
          rintro s0 rfl
          unfold J_X8_areSo_r44_45_s1
          rw [zi_nat' (show i < 2147483648 by omega), e6, zi_succ]
          refine ⟨hz, fun c2 => hk _ ⟨rfl, ?_⟩, fun c2 => hk _ ⟨rfl, ?_⟩⟩
          · dsimp only
            rw [zsop_s, hz3]
            have h6 : E 6 i = 0 ∨ E 6 i = 1 := by omega
            by_cases q : zOn D co lw (E 4 i) ≤ E 5 i
            · rw [if_pos q] at c2
              rcases h6 with h6 | h6
              · rw [decide_eq_true q, h6]; rfl
              · rw [h6] at c2; exact absurd rfl c2
            · rw [if_neg q] at c2
              rcases h6 with h6 | h6
              · rw [h6] at c2; exact absurd rfl c2
              · rw [decide_eq_false q, h6]; rfl
          · dsimp only
            rw [zsop_s, hz3]
            have h6 : E 6 i = 0 ∨ E 6 i = 1 := by omega
            by_cases q : zOn D co lw (E 4 i) ≤ E 5 i
            · rw [if_pos q] at c2
              rcases h6 with h6 | h6
              · rw [h6] at c2; exact absurd (show (1 : Int32) ≠ zi (0 : Nat) by decide) c2
              · rw [decide_eq_true q, h6]; rfl
            · rw [if_neg q] at c2
              rcases h6 with h6 | h6
              · rw [decide_eq_false q, h6]; rfl
              · rw [h6] at c2; exact absurd (show (0 : Int32) ≠ zi (1 : Nat) by decide) c2
        refine ⟨hz, hz2, hz, fun c2 => ?_, fun c2 => ?_⟩
        · exact hJ _ (by rw [if_neg (by omega)])
        · exact hJ _ (by rw [if_pos (by omega)])
  · rintro ⟨v1, v2⟩ ⟨g2, g1⟩ K
    simp only at g1 g2
    subst g2; subst g1
    simp only [L_X8_areSo_r44_8]
    rw [hrd2.2.1, zle_n (by omega) (by omega)]
    refine ⟨fun _ => ?_, fun c => absurd (Nat.le_refl _) c⟩
    cases hz3 : zsop E (zOn D co lw) (erc E) with
    | true => exact ⟨Or.inr rfl, h1 _ _ f hz3⟩
    | false => exact ⟨Or.inl rfl, h0 _ _ f hz3⟩
theorem OP_rules {Ln : Nat} {xs : Nat → Int32} {I A : Nat → Nat → Int32} {Q : Int32 → (Nat → Nat → Int32) → Prop} (hv : INV xs I A) (hq : ∀ x A', A' 0 = A 0 → (∀ Q2 : Int32 → (Nat → Nat → Int32) → (Nat → Nat → Int32) → Prop, (∀ I2 A2, INV xs I2 A2 → Q2 x I2 A2) → W_X8_rules_r44 Ln I A' Q2) → Q x A') : W_X7_rules_r1 Ln I A Q := by
  obtain ⟨D, E, hv⟩ := hv
  obtain ⟨hd, he, hb, hr, hc, ⟨h19, h42⟩, hl, hrd, hvn, ht, hsh, h0⟩ := hv.parts
  have hn := hd.1
  have hco := zco_ok hd he
  have hi : INV xs I A := ⟨D, E, hv⟩
  unfold W_X7_rules_r1
  by_cases hnb : 0 < dn D
  · refine C_noBank_y hb.1 hn hnb ⟨fun _ => ?_, fun c => absurd rfl c⟩
    refine zLoop.inv (fun i σ => σ.1 = zm (zup (fun v => zsop E (zOn D (zco D E) v) (erc E)) i) ∧ σ.2.1 = zi i ∧ CF A σ.2.2) 3 ⟨zm_up0 _, rfl, CF.refl A⟩ ?_ ?_
    · rintro i ⟨v2, v3, A1⟩ hi3 ⟨g1, g2, g3⟩ K hk
      simp only at g1 g2 g3
      subst g1; subst g2
      simp only [L_X7_rules_r1_14]
      refine ⟨fun c => absurd c (by rw [zq3, zi_le (by omega) (by omega) (by omega) (by omega)]; omega), fun _ => ?_⟩
      refine C_gt_42 hd hco (hb.cf g3) (fun s hs => by rw [g3 42 (by decide) (by decide)]; exact h42 s hs) hi3 (fun A2 f2 hvy => ?_)
      have g4 : CF A A2 := g3.trans (fun x h1 _ => f2 x h1)
      obtain ⟨_, _, _, _, _, _, _, hrd4, _, _, _, _⟩ := (hv.cf g4).parts
      refine C_allSo hd he hrd4 hvy (fun c => ⟨fun c2 => absurd c2 (by decide), fun _ => ?_⟩) (fun c => ⟨fun _ => ?_, fun c2 => absurd rfl c2⟩)
      · rw [zi_succ]; exact hk _ ⟨zup_yes (by omega) c, rfl, g4⟩
      · rw [zi_succ]; exact hk _ ⟨zup_no c, rfl, g4⟩
    · rintro ⟨v2, v3, A1⟩ ⟨g1, g2, g3⟩ K
      simp only at g1 g2 g3
      subst g1; subst g2
      simp only [L_X7_rules_r1_14]
      refine ⟨fun _ => hq _ _ (g3 0 (by decide) (by decide)) (fun Q2 h2 => ?_), fun c => absurd (by decide) c⟩
      have hv1 := hv.cf g3
      obtain ⟨_, _, _, hr, hc, _, _, hrd, _, _, _, _⟩ := hv1.parts
      unfold W_X8_rules_r44
      rw [hr.1, K_shades hn]
      refine ⟨fun _ => ?_, fun c => absurd hnb c⟩
      refine zLoop.inv (fun i σ => σ.1 = zm (zup (fun v => zsop E (zOn D (zco D E) v) (erc E)) i) ∧ σ.2.1 = zi i ∧ RG I A1 σ.2.2.1 σ.2.2.2 ∧ σ.2.2.2 49 = A1 49) 3 ⟨zm_up0 _, rfl, RG.refl I A1, rfl⟩ ?_ ?_
      · rintro i ⟨v2, v3, J, B⟩ hi3 ⟨g1, g2, g4, g5⟩ K hk
        simp only at g1 g2 g4 g5
        subst g1; subst g2
        simp only [L_X8_rules_r44_19]
        refine ⟨fun c => absurd c (by rw [zq3, zi_le (by omega) (by omega) (by omega) (by omega)]; omega), fun _ => ?_⟩
        have g6 := g4.law (zi i)
        refine K_areSo (co := zco D E) (lw := i) hd he hco (hr.g g6) ⟨by rw [zp_eq], hi3, fun s hs => by rw [g5]; exact hc.2.2 s hs⟩ (hrd.g g6) (fun I2 A2 f c => ⟨fun c2 => absurd c2 (by decide), fun _ => hk _ ⟨zup_yes (by omega) c, zi_succ i, g6.trans f.g, (f.2.2 49 (by decide) (by decide)).trans g5⟩⟩) (fun I2 A2 f c => ⟨fun _ => hk _ ⟨?_, zi_succ i, g6.trans f.g, (f.2.2 49 (by decide) (by decide)).trans g5⟩, fun c2 => absurd rfl c2⟩)
        show _ ||| 0 = _
        rw [zm_or0]; exact zup_no c
      · rintro ⟨v2, v3, J, B⟩ ⟨g1, g2, g4, g5⟩ K
        simp only at g1 g2 g4 g5
        subst g1; subst g2
        simp only [L_X8_rules_r44_19]
        refine ⟨fun _ => h2 _ _ ⟨D, E, hv1.g (g4.law _) ⟨by rw [zp_eq]; exact hc.1, he.1, fun s hs => by rw [g5]; exact hc.2.2 s hs⟩⟩, fun c => absurd (by decide) c⟩
  · refine C_noBank_n hb.1 (by omega) ⟨fun c => absurd c (by decide), fun _ => hq _ _ rfl (fun Q2 h2 => ?_)⟩
    unfold W_X8_rules_r44
    rw [hr.1, K_shades hn]
    exact ⟨fun c => absurd c hnb, fun _ => h2 _ _ hi⟩
