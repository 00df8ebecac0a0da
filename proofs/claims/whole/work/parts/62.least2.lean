/-! the least waiting: both sides -/
def vGd (D : Nat → Nat → Nat) (co : Nat → Int) (k T q : Nat) (G : Nat → Nat) : Prop := G q = 1000 ∨ (G q ≤ 6 * (60 - k) ∧ T ≤ G q + vv D co k q)
theorem C_cross {Ln : Nat} {D : Nat → Nat → Nat} {co : Nat → Int} {k T : Nat} {F : Nat → Nat} {I A : Nat → Nat → Int32} {Q : (Nat → Nat → Int32) → Prop} (hd : BD D) (hb : CB D I A) (hk : k < 60) (hA : ∀ q, q < 64 → A 27 q = zi (F q)) (hF : ∀ q, q < 64 → vGd D co (k + 1) T q F) (hC : vCP D co (k + 1) T 0 F)
    (hq : ∀ A' G, (∀ a, a ≠ 27 → A' a = A a) → (∀ q, q < 64 → A' 27 q = zi (G q)) → (∀ q, q < 64 → vGd D co k T q G) → vCP D co k T 0 G → Q A') : W_X1_cross_r26 Ln I A (zm (zcame D (59 - k))) (zm (vab D co)) Q := by
  obtain ⟨os, hos, _, hos1, hos2⟩ := hC
  have hFb : ∀ q, q < 64 → F q ≤ 1000 := fun q hq2 => by rcases hF q hq2 with e | e <;> omega
  unfold W_X1_cross_r26
  refine zLoop.inv (fun i σ => σ.1 = zi (63 - (i : Int)) ∧ (∀ a, a ≠ 27 → σ.2 a = A a) ∧ ∃ G : Nat → Nat, (∀ q, q < 64 → σ.2 27 q = zi (G q)) ∧ (∀ q, q + i < 64 → G q = F q) ∧ (∀ q, q < 64 → 64 ≤ q + i → vGd D co k T q G) ∧ (64 ≤ os + i → vCP D co k T (64 - i) G)) 64 ⟨rfl, fun _ _ => rfl, F, hA, fun _ _ => rfl, fun q h1 h2 => by omega, fun h => by omega⟩ ?_ ?_
  · rintro i ⟨v3, A1⟩ hi ⟨g1, g2, G, g3, g4, g5, g6⟩ K hk2
    simp only at g1 g2 g3
    subst g1
    obtain ⟨o, ho⟩ : ∃ o, o = 63 - i := ⟨_, rfl⟩
    have ho64 : o < 64 := by omega
    have hoi : (63 : Int) - (i : Int) = (o : Int) := by omega
    have hFo : G o = F o := g4 o (by omega)
    have hb1 : CB D I A1 := hb.fr (fun a h1 h2 => g2 a (by omega))
    have hz := zin_n (L := 64) (s := o) ho64 (by decide)
    have hgo := g3 o ho64
    rw [hFo] at hgo
    have hkk : ∀ A' G', (∀ a, a ≠ 27 → A' a = A a) → (∀ q, q < 64 → A' 27 q = zi (G' q)) → (∀ q, q < o → G' q = F q) → (∀ q, q < 64 → o ≤ q → vGd D co k T q G') → (o ≤ os → vCP D co k T o G') → K (zi (o : Int) + Int32.ofInt (-1), A') := by
      intro A' G' k1 k2 k3 k4 k5
      refine hk2 _ ⟨?_, k1, G', k2, fun q h1 => k3 q (by omega), fun q h1 h2 => k4 q h1 (by omega), fun h1 => ?_⟩
      · dsimp only
        rw [zqm1o, zi_add]; congr 1; omega
      · rw [show 64 - (i + 1) = o by omega]; exact k5 (by omega)
    simp only [L_X1_cross_r26_3]
    rw [hoi, zgt0 (by omega) (by omega), zi_nat' (show o < 2147483648 by omega), hgo, ne_eq, show (1000 : Int32) = zi (1000 : Nat) from rfl, zeq_n (by have := hFb o ho64; omega) (by decide)]
    refine ⟨fun c => by omega, fun _ => ⟨hz, fun c x1 e1 => ⟨hz, ?_⟩, fun c x10 e10 => ?_⟩⟩
    · subst e1
      rw [show zm (zcame D (59 - k)) &&& (zi (o : Int) ^^^ (-1)) = zm (fun s => zcame D (59 - k) s && !o.testBit s) from by rw [zm_of ho64, zm_andnot], zm_and, znz]
      have hF1 : F o ≤ 6 * (59 - k) ∧ T ≤ F o + vv D co (k + 1) o := by
        rcases hF o ho64 with e | e
        · exact absurd e c
        · exact ⟨by have := e.1; omega, e.2⟩
      obtain ⟨cs, hcs1, hcs2, hcs3, hcs4⟩ := vv_best (D := D) (co := co) (k := k) (o := o) hk
      have hin : ∀ (st : Nat) (A4 : Nat → Nat → Int32), A4 = zw A1 27 o 1000 → st ≤ zmk (vbd D co (59 - k) o) + 1 → st ≤ cs → zLoop (L_X1_cross_r26_60 Ln I (zm (zcame D (59 - k))) (zm (vab D co)) (zi o) (zi (F o)) (zm (fun s => zcame D (59 - k) s && !o.testBit s)) (zm (vbd D co (59 - k) o)) K Q) (zi st, A4) := by
        rintro st A4 rfl hst hst2
        refine C_crossIn (T := T) (os := os) (cs := cs) hd hb hk ho64 hF1.1 hF1.2 hst (fun e => ⟨hst2, hcs1, hcs3, by rw [← e] at hos2; omega⟩) (fun a ha => (zw_ne ha).trans (g2 a ha)) (G0 := fun q => if q = o then 1000 else G q) (zw_row g3 rfl) (fun q h1 => ?_) (fun q h1 h2 => ?_) (fun h1 => ?_) (fun A' G' k1 k2 k3 k4 k5 => hkk A' G' k1 k2 k3 k4 k5)
        · try dsimp only
          rw [if_neg (by omega)]; exact g4 q (by omega)
        · try dsimp only
          by_cases e : q = o
          · rw [if_pos e]; exact Or.inl rfl
          · rw [if_neg e]; exact g5 q h1 (by omega)
        · obtain ⟨q, h3, h4, h5, h6⟩ := g6 (by omega)
          refine (show vCP D co k T o _ from ⟨q, h3, by omega, ?_, ?_⟩) <;> (try dsimp only) <;> rw [if_neg (by omega)] <;> assumption
      have hbq : zm (fun s => (zcame D (59 - k) s && !o.testBit s) && vab D co s) = zm (vbd D co (59 - k) o) := rfl
      refine ⟨fun c2 x2 e2 x3 e3 A4 hA4 => ?_, fun c2 x7 e7 x8 e8 A9 hA9 => ?_⟩
      · subst e2; subst e3
        have c3 : znone (vbd D co (59 - k) o) = false := c2
        have h1 : 1 ≤ cs := hcs2 c3
        exact hin 1 A4 hA4 (by omega) h1
      · subst e7; subst e8
        exact hin 0 A9 hA9 (by omega) (by omega)
    · have e9 : F o = 1000 := Decidable.not_not.mp c
      refine hkk A1 G g2 g3 (fun q h1 => g4 q (by omega)) (fun q h1 h2 => ?_) (fun h1 => ?_)
      · by_cases e : q = o
        · exact Or.inl (by rw [e, hFo]; exact e9)
        · exact g5 q h1 (by omega)
      · have hne : os ≠ o := by rintro rfl; exact hos1 e9
        obtain ⟨q, h3, h4, h5, h6⟩ := g6 (by omega)
        exact ⟨q, h3, by omega, h5, h6⟩
  · rintro ⟨v3, A1⟩ ⟨g1, g2, G, g3, g4, g5, g6⟩ K
    simp only at g1 g2 g3
    subst g1
    simp only [L_X1_cross_r26_3]
    exact ⟨fun _ => hq A1 G g2 g3 (fun q h1 => g5 q h1 (by omega)) (g6 (by omega)), fun c => absurd (by decide) c⟩
theorem C_fill_27 {Ln : Nat} {I A : Nat → Nat → Int32} {x : Int32} {Q : (Nat → Nat → Int32) → Prop} (hq : ∀ A', (∀ a, a ≠ 27 → A' a = A a) → (∀ s, s < 64 → A' 27 s = x) → Q A') : W_J7_fill_53178_r27 Ln I A x Q := by
  unfold W_J7_fill_53178_r27
  refine zLoop.inv (fun i σ => σ.1 = zi i ∧ (∀ a, a ≠ 27 → σ.2 a = A a) ∧ ∀ s, s < i → σ.2 27 s = x) 64 ⟨rfl, fun _ _ => rfl, fun s h => by omega⟩ ?_ ?_
  · rintro i ⟨v3, A2⟩ hi ⟨h3, hf, h2⟩ K hk
    simp only at h3 hf h2
    subst h3
    simp only [L_J7_fill_53178_r27_5]
    rw [zi_nat' (by omega)]
    refine ⟨fun c => absurd c (by rw [zq64, zi_le (by omega) (by omega) (by omega) (by omega)]; omega), fun _ => ⟨zin_n (by omega) (by decide), ?_⟩⟩
    rw [zi_succ]
    refine hk _ ⟨rfl, fun a ha => (zw_ne ha).trans (hf a ha), fun s hs => ?_⟩
    dsimp only
    rw [zw_at]
    by_cases e : s = i
    · rw [if_pos e]
    · rw [if_neg e]; exact h2 s (by omega)
  · rintro ⟨v3, A2⟩ ⟨h3, hf, h2⟩ K
    simp only at h3 hf h2
    subst h3
    simp only [L_J7_fill_53178_r27_5]
    exact ⟨fun _ => hq A2 hf h2, fun c => absurd (by decide) c⟩
theorem vab_hi {D : Nat → Nat → Nat} {co : Nat → Int} {s : Nat} (h : dn D ≤ s) : vab D co s = false := by
  unfold vab zpay
  rw [show decide (s < dn D) = false from decide_eq_false (by omega)]; rfl
theorem C_leastWaiting {Ln : Nat} {D : Nat → Nat → Nat} {co : Nat → Int} {I A : Nat → Nat → Int32} {Q : Int32 → (Nat → Nat → Int32) → Prop} (hd : BD D) (hb : CB D I A) (hq : ∀ A', (∀ a, a ≠ 27 → A' a = A a) → Q (zi (vv D co 60 0)) A') : W_X1_leastWaiting_r26 Ln I A (zm (zpay D co)) Q := by
  have hn := hd.1
  unfold W_X1_leastWaiting_r26
  refine zLoop.count (fun i => (zm (zup (vab D co) i), zi i)) (dn D) (Prod.ext (zm_up0 _) rfl) ?_ ?_
  · intro i hi K hk
    simp only [L_X1_leastWaiting_r26_4]
    rw [hb.1, zle_n (by omega) (by omega), zm_one (show i < 6 by omega), zm_and, zm_or, zi_succ]
    refine ⟨fun c => by omega, fun _ => C_carries hd hb (fun s h1 _ => beq_eq_false_iff_ne.mpr (by omega)) (fun hf => ⟨fun c => absurd c (by decide), fun _ => ?_⟩) (fun hf => ⟨fun _ => ?_, fun c => absurd rfl c⟩)⟩
    · have e : zm (fun s => zup (vab D co) i s || (zpay D co s && s == i)) = zm (zup (vab D co) (i + 1)) := zm_congr (fun s _ => by
        unfold zup
        by_cases e : s = i
        · subst e; simp [vab, hf]
        · rw [show (s == i) = false from beq_eq_false_iff_ne.mpr e, Bool.and_false, Bool.or_false, show decide (s < i + 1) = decide (s < i) from decide_eq_decide.mpr (by omega)])
      rw [e]; exact hk
    · rw [zup_no (by unfold vab; rw [hf, Bool.and_false])]; exact hk
  · intro K
    simp only [L_X1_leastWaiting_r26_4]
    rw [hb.1, zle_n (by omega) (by omega), zup_all (fun s h => vab_hi h)]
    refine ⟨fun _ => ?_, fun c => absurd (Nat.le_refl _) c⟩
    refine C_fill_27 (fun A1 f1 e1 => ?_)
    have hT : vv D co 60 0 ≤ 360 := vv_le 60 0
    refine zLoop.inv (fun i σ => σ.1 = zi i ∧ (∀ a, a ≠ 27 → σ.2 a = A a) ∧ ∃ G : Nat → Nat, (∀ q, q < 64 → σ.2 27 q = zi (G q)) ∧ (∀ q, q < 64 → vGd D co (60 - i) (vv D co 60 0) q G) ∧ vCP D co (60 - i) (vv D co 60 0) 0 G) 60 ⟨rfl, fun a ha => (zw_ne ha).trans (f1 a ha), fun q => if q = 0 then 0 else 1000, zw_row (fun q hq2 => (e1 q hq2).trans rfl) rfl, fun q _ => ?_, 0, by decide, Nat.le_refl 0, by decide, by simp⟩ ?_ ?_
    · unfold vGd
      dsimp only
      by_cases e : q = 0
      · rw [if_pos e, e]; exact Or.inr ⟨Nat.zero_le _, by simp⟩
      · rw [if_neg e]; exact Or.inl rfl
    · rintro i ⟨v3, A2⟩ hi ⟨g1, g2, G, g3, g4, g5⟩ K2 hk2
      simp only at g1 g2 g3
      subst g1
      obtain ⟨k, hk⟩ : ∃ k, 60 - i = k + 1 := ⟨59 - i, by omega⟩
      rw [hk] at g4 g5
      have hk3 : 60 - (i + 1) = k := by omega
      have hb2 : CB D I A2 := hb.fr (fun a h1 h2 => g2 a (by omega))
      rw [hk3] at hk2
      simp only [L_X1_leastWaiting_r26_61]
      rw [zi_nat' (show i < 2147483648 by omega), hb2.2.2.2.2.2.1 i hi, zi_succ, show zcame D i = zcame D (59 - k) from by rw [show 59 - k = i by omega]]
      refine ⟨fun c => absurd c (by rw [zq60, zi_le (by omega) (by omega) (by omega) (by omega)]; omega), fun _ => ⟨zin_n (by omega) (by decide), ?_⟩⟩
      exact C_cross hd hb2 (by omega) g3 g4 g5 (fun A' G' k1 k2 k3 k4 => hk2 _ ⟨rfl, fun a ha => (k1 a ha).trans (g2 a ha), G', k2, k3, k4⟩)
    · rintro ⟨v3, A2⟩ ⟨g1, g2, G, g3, g4, g5⟩ K2
      simp only at g1 g2 g3
      subst g1
      simp only [L_X1_leastWaiting_r26_61]
      refine ⟨fun _ => ?_, fun c => absurd (by decide) c⟩
      have hg : ∀ q, q < 64 → G q = 1000 ∨ (G q ≤ 360 ∧ vv D co 60 0 ≤ G q) := fun q hq2 => g4 q hq2
      obtain ⟨qs, hqs, _, hqs1, hqs2⟩ := g5
      have hqs3 : G qs ≤ vv D co 60 0 := hqs2
      refine zLoop.inv (fun j σ => σ.2 = zi j ∧ ∃ r : Nat, σ.1 = zi r ∧ vv D co 60 0 ≤ r ∧ r ≤ 1000 ∧ (qs < j → r = vv D co 60 0)) 64 ⟨rfl, 1000, rfl, by omega, by decide, fun h => by omega⟩ ?_ ?_
      · rintro j ⟨v3, v4⟩ hj ⟨k1, r, k2, k3, k4, k5⟩ K3 hk3
        simp only at k1 k2
        subst k1; subst k2
        have hgj := hg j hj
        simp only [L_X1_leastWaiting_r26_94]
        rw [zi_nat' (show j < 2147483648 by omega), g3 j hj, zi_succ]
        have hlt : zi ((G j : Nat) : Int) < zi (r : Int) ↔ G j < r := zlt_n (by omega) (by omega)
        refine ⟨fun c => absurd c (by rw [zq64, zi_le (by omega) (by omega) (by omega) (by omega)]; omega), fun _ => ⟨zin_n (by omega) (by decide), hk3 _ ⟨rfl, min (G j) r, ?_, by omega, by omega, fun h => ?_⟩⟩⟩
        · dsimp only
          by_cases c : G j < r
          · rw [if_pos (hlt.mpr c), Nat.min_eq_left (by omega)]
          · rw [if_neg (fun q => c (hlt.mp q)), Nat.min_eq_right (by omega)]
        · by_cases e : qs = j
          · rw [e] at hqs3 hqs1; omega
          · have := k5 (by omega); omega
      · rintro ⟨v3, v4⟩ ⟨k1, r, k2, k3, k4, k5⟩ K3
        simp only at k1 k2
        subst k1; subst k2
        simp only [L_X1_leastWaiting_r26_94]
        rw [k5 hqs]
        exact ⟨fun _ => hq A2 g2, fun c => absurd (by decide) c⟩
theorem zbig {n c : Nat} (hn : n ≤ 6) (hc : c < 64) (h : 2 ^ n ≤ c) : ∃ s, s < 6 ∧ n ≤ s ∧ c.testBit s = true := (show ∀ n : Nat, n ≤ 6 → ∀ c : Nat, c < 64 → 2 ^ n ≤ c → ∃ s, s < 6 ∧ n ≤ s ∧ c.testBit s = true from by decide +kernel) n hn c hc h
theorem vv_all {D : Nat → Nat → Nat} {co : Nat → Int} {k o : Nat} (hn : dn D ≤ 6) : vv D co (k + 1) o = vmn (vch D co (59 - k) o) (fun c => vw D (59 - k) o c + vv D co k (o ||| c)) (2 ^ dn D) := by
  have hpw := zpw hn
  rw [vv_s]
  have := vmn_ext (P := vch D co (59 - k) o) (f := fun c => vw D (59 - k) o c + vv D co k (o ||| c)) (m := 2 ^ dn D) (64 - 2 ^ dn D) (fun c h1 h2 => by
    obtain ⟨s, h3, h4, h5⟩ := zbig hn (c := c) (by omega) h1
    refine Bool.eq_false_iff.mpr (fun q => ?_)
    have h6 := ((vch_iff.mp q).1 s h3 h5).2.2
    unfold zcame at h6
    rw [show decide (s < dn D) = false from decide_eq_false (by omega)] at h6; cases h6)
  rw [show 2 ^ dn D + (64 - 2 ^ dn D) = 64 by omega] at this
  exact this
theorem vmn_b {P : Nat → Bool} {f : Nat → Nat} : ∀ n, vmn P f n ≤ 9999
  | 0 => Nat.le_refl _
  | n + 1 => by
    have := vmn_b (P := P) (f := f) n
    rw [vmn_s]; split
    · next q => have := q.2; omega
    · exact this
theorem K_least {Ln : Nat} {D : Nat → Nat → Nat} {co : Nat → Int} {lw : Nat} {I A : Nat → Nat → Int32} {Q : Int32 → (Nat → Nat → Int32) → Prop} (hd : BD D) (hco : CD co) (hb : RB D I A) (hc : RC D co lw I A) (hnb : 0 < dn D) (hq : ∀ A', (∀ a, a ≠ 59 → a ≠ 60 → a ≠ 61 → A' a = A a) → Q (zi (vv D co 60 0)) A') : W_X8_least_r44 Ln I A Q := by
  have hn := hd.1
  have hpw := zpw hn
  have hall : ∀ (B : Nat → Nat → Int32) (Q3 : Int32 → Prop), Q3 (zi ((2 ^ dn D - 1 : Nat) : Int)) → W_X8_all_r44 Ln I B Q3 := fun B Q3 h => by
    unfold W_X8_all_r44
    rw [hb.1, zAll2 hn]; exact h
  have hfr : ∀ {B : Nat → Nat → Int32}, (∀ a, a ≠ 59 → a ≠ 60 → a ≠ 61 → B a = A a) → RB D I B ∧ RC D co lw I B := by
    intro B f
    refine ⟨⟨hb.1, hb.2.1, hb.2.2.1, hb.2.2.2.1, fun s hs => ?_⟩, hc.1, hc.2.1, fun s hs => ?_⟩
    · rw [f 45 (by decide) (by decide) (by decide), f 46 (by decide) (by decide) (by decide), f 47 (by decide) (by decide) (by decide), f 48 (by decide) (by decide) (by decide)]; exact hb.2.2.2.2 s hs
    · rw [f 49 (by decide) (by decide) (by decide)]; exact hc.2.2 s hs
  unfold W_X8_least_r44
  rw [hb.1, K_shades hn]
  refine ⟨fun _ => ?_, fun c => absurd hnb c⟩
  refine zLoop.inv (fun i σ => σ.1 = zi i ∧ (∀ a, a ≠ 59 → a ≠ 60 → a ≠ 61 → σ.2 a = A a) ∧ ∀ c, c < i → σ.2 61 c = (bif zmc D co (fun s => c.testBit s) then 1 else 0) ∧ σ.2 60 c = zi ((vv D co 0 c : Nat) : Int)) (2 ^ dn D) ⟨rfl, fun _ _ _ _ => rfl, fun c h => by omega⟩ ?_ ?_
  · rintro i ⟨v1, B⟩ hi ⟨g1, g2, g3⟩ K hk
    simp only at g1 g2 g3
    subst g1
    obtain ⟨hb2, hc2⟩ := hfr g2
    have hz := zin_n (L := 64) (s := i) (by omega) (by decide)
    simp only [L_X8_least_r44_12]
    refine hall _ _ ?_
    rw [zlt_n (by omega) (by omega), zi_nat' (show i < 2147483648 by omega), zi_succ]
    have hst : ∀ (b : Bool) (r9 : Int32), zmc D co (fun s => i.testBit s) = b → vp_nar .boolean r9 = (bif b then 1 else 0) → zin (zi i) 64 = true ∧ zin (zi i) 64 = true ∧ K (zi ((i + 1 : Nat) : Int), zw (zw B 61 i (vp_nar .boolean r9)) 60 i 0) := by
      intro b r9 e1 e2
      refine ⟨hz, hz, hk _ ⟨rfl, fun a h1 h2 h3 => (zw_ne h2).trans ((zw_ne h3).trans (g2 a h1 h2 h3)), fun c hc3 => ?_⟩⟩
      dsimp only
      rw [zw_ne (show (61 : Nat) ≠ 60 by decide), zw_at, zw_at, zw_ne (show (60 : Nat) ≠ 61 by decide)]
      by_cases e : c = i
      · rw [if_pos e, if_pos e, e, e1]; exact ⟨e2, rfl⟩
      · rw [if_neg e, if_neg e]; exact g3 c (by omega)
    refine ⟨fun c => by omega, fun _ => ?_⟩
    rw [zm_of (show i < 64 by omega)] at hst ⊢
    refine K_mayCross hd hco hb2 hc2 (fun s h1 _ => zcs2_hi (m := fun _ => i) (n := dn D) (x := 0) hi h1) (fun h => ?_) (fun h => ?_)
    · exact hst true 1 h (by decide)
    · exact hst false 0 h (by decide)
  · rintro ⟨v1, B⟩ ⟨g1, g2, g3⟩ K
    simp only at g1 g2 g3
    subst g1
    simp only [L_X8_least_r44_12]
    refine hall _ _ ?_
    rw [zlt_n (by omega) (by omega)]
    refine ⟨fun _ => ?_, fun c => absurd (by omega) c⟩
    refine zLoop.inv (fun k σ => σ.1 = zi (59 - (k : Int)) ∧ (∀ a, a ≠ 59 → a ≠ 60 → a ≠ 61 → σ.2 a = A a) ∧ (∀ c, c < 2 ^ dn D → σ.2 61 c = (bif zmc D co (fun s => c.testBit s) then 1 else 0)) ∧ ∀ o, o < 2 ^ dn D → σ.2 60 o = zi ((vv D co k o : Nat) : Int)) 60 ⟨rfl, g2, fun c h => (g3 c h).1, fun c h => (g3 c h).2⟩ ?_ ?_
    · rintro k ⟨v1, B⟩ hk60 ⟨k1, k2, k3, k4⟩ K2 hk2
      simp only at k1 k2 k3 k4
      subst k1
      obtain ⟨hb2, hc2⟩ := hfr k2
      have hdk : (59 : Int) - (k : Int) = ((59 - k : Nat) : Int) := by omega
      simp only [L_X8_least_r44_47]
      rw [hdk, zgt0 (by omega) (by omega)]
      refine ⟨fun c => by omega, fun _ => K_cameBy hd hb2 (by omega) ?_⟩
      refine zLoop.inv (fun o σ => σ.1 = zi o ∧ (∀ a, a ≠ 59 → σ.2 a = B a) ∧ ∀ q, q < o → σ.2 59 q = zi ((vv D co (k + 1) q : Nat) : Int)) (2 ^ dn D) ⟨rfl, fun _ _ => rfl, fun q h => by omega⟩ ?_ ?_
      · rintro o ⟨v3, B2⟩ ho ⟨m1, m2, m3⟩ K3 hk3
        simp only at m1 m2 m3
        subst m1
        have hzo := zin_n (L := 64) (s := o) (by omega) (by decide)
        simp only [L_X8_least_r44_59]
        refine hall _ _ ?_
        rw [zlt_n (by omega) (by omega)]
        refine ⟨fun c => by omega, fun _ => ?_⟩
        refine zLoop.inv (fun c σ => σ.1 = zi ((vmn (vch D co (59 - k) o) (fun c => vw D (59 - k) o c + vv D co k (o ||| c)) c : Nat) : Int) ∧ σ.2 = zi c) (2 ^ dn D) ⟨rfl, rfl⟩ ?_ ?_
        · rintro c ⟨v4, v5⟩ hc6 ⟨n1, n2⟩ K4 hk4
          simp only at n1 n2
          subst n1; subst n2
          have hc64 : c < 64 := by omega
          have ho64 : o < 64 := by omega
          have hvb := vmn_b (P := vch D co (59 - k) o) (f := fun c => vw D (59 - k) o c + vv D co k (o ||| c)) c
          have hzc := zin_n (L := 64) (s := c) (by omega) (by decide)
          have hocn : o ||| c < 2 ^ dn D := Nat.or_lt_two_pow ho hc6
          have hzoc := zin_n (L := 64) (s := o ||| c) (by omega) (by decide)
          have hwl : vw D (59 - k) o c ≤ 6 := zct_le _
          have hvl := vv_le (D := D) (co := co) k (o ||| c)
          have hs := vmn_s (P := vch D co (59 - k) o) (f := fun c => vw D (59 - k) o c + vv D co k (o ||| c)) (c := c)
          have hch : vch D co (59 - k) o c = (zmc D co (fun s => c.testBit s) && (znone (fun s => c.testBit s && o.testBit s) && znone (fun s => c.testBit s && !zcame D (59 - k) s))) := rfl
          have hsk : vch D co (59 - k) o c = false → K4 (zi ((vmn (vch D co (59 - k) o) (fun c => vw D (59 - k) o c + vv D co k (o ||| c)) c : Nat) : Int), zi ((c + 1 : Nat) : Int)) := fun h => hk4 _ ⟨by rw [hs, if_neg (fun q => by rw [h] at q; cases q.1)], rfl⟩
          simp only [L_X8_least_r44_75]
          refine hall _ _ ?_
          rw [zlt_n (by omega) (by omega), zi_nat' (show c < 2147483648 by omega), m2 61 (by decide), k3 c hc6, zi_succ c]
          refine ⟨fun q => by omega, fun _ => ⟨hzc, fun q => hsk ?_, fun q => ?_⟩⟩
          · cases h : zmc D co (fun s => c.testBit s) with
            | false => rw [hch, h]; rfl
            | true => rw [h] at q; exact absurd q (by decide)
          · have hmc : zmc D co (fun s => c.testBit s) = true := by
              cases h : zmc D co (fun s => c.testBit s) with
              | true => rfl
              | false => rw [h] at q; exact absurd rfl q
            rw [show zi (o : Int) ||| zi (c : Int) = zi ((o ||| c : Nat) : Int) from zi_or ho64 hc64, zi_nat' (show o ||| c < 2147483648 by omega), m2 60 (by decide), k4 _ hocn]
            rw [show zi (c : Int) &&& zi (o : Int) = zm (fun s => c.testBit s && o.testBit s) from by rw [zm_of hc64, zm_of ho64, zm_and], show zi (c : Int) &&& (zm (zcame D (59 - k)) ^^^ (-1)) = zm (fun s => c.testBit s && !zcame D (59 - k) s) from by rw [zm_of hc64, zm_andnot], show (zm (zcame D (59 - k)) &&& (zi (o : Int) ^^^ (-1))) &&& (zi (c : Int) ^^^ (-1)) = zm (fun s => zcame D (59 - k) s && !o.testBit s && !c.testBit s) from by rw [zm_of ho64, zm_of hc64, zm_andnot, zm_andnot], znz, znz]
            refine ⟨fun q2 => hsk ?_, fun q2 => ⟨fun q3 => hsk ?_, fun q3 => K_bits ⟨hzoc, ?_⟩⟩⟩
            · rw [hch, q2, Bool.false_and, Bool.and_false]
            · rw [hch, q3, Bool.and_false, Bool.and_false]
            · have hok : vch D co (59 - k) o c = true := by
                rw [hch, hmc, Bool.not_eq_false _ |>.mp q2, Bool.not_eq_false _ |>.mp q3]; rfl
              rw [show zi ((zct (fun s => zcame D (59 - k) s && !o.testBit s && !c.testBit s) : Nat) : Int) + zi ((vv D co k (o ||| c) : Nat) : Int) = zi ((vw D (59 - k) o c + vv D co k (o ||| c) : Nat) : Int) from by rw [zi_add]; rfl, zle_n (by omega) (by omega)]
              refine ⟨fun q4 x7 e7 => hk4 _ ⟨?_, rfl⟩, fun q4 x8 e8 => hk4 _ ⟨?_, rfl⟩⟩
              · dsimp only
                rw [hs, if_neg (fun q5 => by have := q5.2; omega)]
              · dsimp only
                rw [hs, if_pos ⟨hok, by omega⟩, e8]
        · rintro ⟨v4, v5⟩ ⟨n1, n2⟩ K4
          simp only at n1 n2
          subst n1; subst n2
          simp only [L_X8_least_r44_75]
          refine hall _ _ ?_
          rw [zlt_n (by omega) (by omega), zi_nat' (show o < 2147483648 by omega), zi_succ o]
          refine ⟨fun _ => ⟨hzo, hk3 _ ⟨rfl, fun a ha => (zw_ne ha).trans (m2 a ha), fun q hq2 => ?_⟩⟩, fun c => absurd (by omega) c⟩
          dsimp only
          rw [zw_at]
          by_cases e : q = o
          · rw [if_pos e, e, vv_all hn]
          · rw [if_neg e]; exact m3 q (by omega)
      · rintro ⟨v3, B2⟩ ⟨m1, m2, m3⟩ K3
        simp only at m1 m2 m3
        subst m1
        simp only [L_X8_least_r44_59]
        refine hall _ _ ?_
        rw [zlt_n (by omega) (by omega)]
        refine ⟨fun _ => ?_, fun c => absurd (by omega) c⟩
        refine zLoop.inv (fun o σ => σ.1 = zi o ∧ (∀ a, a ≠ 60 → σ.2 a = B2 a) ∧ ∀ q, q < o → σ.2 60 q = zi ((vv D co (k + 1) q : Nat) : Int)) (2 ^ dn D) ⟨rfl, fun _ _ => rfl, fun q h => by omega⟩ ?_ ?_
        · rintro o ⟨v3, B3⟩ ho ⟨n1, n2, n3⟩ K4 hk4
          simp only at n1 n2 n3
          subst n1
          have hzo := zin_n (L := 64) (s := o) (by omega) (by decide)
          simp only [L_X8_least_r44_173]
          refine hall _ _ ?_
          rw [zlt_n (by omega) (by omega), zi_nat' (show o < 2147483648 by omega), zi_succ o, n2 59 (by decide), m3 o ho]
          refine ⟨fun c => by omega, fun _ => ⟨hzo, hzo, hk4 _ ⟨rfl, fun a ha => (zw_ne ha).trans (n2 a ha), fun q hq2 => ?_⟩⟩⟩
          dsimp only
          rw [zw_at]
          by_cases e : q = o
          · rw [if_pos e, e]
          · rw [if_neg e]; exact n3 q (by omega)
        · rintro ⟨v3, B3⟩ ⟨n1, n2, n3⟩ K4
          simp only at n1 n2 n3
          subst n1
          simp only [L_X8_least_r44_173]
          refine hall _ _ ?_
          rw [zlt_n (by omega) (by omega)]
          refine ⟨fun _ => hk2 _ ⟨?_, fun a h1 h2 h3 => (n2 a h2).trans ((m2 a h1).trans (k2 a h1 h2 h3)), fun c h => ?_, n3⟩, fun c => absurd (by omega) c⟩
          · dsimp only
            rw [zqm1o, zi_add]; congr 1; omega
          · dsimp only
            rw [n2 61 (by decide), m2 61 (by decide)]; exact k3 c h
    · rintro ⟨v1, B⟩ ⟨k1, k2, k3, k4⟩ K2
      simp only at k1 k2 k3 k4
      subst k1
      simp only [L_X8_least_r44_47]
      refine ⟨fun _ => ?_, fun c => absurd (by decide) c⟩
      rw [k4 0 hpw.1]
      exact hq B k2
theorem OP_least {Ln : Nat} {xs : Nat → Int32} {I A : Nat → Nat → Int32} {Q : Int32 → (Nat → Nat → Int32) → Prop} (hv : INV xs I A) (hq : ∀ x A', A' 0 = A 0 → (∀ Q2 : Int32 → (Nat → Nat → Int32) → Prop, (∀ A2, INV xs I A2 → Q2 x A2) → W_X8_least_r44 Ln I A' Q2) → Q x A') : W_X7_least_r1 Ln I A Q := by
  obtain ⟨D, E, hv⟩ := hv
  obtain ⟨hd, he, hb, hr, hc, ⟨h19, h42⟩, hl, hrd, hvn, ht, hsh, h0⟩ := hv.parts
  have hn := hd.1
  have hco := zco_ok hd he
  unfold W_X7_least_r1
  by_cases hnb : 0 < dn D
  · refine C_noBank_y hb.1 hn hnb ⟨fun _ => C_whoPays_42 hd hco hb h42 (C_leastWaiting hd hb (fun A1 f1 => hq _ _ (f1 0 (by decide)) (fun Q2 h2 => ?_))), fun c => absurd rfl c⟩
    have hv1 : Iv xs D E I A1 := hv.fr (fun _ _ _ => rfl) (fun a ha => f1 a (by rintro rfl; cases ha))
    obtain ⟨_, _, _, hr, hc, _, _, _, _, _, _, _⟩ := hv1.parts
    exact K_least hd hco hr hc hnb (fun A2 f2 => h2 _ ⟨D, E, hv1.fr (fun _ _ _ => rfl) (fun a ha => f2 a (by rintro rfl; cases ha) (by rintro rfl; cases ha) (by rintro rfl; cases ha))⟩)
  · refine C_noBank_n hb.1 (by omega) ⟨fun c => absurd c (by decide), fun _ => hq _ _ rfl (fun Q2 h2 => ?_)⟩
    unfold W_X8_least_r44
    rw [hr.1, K_shades hn]
    exact ⟨fun c => absurd c hnb, fun _ => h2 _ ⟨D, E, hv⟩⟩
