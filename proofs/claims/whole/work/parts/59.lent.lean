/-! coins lent for a try -/
def ctry (co : Nat → Int) (a b : Nat) (s : Nat) : Int := co s - (if a = s then ((1 : Nat) : Int) else 0) + (if b = s then ((1 : Nat) : Int) else 0)
theorem ctry_ok {co : Nat → Int} (h : ∀ s, -18 ≤ co s ∧ co s ≤ 27) (a b : Nat) : CD (ctry co a b) := by
  intro s
  have := h s
  unfold ctry
  split <;> split <;> omega
theorem C_tryLoan {Ln : Nat} {D E : Nat → Nat → Nat} {I A : Nat → Nat → Int32} {a b : Nat} {Q : (Nat → Nat → Int32) → Prop} (hd : BD D) (he : BE D E) (hb : CB D I A) (h19 : I 1 9 = zi (elw E)) (h42 : CC D (zco D E) 42 A) (ha : a < dn D) (hbn : b < dn D) (hab : a ≠ b) (hq : ∀ A', CF A A' → VY D (ctry (zco D E) a b) (zRo D (ctry (zco D E) a b) (elw E)) 36 37 38 39 A' → Q A') : W_X7_tryLoan_r1 Ln I A (zi a) (zi b) Q := by
  have hn := hd.1
  have hz := zin_n (L := 6) (s := a) (by omega) (by decide)
  have hz2 := zin_n (L := 6) (s := b) (by omega) (by decide)
  unfold W_X7_tryLoan_r1
  rw [zi_nat' (by omega), zi_nat' (by omega), h19]
  have hcp : ∀ q, q < 6 → zcp A 42 43 0 0 6 43 q = A 42 q := by
    intro q hq2
    show (if 0 ≤ q ∧ q < 0 + 6 then A 42 (0 + (q - 0)) else A 43 q) = A 42 q
    rw [if_pos (by omega)]; congr 1; omega
  have hne : ∀ x, x ≠ 43 → zcp A 42 43 0 0 6 x = A x := fun x hx => by unfold zcp va_up; rw [if_neg hx]
  refine ⟨hz, hz, hz2, hz2, ?_⟩
  refine C_gt_43 (co := ctry (zco D E) a b) hd (ctry_ok (zco_bd hd he) a b) (hb.fr (fun x h1 h2 => by rw [zw_ne (by omega), zw_ne (by omega), hne x (by omega)])) (fun s hs => ?_) he.1 (fun A' f hvy => hq A' (fun x h1 h2 => by rw [f x h1, zw_ne h2, zw_ne h2, hne x h2]) hvy)
  have hn6 := hd.1
  rw [zw_at, zw_at, zw_at, hcp a (by omega), hcp b (by omega), hcp s (by omega), h42 a ha, h42 b hbn, h42 s hs, zq1, zi_sub]
  unfold ctry
  by_cases e1 : s = b
  · subst e1
    rw [if_pos rfl, if_pos rfl, if_neg (show ¬ s = a from fun q => hab q.symm), if_neg hab, zi_add]; congr 1; omega
  · rw [if_neg e1, if_neg (show ¬ b = s from fun q => e1 q.symm)]
    by_cases e2 : s = a
    · subst e2; rw [if_pos rfl, if_pos rfl]; congr 1; omega
    · rw [if_neg e2, if_neg (show ¬ a = s from fun q => e2 q.symm)]; congr 1; omega
theorem K_lend1 {Ln : Nat} {n a b : Nat} {co : Nat → Int} {I A : Nat → Nat → Int32} {Q : (Nat → Nat → Int32) → Prop} (hn : n ≤ 6) (ha : a < n) (hb : b < n) (hc : ∀ s, s < n → A 49 s = zi (co s)) (hq : ∀ A', (∀ x, x ≠ 49 → A' x = A x) → (∀ s, s < n → A' 49 s = zi (ctry co a b s)) → Q A') : W_X8_lend_r44 Ln I A (zi a) (zi b) 1 Q := K_lend (c := 1) hn ha hb hc hq
theorem ctry_back {co : Nat → Int} {a b s : Nat} : ctry (ctry co a b) b a s = co s := by
  unfold ctry
  split <;> split <;> omega
def zpy (D E : Nat → Nat → Nat) (b : Nat) (ok : Nat → Bool) (a : Nat) : Bool := !(a == b) && (decide (1 ≤ zco D E a) && ok a)
theorem OP_payers {Ln : Nat} {xs : Nat → Int32} {I A : Nat → Nat → Int32} {v : Int32} {Q : Int32 → (Nat → Nat → Int32) → Prop} (hv : INV xs I A) (hq : ∀ x A', A' 0 = A 0 → (∀ Q2 : Int32 → (Nat → Nat → Int32) → (Nat → Nat → Int32) → Prop, (∀ I2 A2, INV xs I2 A2 → Q2 x I2 A2) → W_X8_payers_r44 Ln I A' v Q2) → Q x A') : W_X7_payers_r1 Ln I A v Q := by
  obtain ⟨D, E, hv⟩ := hv
  obtain ⟨hd, he, hb, hr, hc, ⟨h19, h42⟩, hl, hrd, hvn, ht, hsh, h0⟩ := hv.parts
  have hn := hd.1
  have hco := zco_ok hd he
  have hcb := zco_bd hd he
  have hi : INV xs I A := ⟨D, E, hv⟩
  unfold W_X7_payers_r1
  by_cases hs0 : 0 ≤ v.toInt ∧ v.toInt < dn D
  · obtain ⟨b, hbn, rfl⟩ := zasn hs0
    refine C_isShade_y hb.1 hn hbn ⟨fun _ => ?_, fun c => absurd (show (1 : Int32) ≠ 0 by decide) c⟩
    generalize hok : (fun a => zsop E (zOn D (ctry (zco D E) a b) (elw E)) (erc E)) = ok
    have hok2 : ∀ a, zsop E (zOn D (ctry (zco D E) a b) (elw E)) (erc E) = ok a := fun a => congrFun hok a
    refine zLoop.inv (fun i σ => σ.1 = zm (zup (zpy D E b ok) i) ∧ σ.2.1 = zi i ∧ CF A σ.2.2) (dn D) ⟨zm_up0 _, rfl, CF.refl A⟩ ?_ ?_
    · rintro i ⟨v2, v3, A1⟩ hin ⟨g1, g2, g3⟩ K hk
      simp only at g1 g2 g3
      subst g1; subst g2
      have hz := zin_n (L := 6) (s := i) (by omega) (by decide)
      have hcs := hcb i
      have g42 : CC D (zco D E) 42 A1 := fun s hs => by rw [g3 42 (by decide) (by decide)]; exact h42 s hs
      simp only [L_X7_payers_r1_14]
      rw [hb.1, zle_n (by omega) (by omega), zeq_n (by omega) (by omega), zi_nat' (show i < 2147483648 by omega), g42 i hin, zq1, zi_le (by omega) (by omega) (by omega) (by omega), ← zq1, zi_succ]
      refine ⟨fun c => by omega, fun _ => ⟨fun c => hk _ ⟨?_, rfl, g3⟩, fun c => ⟨hz, fun c2 => ?_, fun c2 => hk _ ⟨?_, rfl, g3⟩⟩⟩⟩
      · exact zup_no (by unfold zpy; rw [show (i == b) = true from beq_iff_eq.mpr c]; rfl)
      · refine C_tryLoan hd he (hb.cf g3) h19 g42 hin hbn c (fun A2 f2 hvy => ?_)
        have g4 := g3.trans f2
        obtain ⟨_, _, _, _, _, _, _, hrd4, _, _, _, _⟩ := (hv.cf g4).parts
        have hp : zpy D E b ok i = ok i := by unfold zpy; rw [show (i == b) = false from beq_eq_false_iff_ne.mpr c, decide_eq_true c2]; rfl
        refine C_allSo hd he hrd4 hvy (fun q => ⟨fun q2 => absurd q2 (by decide), fun _ => hk _ ⟨?_, rfl, g4⟩⟩) (fun q => ⟨fun _ => hk _ ⟨?_, rfl, g4⟩, fun q2 => absurd rfl q2⟩)
        · exact zup_yes (by omega) (by rw [hp, ← hok2]; exact q)
        · exact zup_no (by rw [hp, ← hok2]; exact q)
      · exact zup_no (by unfold zpy; rw [decide_eq_false c2, Bool.false_and, Bool.and_false])
    · rintro ⟨v2, v3, A1⟩ ⟨g1, g2, g3⟩ K
      simp only at g1 g2 g3
      subst g1; subst g2
      simp only [L_X7_payers_r1_14]
      rw [hb.1, zle_n (by omega) (by omega)]
      refine ⟨fun _ => hq _ _ (g3 0 (by decide) (by decide)) (fun Q2 h2 => ?_), fun c => absurd (Nat.le_refl _) c⟩
      have hv1 := hv.cf g3
      obtain ⟨_, _, _, hr, hc, _, _, hrd, _, _, _, _⟩ := hv1.parts
      unfold W_X8_payers_r44
      refine K_noShade_y hr.1 hn hbn ⟨fun _ => ?_, fun c => absurd rfl c⟩
      refine zLoop.inv (fun i σ => σ.1 = zm (zup (zpy D E b ok) i) ∧ σ.2.1 = zi i ∧ RG I A1 σ.2.2.1 σ.2.2.2 ∧ RC D (zco D E) (elw E) σ.2.2.1 σ.2.2.2) (dn D) ⟨zm_up0 _, rfl, RG.refl I A1, hc⟩ ?_ ?_
      · rintro i ⟨v2, v3, J, B⟩ hin ⟨g1, g2, g4, g5⟩ K hk
        simp only at g1 g2 g4 g5
        subst g1; subst g2
        have hz := zin_n (L := 6) (s := i) (by omega) (by decide)
        have hcs := hcb i
        simp only [L_X8_payers_r44_14]
        rw [(hr.g g4).1, zle_n (by omega) (by omega), zeq_n (by omega) (by omega), zi_nat' (show i < 2147483648 by omega), g5.2.2 i hin, zq0, zi_le (by omega) (by omega) (by omega) (by omega), ← zq0, zi_succ]
        refine ⟨fun c => by omega, fun _ => ⟨fun c => hk _ ⟨?_, rfl, g4, g5⟩, fun c => ⟨hz, fun c2 => hk _ ⟨?_, rfl, g4, g5⟩, fun c2 => ?_⟩⟩⟩
        · exact zup_no (by unfold zpy; rw [show (i == b) = true from beq_iff_eq.mpr c]; rfl)
        · exact zup_no (by unfold zpy; rw [decide_eq_false (by omega), Bool.false_and, Bool.and_false])
        · refine K_lend1 hn hin hbn g5.2.2 (fun A2 f2 e2 => ?_)
          have hp : zpy D E b ok i = ok i := by unfold zpy; rw [show (i == b) = false from beq_eq_false_iff_ne.mpr c, decide_eq_true (by omega)]; rfl
          have g6 : RG I A1 J A2 := g4.a49 f2
          have hJ : ∀ (I4 A5 : Nat → Nat → Int32) (s1 : Int32), RF J A2 I4 A5 → zm (zup (zpy D E b ok) i) ||| s1 = zm (zup (zpy D E b ok) (i + 1)) → J_X8_payers_r44_58_s2 Ln I4 A5 (zi b) (zm (zup (zpy D E b ok) i)) (zi i) (zm (zup (zpy D E b ok) i)) s1 K Q2 := by
            intro I4 A5 s1 f3 e3
            unfold J_X8_payers_r44_58_s2
            refine K_lend1 hn hbn hin (co := ctry (zco D E) i b) (fun s hs => by rw [f3.2.2 49 (by decide) (by decide)]; exact e2 s hs) (fun A6 f6 e6 => ?_)
            rw [e3, zi_succ]
            refine hk _ ⟨rfl, rfl, (g6.trans f3.g).a49 f6, ⟨?_, he.1, fun s hs => (e6 s hs).trans (by rw [ctry_back])⟩⟩
            show I4 44 10 = _
            rw [f3.2.1 10 (by decide) (by decide)]; exact g5.1
          refine K_areSo (co := ctry (zco D E) i b) (lw := elw E) hd he (ctry_ok hcb i b) (hr.g g6) ⟨g5.1, he.1, e2⟩ (hrd.g g6) (fun I4 A5 f3 q => ⟨fun q2 => absurd q2 (by decide), fun _ => hJ _ _ _ f3 ?_⟩) (fun I4 A5 f3 q => ⟨fun _ => hJ _ _ _ f3 ?_, fun q2 => absurd rfl q2⟩)
          · exact zup_yes (by omega) (by rw [hp, ← hok2]; exact q)
          · rw [zm_or0]; exact zup_no (by rw [hp, ← hok2]; exact q)
      · rintro ⟨v2, v3, J, B⟩ ⟨g1, g2, g4, g5⟩ K
        simp only at g1 g2 g4 g5
        subst g1; subst g2
        simp only [L_X8_payers_r44_14]
        rw [(hr.g g4).1, zle_n (by omega) (by omega)]
        exact ⟨fun _ => h2 _ _ ⟨D, E, hv1.g g4 g5⟩, fun c => absurd (Nat.le_refl _) c⟩
  · refine C_isShade_n hb.1 hn hs0 ⟨fun c => absurd rfl c, fun _ => hq _ _ rfl (fun Q2 h2 => ?_)⟩
    unfold W_X8_payers_r44
    exact K_noShade_n hr.1 hn hs0 ⟨fun c => absurd c (by decide), fun _ => h2 _ _ hi⟩
/-- the gain so far: the best loan, what all wait then -/
noncomputable def zgn (D : Nat → Nat → Nat) (co : Nat → Int) (lw : Nat) : Nat → Int × Int
  | 0 => (-9, zwall D (zOn D co lw) (dn D))
  | x + 1 => if x / dn D ≠ x % dn D ∧ 1 ≤ co (x / dn D) ∧ zwall D (zOn D (ctry co (x / dn D) (x % dn D)) lw) (dn D) < (zgn D co lw x).2 then (10 * ((x / dn D : Nat) : Int) + ((x % dn D : Nat) : Int), zwall D (zOn D (ctry co (x / dn D) (x % dn D)) lw) (dn D)) else zgn D co lw x
theorem zgn_s {D : Nat → Nat → Nat} {co : Nat → Int} {lw x : Nat} : zgn D co lw (x + 1) = if x / dn D ≠ x % dn D ∧ 1 ≤ co (x / dn D) ∧ zwall D (zOn D (ctry co (x / dn D) (x % dn D)) lw) (dn D) < (zgn D co lw x).2 then (10 * ((x / dn D : Nat) : Int) + ((x % dn D : Nat) : Int), zwall D (zOn D (ctry co (x / dn D) (x % dn D)) lw) (dn D)) else zgn D co lw x := rfl
theorem zwall_bd {D : Nat → Nat → Nat} (hd : BD D) (co : Nat → Int) (lw : Nat) : -600 ≤ zwall D (zOn D co lw) (dn D) ∧ zwall D (zOn D co lw) (dn D) ≤ 600 := by
  have h := zwall_le (on := zOn D co lw) hd (zOn_le D co lw) (dn D)
  have hn := hd.1
  omega
theorem zgn_bd {D : Nat → Nat → Nat} (hd : BD D) (co : Nat → Int) (lw : Nat) : ∀ x, -600 ≤ (zgn D co lw x).2 ∧ (zgn D co lw x).2 ≤ 600
  | 0 => zwall_bd hd co lw
  | x + 1 => by
    rw [zgn_s]
    split
    · exact zwall_bd hd _ lw
    · exact zgn_bd hd co lw x
theorem zdm {n x : Nat} (hn : n ≤ 6) (h0 : 0 < n) (hx : x < n * n) : zi (x : Int) / zi (n : Int) = zi ((x / n : Nat) : Int) ∧ zi (x : Int) - zi (x : Int) / zi (n : Int) * zi (n : Int) = zi ((x % n : Nat) : Int) :=
  (show ∀ n : Nat, n < 7 → 0 < n → ∀ x : Nat, x < 36 → zi (x : Int) / zi (n : Int) = zi ((x / n : Nat) : Int) ∧ zi (x : Int) - zi (x : Int) / zi (n : Int) * zi (n : Int) = zi ((x % n : Nat) : Int) from by decide +kernel) n (by omega) h0 x (by have : n * n ≤ 6 * 6 := Nat.mul_le_mul hn hn; omega)
theorem C_wAll {Ln : Nat} {D : Nat → Nat → Nat} {co : Nat → Int} {lw : Nat} {I A : Nat → Nat → Int32} {Q : Int32 → Prop} (hd : BD D) (hb : CB D I A) (hvy : VY D co (zRo D co lw) 36 37 38 39 A) (hq : Q (zi (zwall D (zOn D co lw) (dn D)))) : W_X6_waitOfAll_r35 Ln I A Q := C_waitOfAll_35 (on := zOn D co lw) hd hb hvy.1 (zOn_99 D co lw) hq
theorem OP_gain {Ln : Nat} {xs : Nat → Int32} {I A : Nat → Nat → Int32} {v : Int32} {Q : Int32 → (Nat → Nat → Int32) → Prop} (hv : INV xs I A) (hq : ∀ x A', A' 0 = A 0 → (∀ Q2 : Int32 → (Nat → Nat → Int32) → (Nat → Nat → Int32) → Prop, (∀ I2 A2, INV xs I2 A2 → Q2 x I2 A2) → W_X8_gain_r44 Ln I A' v Q2) → Q x A') : W_X7_gain_r1 Ln I A v Q := by
  obtain ⟨D, E, hv⟩ := hv
  obtain ⟨hd, he, hb, hr, hc, ⟨h19, h42⟩, hl, hrd, hvn, ht, hsh, h0⟩ := hv.parts
  have hn := hd.1
  have hco := zco_ok hd he
  have hcb := zco_bd hd he
  have hi : INV xs I A := ⟨D, E, hv⟩
  unfold W_X7_gain_r1
  by_cases hw : 0 ≤ v.toInt ∧ v.toInt < (2 : Nat)
  · obtain ⟨w, hw2, rfl⟩ := zasn hw
    have hin : ∀ {J B : Nat → Nat → Int32} {Q3 : Int32 → Prop}, Q3 1 → W_X8_in Ln J B (Int32.toInt64 (zi w)) 0 1 Q3 := fun h3 => K_in_y (by rw [zi_toInt (by omega) (by omega)]; show (0 : Int) ≤ w; omega) (by rw [zi_toInt (by omega) (by omega)]; show (w : Int) ≤ 1; omega) h3
    rw [zlt0, zi_toInt (by omega) (by omega), Int32.le_iff_toInt_le, show (1 : Int32).toInt = 1 from rfl, zi_toInt (by omega) (by omega)]
    refine ⟨fun c => by omega, fun _ => ⟨fun _ => ?_, fun c => by omega⟩⟩
    by_cases hnb : 0 < dn D
    · refine C_noBank_y hb.1 hn hnb ⟨fun _ => ?_, fun c => absurd rfl c⟩
      obtain ⟨ro, hro, hvy0⟩ := hvn hnb
      have hvy := VY_cg (zSo_one hro (zRo_so _ _ _)) hvy0
      refine C_waitOfAll_28 (on := zOn D (zco D E) (elw E)) hd hb hvy.1 (zOn_99 _ _ _) ?_
      generalize hg : zgn D (zco D E) (elw E) = g
      have hg0 : zwall D (zOn D (zco D E) (elw E)) (dn D) = (g 0).2 := by rw [← hg]; rfl
      have hg1 : (-9 : Int32) = zi (g 0).1 := by rw [← hg]; exact zqm9
      have hgs : ∀ x, g (x + 1) = if x / dn D ≠ x % dn D ∧ 1 ≤ zco D E (x / dn D) ∧ zwall D (zOn D (ctry (zco D E) (x / dn D) (x % dn D)) (elw E)) (dn D) < (g x).2 then (10 * ((x / dn D : Nat) : Int) + ((x % dn D : Nat) : Int), zwall D (zOn D (ctry (zco D E) (x / dn D) (x % dn D)) (elw E)) (dn D)) else g x := fun x => by rw [← hg]; exact zgn_s
      have hgb : ∀ x, -600 ≤ (g x).2 ∧ (g x).2 ≤ 600 := fun x => by rw [← hg]; exact zgn_bd hd _ _ x
      rw [hg0, hg1]
      refine zLoop.inv (fun i σ => σ.1 = zi (g (dn D * i)).1 ∧ σ.2.1 = zi (g (dn D * i)).2 ∧ σ.2.2.1 = zi i ∧ CF A σ.2.2.2) (dn D) ⟨rfl, rfl, rfl, CF.refl A⟩ ?_ ?_
      · rintro i ⟨v2, v3, v4, A1⟩ hi3 ⟨g1, g2, g3, g4⟩ K hk
        simp only at g1 g2 g3 g4
        subst g1; subst g2; subst g3
        simp only [L_X7_gain_r1_36]
        rw [hb.1, zle_n (by omega) (by omega)]
        refine ⟨fun c => by omega, fun _ => ?_⟩
        refine zLoop.inv (fun j σ => σ.1 = zi (g (dn D * i + j)).1 ∧ σ.2.1 = zi (g (dn D * i + j)).2 ∧ σ.2.2.1 = zi j ∧ CF A σ.2.2.2) (dn D) ⟨rfl, rfl, rfl, g4⟩ ?_ ?_
        · rintro j ⟨v2, v3, v4, A1⟩ hj ⟨g1, g2, g3, g4⟩ K2 hk2
          simp only at g1 g2 g3 g4
          subst g1; subst g2; subst g3
          have hz := zin_n (L := 6) (s := i) (by omega) (by decide)
          have hcs := hcb i
          have g42 : CC D (zco D E) 42 A1 := fun s hs => by rw [g4 42 (by decide) (by decide)]; exact h42 s hs
          have hdv : (dn D * i + j) / dn D = i := by rw [Nat.mul_add_div hnb, Nat.div_eq_of_lt hj, Nat.add_zero]
          have hmd : (dn D * i + j) % dn D = j := by rw [Nat.mul_add_mod, Nat.mod_eq_of_lt hj]
          have hgs2 := hgs (dn D * i + j)
          rw [hdv, hmd] at hgs2
          have hgb2 := hgb (dn D * i + j)
          simp only [L_X7_gain_r1_51]
          rw [hb.1, zle_n (by omega) (by omega), zeq_n (by omega) (by omega), zi_nat' (show i < 2147483648 by omega), g42 i hi3, zq1, zi_le (by omega) (by omega) (by omega) (by omega), ← zq1, zi_succ j]
          refine ⟨fun c => by omega, fun _ => ⟨fun c => ?_, fun c => ⟨hz, fun c2 => ?_, fun c2 => ?_⟩⟩⟩
          · rw [if_neg (fun q => q.1 c)] at hgs2
            exact hk2 _ ⟨by rw [show dn D * i + (j + 1) = dn D * i + j + 1 from rfl, hgs2], by rw [show dn D * i + (j + 1) = dn D * i + j + 1 from rfl, hgs2], rfl, g4⟩
          · refine C_tryLoan hd he (hb.cf g4) h19 g42 hi3 hj c (fun A2 f2 hvy2 => ?_)
            have g5 := g4.trans f2
            have hwb := zwall_bd hd (ctry (zco D E) i j) (elw E)
            refine C_wAll hd (hb.cf g5) hvy2 ⟨fun q => ?_, fun q => C_wAll hd (hb.cf g5) hvy2 (fun x6 e6 => ?_)⟩
            · rw [zi_le (by omega) (by omega) (by omega) (by omega)] at q
              rw [if_neg (fun q2 => by omega)] at hgs2
              exact hk2 _ ⟨by rw [show dn D * i + (j + 1) = dn D * i + j + 1 from rfl, hgs2], by rw [show dn D * i + (j + 1) = dn D * i + j + 1 from rfl, hgs2], rfl, g5⟩
            · rw [zi_le (by omega) (by omega) (by omega) (by omega)] at q
              rw [if_pos ⟨c, c2, by omega⟩] at hgs2
              refine hk2 _ ⟨?_, by rw [show dn D * i + (j + 1) = dn D * i + j + 1 from rfl, hgs2], rfl, g5⟩
              rw [show dn D * i + (j + 1) = dn D * i + j + 1 from rfl, hgs2, e6, zq10, zi_mul, zi_add]
          · rw [if_neg (fun q => c2 q.2.1)] at hgs2
            exact hk2 _ ⟨by rw [show dn D * i + (j + 1) = dn D * i + j + 1 from rfl, hgs2], by rw [show dn D * i + (j + 1) = dn D * i + j + 1 from rfl, hgs2], rfl, g4⟩
        · rintro ⟨v2, v3, v4, A1⟩ ⟨g1, g2, g3, g4⟩ K2
          simp only at g1 g2 g3 g4
          subst g1; subst g2; subst g3
          simp only [L_X7_gain_r1_51]
          rw [hb.1, zle_n (by omega) (by omega), zi_succ]
          exact ⟨fun _ => hk _ ⟨rfl, rfl, rfl, g4⟩, fun c => absurd (Nat.le_refl _) c⟩
      · rintro ⟨v2, v3, v4, A1⟩ ⟨g1, g2, g3, g4⟩ K
        simp only at g1 g2 g3 g4
        subst g1; subst g2; subst g3
        simp only [L_X7_gain_r1_36]
        have hv1 := hv.cf g4
        obtain ⟨_, _, _, hr, hc, _, _, hrd, _, _, _, _⟩ := hv1.parts
        have hfin : ∀ x : Int32, (w = 0 → x = zi (g (dn D * dn D)).1) → (w = 1 → x = zi (g (dn D * dn D)).2) → Q x A1 := by
          intro x hx0 hx1
          refine hq _ _ (g4 0 (by decide) (by decide)) (fun Q2 h2 => ?_)
          unfold W_X8_gain_r44
          refine hin ⟨fun _ => ?_, fun c => absurd (show (1 : Int32) ≠ 0 by decide) c⟩
          rw [hr.1, K_shades hn]
          refine ⟨fun _ => ?_, fun c => absurd hnb c⟩
          refine K_waitsOfAll hd hco hr hc (zRo_so _ _ _) (fun I3 A4 f3 => ?_)
          rw [show zwall D (zrun D (zco D E) (zRo D (zco D E) (elw E)) 60).1 (dn D) = (g 0).2 from hg0, hg1]
          have h6 : dn D * dn D ≤ 6 * 6 := Nat.mul_le_mul hn hn
          refine zLoop.inv (fun x σ => σ.1 = zi (g x).1 ∧ σ.2.1 = zi (g x).2 ∧ σ.2.2.1 = zi x ∧ RG I A1 σ.2.2.2.1 σ.2.2.2.2 ∧ RC D (zco D E) (elw E) σ.2.2.2.1 σ.2.2.2.2) (dn D * dn D) ⟨rfl, rfl, rfl, f3.g, hc.fr f3⟩ ?_ ?_
          · rintro x ⟨v2, v3, v4, J, B⟩ hx ⟨k1, k2, k3, k4, k5⟩ K2 hk2
            simp only at k1 k2 k3 k4 k5
            subst k1; subst k2; subst k3
            obtain ⟨hdv, hmd⟩ := zdm hn hnb hx
            have ha : x / dn D < dn D := Nat.div_lt_of_lt_mul hx
            have hm : x % dn D < dn D := Nat.mod_lt _ hnb
            have hz := zin_n (L := 6) (s := x / dn D) (by omega) (by decide)
            have hcs := hcb (x / dn D)
            have hgs2 := hgs x
            have hgb2 := hgb x
            have hnz : ¬ zi (dn D : Int) = 0 := (K_shades hn).mpr hnb
            simp only [L_X8_gain_r44_34]
            rw [(hr.g k4).1, hdv, show zi ((dn D : Nat) : Int) * zi ((dn D : Nat) : Int) = zi ((dn D * dn D : Nat) : Int) from by rw [zi_mul]; rfl, zle_n (by omega) (by omega), zi_succ]
            rw [hdv] at hmd
            rw [hmd, zeq_n (by omega) (by omega), zi_nat' (show x / dn D < 2147483648 by omega), k5.2.2 _ ha, zq0, zi_le (by omega) (by omega) (by omega) (by omega), ← zq0]
            refine ⟨fun c => by omega, fun _ => ⟨hnz, hnz, fun c => ?_, fun c x5 e5 => ⟨hz, fun c2 => ?_, fun c2 x6 e6 => ?_⟩⟩⟩
            · rw [if_neg (fun q => q.1 c)] at hgs2
              exact hk2 _ ⟨by rw [hgs2], by rw [hgs2], rfl, k4, k5⟩
            · rw [if_neg (fun q => by omega)] at hgs2
              exact hk2 _ ⟨by rw [hgs2], by rw [hgs2], rfl, k4, k5⟩
            · subst e5; subst e6
              refine K_lend1 hn ha hm k5.2.2 (fun A7 f7 e7 => ?_)
              have k6 : RG I A1 J A7 := k4.a49 f7
              have hwb := zwall_bd hd (ctry (zco D E) (x / dn D) (x % dn D)) (elw E)
              refine K_waitsOfAll (co := ctry (zco D E) (x / dn D) (x % dn D)) (lw := elw E) hd (ctry_ok hcb _ _) (hr.g k6) ⟨k5.1, he.1, e7⟩ (zRo_so _ _ _) (fun I9 A10 f9 => ?_)
              have hrest : ∀ (b s0 : Int32), b = zi (g (x + 1)).1 → s0 = zi (g (x + 1)).2 → J_X8_gain_r44_129_s1 Ln I9 A10 (zi w) b (zi (g x).2) (zi x) (zi ((x / dn D : Nat) : Int)) (zi ((x % dn D : Nat) : Int)) (zi (zwall D (zOn D (ctry (zco D E) (x / dn D) (x % dn D)) (elw E)) (dn D))) s0 K2 Q2 := by
                rintro b s0 rfl rfl
                unfold J_X8_gain_r44_129_s1
                refine K_lend1 hn hm ha (co := ctry (zco D E) (x / dn D) (x % dn D)) (fun s hs => by rw [f9.2.2 49 (by decide) (by decide)]; exact e7 s hs) (fun A11 f11 e11 => ?_)
                rw [zi_succ]
                refine hk2 _ ⟨rfl, rfl, rfl, (k6.trans f9.g).a49 f11, ⟨?_, he.1, fun s hs => (e11 s hs).trans (by rw [ctry_back])⟩⟩
                show I9 44 10 = _
                rw [f9.2.1 10 (by decide) (by decide)]; exact k5.1
              show (zi (g x).2 ≤ zi (zwall D (zOn D (ctry (zco D E) (x / dn D) (x % dn D)) (elw E)) (dn D)) → _) ∧ (¬ zi (g x).2 ≤ zi (zwall D (zOn D (ctry (zco D E) (x / dn D) (x % dn D)) (elw E)) (dn D)) → _)
              have hle : zi (g x).2 ≤ zi (zwall D (zOn D (ctry (zco D E) (x / dn D) (x % dn D)) (elw E)) (dn D)) ↔ (g x).2 ≤ zwall D (zOn D (ctry (zco D E) (x / dn D) (x % dn D)) (elw E)) (dn D) := zi_le (by omega) (by omega) (by omega) (by omega)
              refine ⟨fun q => ?_, fun q => ?_⟩
              · unfold J_X8_gain_r44_116_s1
                rw [hle] at q
                rw [if_neg (fun q2 => by omega)] at hgs2
                exact ⟨fun _ => hrest _ _ (by rw [hgs2]) (by rw [hgs2]), fun q2 => absurd (hle.mpr q) q2⟩
              · unfold J_X8_gain_r44_116_s1
                rw [hle] at q
                rw [if_pos ⟨c, by omega, by omega⟩] at hgs2
                exact ⟨fun q2 => absurd (hle.mp q2) q, fun _ => hrest _ _ (by rw [hgs2, zq10, zi_mul, zi_add]) (by rw [hgs2]; rfl)⟩
          · rintro ⟨v2, v3, v4, J, B⟩ ⟨k1, k2, k3, k4, k5⟩ K2
            simp only at k1 k2 k3 k4 k5
            subst k1; subst k2; subst k3
            simp only [L_X8_gain_r44_34]
            rw [(hr.g k4).1, show zi ((dn D : Nat) : Int) * zi ((dn D : Nat) : Int) = zi ((dn D * dn D : Nat) : Int) from by rw [zi_mul]; rfl, zle_n (by omega) (by omega), ne_eq, show (0 : Int32) = zi (0 : Nat) from rfl, zeq_n (by omega) (by omega)]
            refine ⟨fun _ => ⟨fun c => ?_, fun c => ?_⟩, fun c => absurd (Nat.le_refl _) c⟩
            · rw [← hx1 (by omega)]; exact h2 _ _ ⟨D, E, hv1.g k4 k5⟩
            · rw [← hx0 (by omega)]; exact h2 _ _ ⟨D, E, hv1.g k4 k5⟩
        rw [hb.1, zle_n (by omega) (by omega), ne_eq, show (0 : Int32) = zi (0 : Nat) from rfl, zeq_n (by omega) (by omega)]
        exact ⟨fun _ => ⟨fun c => hfin _ (fun q => absurd q c) (fun _ => rfl), fun c => hfin _ (fun _ => rfl) (fun q => absurd q (by omega))⟩, fun c => absurd (Nat.le_refl _) c⟩
    · refine C_noBank_n hb.1 (by omega) ⟨fun c => absurd c (by decide), fun _ => hq _ _ rfl (fun Q2 h2 => ?_)⟩
      unfold W_X8_gain_r44
      refine hin ⟨fun _ => ?_, fun c => absurd (show (1 : Int32) ≠ 0 by decide) c⟩
      rw [hr.1, K_shades hn]
      exact ⟨fun c => absurd c hnb, fun _ => h2 _ _ hi⟩
  · have hr2 : Q (-2) A := by
      refine hq _ _ rfl (fun Q2 h2 => ?_)
      unfold W_X8_gain_r44
      exact K_in_n (by rw [show (1 : Int64).toInt = 1 from rfl, show (0 : Int64).toInt = 0 from rfl]; omega) ⟨fun c => absurd rfl c, fun _ => h2 _ _ hi⟩
    rw [zlt0, Int32.le_iff_toInt_le, show (1 : Int32).toInt = 1 from rfl]
    exact ⟨fun _ => hr2, fun c => ⟨fun c2 => by omega, fun _ => hr2⟩⟩
/-- with x borrowed in place of all that are lent to s -/
def cfav (D E : Nat → Nat → Nat) (s x : Nat) (t : Nat) : Int := if t = s then zco D E s - zsum (E 2) (E 3) (elc E) s + x else zco D E t
theorem cfav_ok {D E : Nat → Nat → Nat} (hd : BD D) (he : BE D E) (s : Nat) {x : Nat} (hx : x ≤ 9) : CD (cfav D E s x) := by
  intro t
  have h1 := zco_bd hd he t
  have h3 := zco_bd hd he s
  have h2 := zsum_le (X := E 2) he.2.2.2.1 (elc E) s
  have h4 := he.2.1
  unfold cfav
  split <;> omega
theorem OP_favours {Ln : Nat} {xs : Nat → Int32} {I A : Nat → Nat → Int32} {v : Int32} {Q : Int32 → (Nat → Nat → Int32) → Prop} (hv : INV xs I A) (hq : ∀ x A', A' 0 = A 0 → (∀ Q2 : Int32 → (Nat → Nat → Int32) → (Nat → Nat → Int32) → Prop, (∀ I2 A2, INV xs I2 A2 → Q2 x I2 A2) → W_X8_favours_r44 Ln I A' v Q2) → Q x A') : W_X7_favours_r1 Ln I A v Q := by
  obtain ⟨D, E, hv⟩ := hv
  obtain ⟨hd, he, hb, hr, hc, ⟨h19, h42⟩, hl, hrd, hvn, ht, hsh, h0⟩ := hv.parts
  have hn := hd.1
  have hco := zco_ok hd he
  have hcb := zco_bd hd he
  have hi : INV xs I A := ⟨D, E, hv⟩
  have hc6 := he.2.1
  unfold W_X7_favours_r1
  by_cases hs0 : 0 ≤ v.toInt ∧ v.toInt < dn D
  · obtain ⟨s, hs, rfl⟩ := zasn hs0
    have hz := zin_n (L := 6) (s := s) (by omega) (by decide)
    obtain ⟨b1, _⟩ := hb.2.2.2.2.1 s hs
    have hkd := (hd.2.2.2.2 s).1
    have hsl := zsum_le (X := E 2) he.2.2.2.1 (elc E) s
    refine C_isShade_y hb.1 hn hs ⟨fun _ => ⟨hz, ?_⟩, fun c => absurd (show (1 : Int32) ≠ 0 by decide) c⟩
    rw [zi_nat' (show s < 2147483648 by omega), b1, show (2 : Int32) = zi (2 : Nat) from rfl, zeq_n (by omega) (by omega)]
    refine ⟨fun hk2 => ?_, fun hk2 => hq _ _ rfl (fun Q2 h2 => ?_)⟩
    · generalize hP : (fun x => decide (zOn D (cfav D E s x) (elw E) s < 99)) = P
      have hP2 : ∀ x, P x = decide (zOn D (cfav D E s x) (elw E) s < 99) := fun x => (congrFun hP x).symm
      have hfin : ∀ (x : Int32) (A1 : Nat → Nat → Int32), CF A A1 → x = zi (zfc (zfo (fun i => i) P 10 0)) → Q x A1 := by
        rintro x A1 g3 rfl
        refine hq _ _ (g3 0 (by decide) (by decide)) (fun Q2 h2 => ?_)
        have hv1 := hv.cf g3
        obtain ⟨_, _, _, hr, hc, _, hl, hrd, _, _, _, _⟩ := hv1.parts
        obtain ⟨r1, _⟩ := hr.2.2.2.2 s hs
        unfold W_X8_favours_r44
        refine K_noShade_y hr.1 hn hs ⟨fun _ => ⟨hz, ?_⟩, fun c => absurd rfl c⟩
        rw [zi_nat' (show s < 2147483648 by omega), r1, show (2 : Int32) = zi (2 : Nat) from rfl, zeq_n (by omega) (by omega), hc.2.2 s hs]
        refine ⟨fun _ => ⟨hz, ?_⟩, fun c => absurd hk2 c⟩
        refine zLoop.inv (fun i σ => σ.1 = zi (zco D E s - zsum (E 2) (E 3) i s) ∧ σ.2 = zi i) (elc E) ⟨by show zi (zco D E s) = zi (zco D E s - ((0 : Nat) : Int)); congr 1; omega, rfl⟩ ?_ ?_
        · rintro i ⟨v3, v4⟩ hii ⟨g1, g2⟩ K hk
          simp only at g1 g2
          subst g1; subst g2
          have hz6 := zin_n (L := 6) (s := i) (by omega) (by decide)
          have hle := (hl.2.2 i hii).2
          have hbe := (he.2.2.2.2.1 i hii).2
          simp only [L_X8_favours_r44_35]
          rw [hl.2.1, zle_n (by omega) (by omega), zi_nat' (show i < 2147483648 by omega), hle.2.1, hle.2.2, ne_eq, zeq_n (by omega) (by omega), zi_succ, zi_sub]
          refine ⟨fun c => by omega, fun _ => ⟨hz6, fun c => hk _ ⟨?_, rfl⟩, fun c => ⟨hz6, hk _ ⟨?_, rfl⟩⟩⟩⟩
          · dsimp only
            rw [zsum_s, if_neg c, zq0, zi_sub]; congr 1; omega
          · dsimp only
            rw [zsum_s, if_pos (Decidable.not_not.mp c)]; congr 1; omega
        · rintro ⟨v3, v4⟩ ⟨g1, g2⟩ K
          simp only at g1 g2
          subst g1; subst g2
          simp only [L_X8_favours_r44_35]
          rw [hl.2.1, zle_n (by omega) (by omega)]
          refine ⟨fun _ => ?_, fun c => absurd (Nat.le_refl _) c⟩
          refine zLoop.inv (fun i σ => σ.1 = zi (zfc (zfo (fun i => i) P i (10 - i))) ∧ σ.2.1 = zi (9 - (i : Int)) ∧ RG I A1 σ.2.2.1 σ.2.2.2 ∧ σ.2.2.1 44 10 = zi (elw E) ∧ ∀ t, t < dn D → t ≠ s → σ.2.2.2 49 t = zi (zco D E t)) 10 ⟨zqm9, rfl, RG.refl I A1, hc.1, fun t ht _ => hc.2.2 t ht⟩ ?_ ?_
          · rintro i ⟨v4, v5, J, B⟩ hi10 ⟨g1, g2, g4, g5, g6⟩ K2 hk2
            simp only at g1 g2 g4 g5 g6
            subst g1; subst g2
            simp only [L_X8_favours_r44_83]
            rw [zgt0 (by omega) (by omega), zi_nat' (show s < 2147483648 by omega), zi_add]
            refine ⟨fun c => by omega, fun _ => ⟨hz, ?_⟩⟩
            have hx9 : ((9 - i : Nat) : Int) = 9 - (i : Int) := by omega
            have hzw : RG I A1 J (zw B 49 s (zi (zco D E s - zsum (E 2) (E 3) (elc E) s + (9 - (i : Int))))) := g4.a49 (fun a ha => zw_ne ha)
            refine K_goAll (co := cfav D E s (9 - i)) (lw := elw E) (ro := zRo D (cfav D E s (9 - i)) (elw E)) hd (cfav_ok hd he s (by omega)) (hr.g hzw) ⟨g5, he.1, fun t ht => ?_⟩ (zRo_so _ _ _) (fun I2 A2 f hg => ⟨hz, ?_⟩)
            · rw [zw_at]
              unfold cfav
              by_cases e : t = s
              · rw [if_pos e, if_pos e, hx9]
              · rw [if_neg e, if_neg e]; exact g6 t ht e
            have h99 := zOn_99 D (cfav D E s (9 - i)) (elw E) s
            rw [show A2 57 s = zi (zOn D (cfav D E s (9 - i)) (elw E) s) from (hg s hs).1, show (99 : Int32) = zi (99 : Nat) from rfl, zle_n (by omega) (by omega), zqm1o, zi_add, show (9 - (i : Int)) + -1 = 9 - ((i + 1 : Nat) : Int) from by omega]
            have k4 : RG I A1 I2 A2 := hzw.trans f.g
            have k5 : I2 44 10 = zi (elw E) := by rw [f.2.1 10 (by decide) (by decide)]; exact g5
            have k6 : ∀ t, t < dn D → t ≠ s → A2 49 t = zi (zco D E t) := fun t ht hne => by rw [f.2.2 49 (by decide) (by decide), zw_at, if_neg hne]; exact g6 t ht hne
            have hst : zfo (fun i => i) P (i + 1) (10 - (i + 1)) = if P (9 - i) = true then some (9 - i) else zfo (fun i => i) P i (10 - i) := by
              rw [zfo_s, show 10 - (i + 1) = 9 - i by omega, show 9 - i + 1 = 10 - i by omega]
            refine ⟨fun c => hk2 _ ⟨?_, rfl, k4, k5, k6⟩, fun c => hk2 _ ⟨?_, rfl, k4, k5, k6⟩⟩
            · dsimp only
              rw [hst, hP2, if_neg (by rw [decide_eq_true_eq]; omega)]
            · dsimp only
              rw [hst, hP2, if_pos (by rw [decide_eq_true_eq]; omega)]
              show _ = zi ((9 - i : Nat) : Int)
              rw [hx9]
          · rintro ⟨v4, v5, J, B⟩ ⟨g1, g2, g4, g5, g6⟩ K2
            simp only at g1 g2 g4 g5 g6
            subst g1; subst g2
            simp only [L_X8_favours_r44_83]
            rw [zi_nat' (show s < 2147483648 by omega)]
            refine ⟨fun _ => ⟨hz, h2 _ _ ⟨D, E, hv1.g (g4.a49 (fun a ha => zw_ne ha)) ⟨g5, he.1, fun t ht => ?_⟩⟩⟩, fun c => absurd (by decide) c⟩
            rw [zw_at]
            by_cases e : t = s
            · rw [if_pos e, e]
            · rw [if_neg e]; exact g6 t ht e
      refine zLoop.inv (fun i σ => σ.1 = zi i ∧ CF A σ.2 ∧ zfo (fun i => i) P (10 - i) i = zfo (fun i => i) P 10 0) 10 ⟨rfl, CF.refl A, rfl⟩ ?_ ?_
      · rintro i ⟨v2, A1⟩ hi10 ⟨g1, g3, g2⟩ K hk
        simp only at g1 g2 g3
        subst g1
        simp only [L_X7_favours_r1_28]
        refine ⟨fun c => absurd c (by rw [zq9, zi_lt (by omega) (by omega) (by omega) (by omega)]; omega), fun _ => ⟨hz, fun A2 hA2 => ?_⟩⟩
        have hcp : ∀ q, q < 6 → zcp A1 42 43 0 0 6 43 q = A1 42 q := by
          intro q hq2
          show (if 0 ≤ q ∧ q < 0 + 6 then A1 42 (0 + (q - 0)) else A1 43 q) = A1 42 q
          rw [if_pos (by omega)]; congr 1; omega
        have hne : ∀ x, x ≠ 43 → A2 x = A1 x := fun x hx => by rw [hA2]; unfold zcp va_up; rw [if_neg hx]
        have g42 : CC D (zco D E) 42 A1 := fun s hs => by rw [g3 42 (by decide) (by decide)]; exact h42 s hs
        have f2 : CF A A2 := g3.trans (fun x _ h2 => hne x h2)
        unfold W_X2_lentTo_r18
        refine C_sum_20 (X := E 2) (L := E 3) hc6 hl.1 (fun j hj => ?_) (by omega) ?_
        · rw [f2 20 (by decide) (by decide), f2 21 (by decide) (by decide)]
          exact ⟨(hl.2.2 j hj).1.2.1, (hl.2.2 j hj).1.2.2, by have := (he.2.2.2.2.1 j hj).2; omega⟩
        rintro x4 e4
        subst e4
        rw [zi_nat' (show s < 2147483648 by omega), hcp s (by omega), g42 s hs, zi_sub, zi_add, h19]
        refine ⟨hz, C_gt_43 (co := cfav D E s i) hd (cfav_ok hd he s (by omega)) (hb.fr (fun x h1 h2 => by rw [zw_ne (by omega), f2 x (by omega) (by omega)])) (fun t ht => ?_) he.1 (fun A5 f5 hvy => ⟨hz, ?_⟩)⟩
        · rw [zw_at]
          unfold cfav
          by_cases e : t = s
          · rw [if_pos e, if_pos e]; congr 1; omega
          · rw [if_neg e, if_neg e, hA2, hcp t (by omega)]; exact g42 t ht
        have g5 : CF A A5 := f2.trans (fun x h1 h2 => by rw [f5 x h1, zw_ne h2])
        have h99 := zOn_99 D (cfav D E s i) (elw E) s
        rw [show A5 36 s = zi (zen (zOn D (cfav D E s i) (elw E) s)) from hvy.1 s hs, zqm9, zen_ne h99, zi_succ]
        rw [show 10 - i = (10 - (i + 1)) + 1 by omega, zfo_s, hP2] at g2
        refine ⟨fun c => hk _ ⟨rfl, g5, ?_⟩, fun c => hfin _ _ g5 ?_⟩
        · rw [if_neg (by rw [decide_eq_true_eq]; omega)] at g2; exact g2
        · rw [if_pos (by rw [decide_eq_true_eq]; omega)] at g2
          rw [← g2]; rfl
      · rintro ⟨v2, A1⟩ ⟨g1, g3, g2⟩ K
        simp only at g1 g2 g3
        subst g1
        simp only [L_X7_favours_r1_28]
        refine ⟨fun _ => hfin _ _ g3 ?_, fun c => absurd (by decide) c⟩
        rw [← g2]; exact zqm9
    · unfold W_X8_favours_r44
      obtain ⟨r1, _⟩ := hr.2.2.2.2 s hs
      refine K_noShade_y hr.1 hn hs ⟨fun _ => ⟨hz, ?_⟩, fun c => absurd rfl c⟩
      rw [zi_nat' (show s < 2147483648 by omega), r1, show (2 : Int32) = zi (2 : Nat) from rfl, zeq_n (by omega) (by omega)]
      exact ⟨fun c => absurd c hk2, fun _ => h2 _ _ hi⟩
  · refine C_isShade_n hb.1 hn hs0 ⟨fun c => absurd rfl c, fun _ => hq _ _ rfl (fun Q2 h2 => ?_)⟩
    unfold W_X8_favours_r44
    exact K_noShade_n hr.1 hn hs0 ⟨fun c => absurd c (by decide), fun _ => h2 _ _ hi⟩
