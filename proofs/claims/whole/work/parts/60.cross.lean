/-! crossings -/
theorem zshr_i (x : Int) (k : Nat) : x >>> k = 0 ↔ 0 ≤ x ∧ x < (2 ^ k : Nat) := by
  cases x with
  | ofNat m =>
    show ((m >>> k : Nat) : Int) = 0 ↔ (0 : Int) ≤ (m : Int) ∧ (m : Int) < (2 ^ k : Nat)
    rw [Nat.shiftRight_eq_div_pow]
    have h := Nat.two_pow_pos k
    have h2 := Nat.div_eq_zero_iff_lt (k := 2 ^ k) (x := m) h
    omega
  | negSucc m =>
    constructor
    · intro h; cases h
    · intro h; omega
theorem zshr_v {v : Int32} {n : Nat} (hn : n ≤ 6) : v >>> (zi n &&& 31) = 0 ↔ 0 ≤ v.toInt ∧ v.toInt < (2 ^ n : Nat) := by
  have e : (v >>> (zi n &&& 31)).toInt = v.toInt >>> n := by
    have h : ((zi n &&& 31).toBitVec.smod 32).toNat = n := (show ∀ n : Nat, n ≤ 6 → ((zi n &&& 31).toBitVec.smod 32).toNat = n from by decide +kernel) n hn
    show (BitVec.sshiftRight' v.toBitVec ((zi n &&& 31).toBitVec.smod 32)).toInt = _
    rw [BitVec.toInt_sshiftRight', h]; rfl
  rw [← zshr_i, ← e]
  constructor
  · intro h; rw [h]; rfl
  · intro h; exact Int32.toInt_inj.mp (h.trans rfl)
theorem zAll2 {n : Nat} (hn : n ≤ 6) : (1 : Int32) <<< (zi n &&& 31) - 1 = zi ((2 ^ n - 1 : Nat) : Int) := (show ∀ n : Nat, n ≤ 6 → (1 : Int32) <<< (zi n &&& 31) - 1 = zi ((2 ^ n - 1 : Nat) : Int) from by decide +kernel) n hn
theorem zpw {n : Nat} (hn : n ≤ 6) : 0 < 2 ^ n ∧ 2 ^ n ≤ 64 := (show ∀ n : Nat, n ≤ 6 → 0 < 2 ^ n ∧ 2 ^ n ≤ 64 from by decide) n hn
/-- the part of a set below i, as weight -/
theorem zld_up (g : Nat → Nat) (p : Nat → Bool) {i : Nat} (hi : i < 6) : zld g (zup p (i + 1)) = zld g (zup p i) + (if p i = true then g i else 0) := by
  cases h : p i with
  | true =>
    rw [if_pos rfl, ← zld_ad g (zup p i) hi (by simp [zup])]
    refine zld_congr (fun s _ => ?_)
    unfold zup zadd
    by_cases e : s = i
    · subst e; simp [h]
    · rw [show (s == i) = false from beq_eq_false_iff_ne.mpr e, Bool.or_false, show decide (s < i + 1) = decide (s < i) from decide_eq_decide.mpr (by omega)]
  | false =>
    rw [if_neg (by decide)]
    refine zld_congr (fun s _ => ?_)
    unfold zup
    by_cases e : s = i
    · subst e; simp [h]
    · rw [show decide (s < i + 1) = decide (s < i) from decide_eq_decide.mpr (by omega)]
theorem zld_up0 (g : Nat → Nat) (p : Nat → Bool) : zld g (zup p 0) = 0 := by
  rw [zld_congr (q := fun _ => false) (fun s _ => by simp [zup])]; rfl
theorem zld_all (g : Nat → Nat) {p : Nat → Bool} {n : Nat} (h : ∀ s, n ≤ s → s < 6 → p s = false) : zld g (zup p n) = zld g p := zld_congr (fun s hs => by
  unfold zup
  by_cases e : s < n
  · simp [e]
  · simp [e, h s (by omega) hs])
/-- who may cross together, if all may sit -/
def zmc (D : Nat → Nat → Nat) (co : Nat → Int) (p : Nat → Bool) : Bool := znone (fun s => p s && !zpay D co s) && zfit D p
theorem K_mayCross {Ln : Nat} {D : Nat → Nat → Nat} {co : Nat → Int} {lw : Nat} {I A : Nat → Nat → Int32} {p : Nat → Bool} {Q : Int32 → Prop} (hd : BD D) (hco : CD co) (hb : RB D I A) (hc : RC D co lw I A) (hp : ∀ s, dn D ≤ s → s < 6 → p s = false) (h1 : zmc D co p = true → Q 1) (h0 : zmc D co p = false → Q 0) : W_X8_mayCross_r44 Ln I A (zm p) Q := by
  have hn := hd
  unfold BD at hn
  unfold W_X8_mayCross_r44
  refine zLoop.count (fun i => (zi (zld (zhv D) (zup p i)), zi i)) (dn D) (by rw [zld_up0]; rfl) ?_ ?_
  · intro i hi K hk
    simp only [L_X8_mayCross_r44_4]
    rw [hb.1, zle_n (by omega) (by omega), zi_succ]
    rw [zld_up _ _ (by omega)] at hk
    refine ⟨fun c => by omega, fun _ => K_isIn (by omega) (fun c => ⟨fun c2 => absurd c2 (by decide), fun _ => K_heavyOf hd hb hi ?_⟩) (fun c => ⟨fun _ => ?_, fun c2 => absurd rfl c2⟩)⟩
    · rw [if_pos c] at hk
      rw [zi_add]; exact hk
    · rw [if_neg (by rw [c]; decide)] at hk
      rw [zq0, zi_add]; exact hk
  · intro K
    simp only [L_X8_mayCross_r44_4]
    rw [hb.1, zle_n (by omega) (by omega)]
    refine ⟨fun _ => K_whoCanPay hd hco hb hc ?_, fun c => absurd (Nat.le_refl _) c⟩
    have hl := zld_le hd p
    have hcl := zct_le p
    rw [zm_andnot, ne_eq, zm_znone, zld_all _ hp]
    refine ⟨fun c => h0 ?_, fun c => K_bits ?_⟩
    · unfold zmc; rw [Bool.eq_false_iff.mpr c]; rfl
    · rw [hb.2.1, zlt_n (by omega) (by omega), hb.2.2.1, zlt_n (by omega) (by omega)]
      refine ⟨fun c2 => h0 ?_, fun c2 => ⟨fun c3 => h0 ?_, fun c3 => h1 ?_⟩⟩
      · unfold zmc zfit; rw [decide_eq_false (by omega), Bool.false_and, Bool.and_false]
      · unfold zmc zfit; rw [decide_eq_false (show ¬ zld (zhv D) p ≤ dbe D by omega), Bool.and_false, Bool.and_false]
      · unfold zmc zfit; rw [Decidable.not_not.mp c, decide_eq_true (show zct p ≤ dse D by omega), decide_eq_true (show zld (zhv D) p ≤ dbe D by omega)]; rfl
/-- a set of crossings may be -/
def zmy (D : Nat → Nat → Nat) (co : Nat → Int) (x : Nat) (o c : Nat → Bool) : Bool := znone (fun s => c s && !(zcame D x s && !o s && zpay D co s)) && zfit D c
def zfwr (D : Nat → Nat → Nat) (co : Nat → Int) (c : Nat → Nat → Bool) : Nat → Nat → (Nat → Bool) → Int
  | 0, _, _ => -9
  | k + 1, x, o => if zmy D co x o (c x) = true then zfwr D co c k (x + 1) (fun s => o s || c x s) else x
theorem zfwr_s {D : Nat → Nat → Nat} {co : Nat → Int} {c : Nat → Nat → Bool} {k x : Nat} {o : Nat → Bool} : zfwr D co c (k + 1) x o = if zmy D co x o (c x) = true then zfwr D co c k (x + 1) (fun s => o s || c x s) else x := rfl
theorem zand3 {a b c d : Bool} : (a && !(b && !c && d)) = true ↔ a = true ∧ (b = false ∨ c = true ∨ d = false) := by cases a <;> cases b <;> cases c <;> cases d <;> decide
theorem znone_or {p q : Nat → Bool} : znone (fun s => p s || q s) = (znone p && znone q) := by
  simp only [znone]
  cases p 0 <;> cases p 1 <;> cases p 2 <;> cases p 3 <;> cases p 4 <;> cases p 5 <;> cases q 0 <;> simp
theorem znone_cg {p q : Nat → Bool} (h : ∀ s, s < 6 → p s = q s) : znone p = znone q := by
  unfold znone
  rw [h 0 (by decide), h 1 (by decide), h 2 (by decide), h 3 (by decide), h 4 (by decide), h 5 (by decide)]
/-- the three questions of the reference are the one of the class -/
theorem zmy_3 {D : Nat → Nat → Nat} {co : Nat → Int} {x : Nat} {o c : Nat → Bool} : zmy D co x o c = (znone (fun s => c s && o s) && (znone (fun s => c s && !zcame D x s) && zmc D co c)) := by
  unfold zmy zmc
  rw [← Bool.and_assoc, ← Bool.and_assoc, ← znone_or, ← znone_or]
  congr 1
  refine znone_cg (fun s _ => ?_)
  cases c s <;> cases o s <;> cases zcame D x s <;> cases zpay D co s <;> rfl
theorem znz {p : Nat → Bool} : zm p ≠ 0 ↔ znone p = false := by
  rw [ne_eq, zm_znone]; exact ⟨fun c => Bool.eq_false_iff.mpr c, fun c => Bool.eq_false_iff.mp c⟩
def zcs2 (m : Nat → Nat) (x s : Nat) : Bool := (m x).testBit s
theorem zcs2_hi {m : Nat → Nat} {n x : Nat} (h : m x < 2 ^ n) {s : Nat} (hs : n ≤ s) : zcs2 m x s = false := Nat.testBit_lt_two_pow (Nat.lt_of_lt_of_le h (Nat.pow_le_pow_right (by decide) hs))
theorem K_crossOk {Ln : Nat} {D : Nat → Nat → Nat} {co : Nat → Int} {lw k i n : Nat} {I A : Nat → Nat → Int32} {v2 v5 : Int32} {Q : Int32 → (Nat → Nat → Int32) → Prop} (hd : BD D) (hco : CD co) (hb : RB D I A) (hc : RC D co lw I A) (hk : k < 4) (hi : i + n ≤ 60) (hn20 : n ≤ 20)
    (h0 : (∃ x, x < n ∧ ¬ (0 ≤ (A 67 (60 * k + i + x)).toInt ∧ (A 67 (60 * k + i + x)).toInt < (2 ^ dn D : Nat))) → Q (-2) (zp I 44 0 0))
    (h1 : ∀ m : Nat → Nat, (∀ x, x < n → A 67 (60 * k + i + x) = zi (m x) ∧ m x < 2 ^ dn D) → Q (zi (zfwr D co (zcs2 m) n 0 (fun _ => false))) (zp I 44 0 0)) : zLoop (L_X8_crossings_r44_83 Ln I A (zi k) v2 (zi i) (zi n) v5 Q) 0 := by
  have hn := hd.1
  have hpw := zpw hn
  have hix : ∀ x : Nat, (60 : Int32) * zi k + zi i + zi x = zi ((60 * k + i + x : Nat) : Int) := fun x => by rw [zq60, zi_mul, zi_add, zi_add]; rfl
  refine zLoop.inv (fun x v => v = zi x ∧ ∀ y, y < x → 0 ≤ (A 67 (60 * k + i + y)).toInt ∧ (A 67 (60 * k + i + y)).toInt < (2 ^ dn D : Nat)) n ⟨rfl, fun y h => by omega⟩ ?_ ?_
  · rintro x v hx ⟨rfl, g⟩ K hk2
    simp only [L_X8_crossings_r44_83]
    unfold W_X8_all_r44
    rw [hix, zle_n (by omega) (by omega), zi_nat' (by omega), zi_succ, hb.1, zAll2 hn]
    refine ⟨fun c => by omega, fun _ => ⟨zin_n (by omega) (by decide), fun x13 e13 => ?_⟩⟩
    subst e13
    by_cases c : 0 ≤ (A 67 (60 * k + i + x)).toInt ∧ (A 67 (60 * k + i + x)).toInt < (2 ^ dn D : Nat)
    · refine K_in_y c.1 (by rw [Int32.toInt_toInt64, zi_toInt (by omega) (by omega)]; omega) ⟨fun _ => hk2 _ ⟨rfl, fun y hy => ?_⟩, fun c2 => absurd (show (1 : Int32) ≠ 0 by decide) c2⟩
      by_cases e : y = x
      · rw [e]; exact c
      · exact g y (by omega)
    · refine K_in_n (by rw [Int32.toInt_toInt64, zi_toInt (by omega) (by omega), show (0 : Int64).toInt = 0 from rfl]; omega) ⟨fun c2 => absurd rfl c2, fun _ => ?_⟩
      unfold W_X8_refused_r44
      exact h0 ⟨x, hx, c⟩
  · rintro v ⟨rfl, g⟩ K
    simp only [L_X8_crossings_r44_83]
    rw [zle_n (by omega) (by omega)]
    refine ⟨fun _ => ?_, fun c => absurd (Nat.le_refl _) c⟩
    obtain ⟨m, hm⟩ : ∃ m : Nat → Nat, ∀ x, x < n → A 67 (60 * k + i + x) = zi (m x) ∧ m x < 2 ^ dn D := by
      refine ⟨fun x => (A 67 (60 * k + i + x)).toInt.toNat, fun x hx => ?_⟩
      have := g x hx
      exact ⟨by dsimp only; rw [Int.toNat_of_nonneg this.1, zi_self], by dsimp only; omega⟩
    have h1 := h1 m hm
    refine zLoop.inv (fun x σ => ∃ o : Nat → Bool, σ.1 = zm o ∧ σ.2 = zi x ∧ zfwr D co (zcs2 m) (n - x) x o = zfwr D co (zcs2 m) n 0 (fun _ => false)) n ⟨_, zm_none, rfl, rfl⟩ ?_ ?_
    · rintro x ⟨v6, v7⟩ hx ⟨o, g1, g2, g3⟩ K2 hk2
      simp only at g1 g2
      subst g1; subst g2
      obtain ⟨hm1, hm2⟩ := hm x hx
      have hzm : zi (m x : Int) = zm (zcs2 m x) := zm_of (by omega)
      have hhi : ∀ s, dn D ≤ s → s < 6 → zcs2 m x s = false := fun s hs _ => zcs2_hi hm2 hs
      rw [show n - x = (n - (x + 1)) + 1 by omega, zfwr_s, zmy_3] at g3
      simp only [L_X8_crossings_r44_136]
      unfold J_X8_crossings_r44_190 W_X8_refused_r44
      rw [hix, zle_n (by omega) (by omega), zi_nat' (show 60 * k + i + x < 2147483648 by omega), hm1, hzm, zi_succ, zm_and, znz]
      refine ⟨fun c => by omega, fun _ => ⟨zin_n (by omega) (by decide), fun c => ?_, fun c x9 e9 => ?_⟩⟩
      · rw [c, Bool.false_and, if_neg (by decide)] at g3
        rw [← g3] at h1; exact h1
      · subst e9
        rw [Bool.not_eq_false] at c
        rw [c, Bool.true_and] at g3
        refine K_cameBy hd hb (by omega) ?_
        rw [zm_andnot, znz]
        refine ⟨fun c2 => ?_, fun c2 => ?_⟩
        · rw [c2, Bool.false_and, if_neg (by decide)] at g3
          rw [← g3] at h1; exact h1
        · rw [Bool.not_eq_false] at c2
          rw [c2, Bool.true_and] at g3
          refine K_mayCross hd hco hb hc hhi (fun c3 => ⟨fun _ => hk2 _ ⟨fun s => o s || zcs2 m x s, ?_, rfl, ?_⟩, fun c4 => absurd (show (1 : Int32) ≠ 0 by decide) c4⟩) (fun c3 => ⟨fun c4 => absurd rfl c4, fun _ => ?_⟩)
          · exact zm_or _ _
          · rw [if_pos c3] at g3; exact g3
          · rw [c3, if_neg (by decide)] at g3
            rw [← g3] at h1; exact h1
    · rintro ⟨v6, v7⟩ ⟨o, g1, g2, g3⟩ K2
      simp only at g1 g2
      subst g1; subst g2
      simp only [L_X8_crossings_r44_136]
      unfold W_X8_refused_r44
      rw [zle_n (by omega) (by omega)]
      rw [Nat.sub_self] at g3
      rw [← g3] at h1
      exact ⟨fun _ => h1, fun c => absurd (Nat.le_refl _) c⟩
theorem C_knowsAll_4 {Ln : Nat} {D : Nat → Nat → Nat} {i n : Nat} {I A : Nat → Nat → Int32} {Q : Int32 → Prop} (hn6 : dn D ≤ 6) (h11 : I 11 0 = zi (dn D)) (hi : i + n ≤ 60) (h0 : (∃ x, x < n ∧ ¬ (0 ≤ (A 4 (i + x)).toInt ∧ (A 4 (i + x)).toInt < (2 ^ dn D : Nat))) → Q 0) (h1 : (∀ x, x < n → 0 ≤ (A 4 (i + x)).toInt ∧ (A 4 (i + x)).toInt < (2 ^ dn D : Nat)) → Q 1) : W_X0_knowsAll_r11_r4 Ln I A (zi i) (zi n) Q := by
  unfold W_X0_knowsAll_r11_r4
  refine zLoop.inv (fun x v => v = zi x ∧ ∀ y, y < x → 0 ≤ (A 4 (i + y)).toInt ∧ (A 4 (i + y)).toInt < (2 ^ dn D : Nat)) n ⟨rfl, fun y h => by omega⟩ ?_ ?_
  · rintro x v hx ⟨rfl, g⟩ K hk2
    simp only [L_X0_knowsAll_r11_r4_3]
    rw [zle_n (by omega) (by omega), show zi i + zi x = zi ((i + x : Nat) : Int) from by rw [zi_add]; rfl, zi_nat' (by omega), h11, zshr_v hn6, zi_succ]
    refine ⟨fun c => by omega, fun _ => ⟨zin_n (by omega) (by decide), fun c => hk2 _ ⟨rfl, fun y hy => ?_⟩, fun c => h0 ⟨x, hx, c⟩⟩⟩
    by_cases e : y = x
    · rw [e]; exact c
    · exact g y (by omega)
  · rintro v ⟨rfl, g⟩ K
    simp only [L_X0_knowsAll_r11_r4_3]
    rw [zle_n (by omega) (by omega)]
    exact ⟨fun _ => h1 g, fun c => absurd (Nat.le_refl _) c⟩
theorem C_firstWrong_4 {Ln : Nat} {D : Nat → Nat → Nat} {co : Nat → Int} {i n : Nat} {m : Nat → Nat} {I A : Nat → Nat → Int32} {Q : Int32 → Prop} (hd : BD D) (hb : CB D I A) (hi : i + n ≤ 60) (hm : ∀ x, x < n → A 4 (i + x) = zi (m x) ∧ m x < 2 ^ dn D) (hq : Q (zi (zfwr D co (zcs2 m) n 0 (fun _ => false)))) : W_X1_firstWrong_r26_r4 Ln I A (zi i) (zi n) (zm (zpay D co)) Q := by
  have hn := hd.1
  have hpw := zpw hn
  unfold W_X1_firstWrong_r26_r4
  refine zLoop.inv (fun x σ => ∃ o : Nat → Bool, σ.1 = zm o ∧ σ.2 = zi x ∧ zfwr D co (zcs2 m) (n - x) x o = zfwr D co (zcs2 m) n 0 (fun _ => false)) n ⟨_, zm_none, rfl, rfl⟩ ?_ ?_
  · rintro x ⟨v6, v7⟩ hx ⟨o, g1, g2, g3⟩ K2 hk2
    simp only at g1 g2
    subst g1; subst g2
    obtain ⟨hm1, hm2⟩ := hm x hx
    have hzm : zi (m x : Int) = zm (zcs2 m x) := zm_of (by omega)
    have hhi : ∀ s, dn D ≤ s → s < 6 → zcs2 m x s = false := fun s hs _ => zcs2_hi hm2 hs
    rw [show n - x = (n - (x + 1)) + 1 by omega, zfwr_s] at g3
    simp only [L_X1_firstWrong_r26_r4_6]
    rw [zle_n (by omega) (by omega), show zi i + zi x = zi ((i + x : Nat) : Int) from by rw [zi_add]; rfl, zi_nat' (show i + x < 2147483648 by omega), zi_nat' (show x < 2147483648 by omega), hm1, hzm, hb.2.2.2.2.2.1 x (by omega), zm_andnot, zm_and, zm_andnot, znz, zi_succ]
    refine ⟨fun c => by omega, fun _ => ⟨zin_n (by omega) (by decide), zin_n (by omega) (by decide), fun c => ?_, fun c x1 e1 x2 e2 => ?_⟩⟩
    · unfold zmy at g3
      rw [c, Bool.false_and, if_neg (by decide)] at g3
      rw [← g3] at hq; exact hq
    · subst e1
      rw [Bool.not_eq_false] at c
      unfold zmy at g3
      rw [c, Bool.true_and] at g3
      refine C_carries hd hb hhi (fun c3 => ⟨fun _ => hk2 _ ⟨fun s => o s || zcs2 m x s, ?_, rfl, ?_⟩, fun c4 => absurd (show (1 : Int32) ≠ 0 by decide) c4⟩) (fun c3 => ⟨fun c4 => absurd rfl c4, fun _ => ?_⟩)
      · exact zm_or _ _
      · rw [if_pos c3] at g3; exact g3
      · rw [c3, if_neg (by decide)] at g3
        rw [← g3] at hq; exact hq
  · rintro ⟨v6, v7⟩ ⟨o, g1, g2, g3⟩ K2
    simp only at g1 g2
    subst g1; subst g2
    simp only [L_X1_firstWrong_r26_r4_6]
    rw [zle_n (by omega) (by omega)]
    rw [Nat.sub_self] at g3
    rw [← g3] at hq
    exact ⟨fun _ => hq, fun c => absurd (Nat.le_refl _) c⟩
theorem OP_crossings_c0 {Ln : Nat} {xs : Nat → Int32} {I A : Nat → Nat → Int32} {v w u : Int32} {Q : Int32 → (Nat → Nat → Int32) → Prop} (hv : INV xs I A) (hq : ∀ x I', (∀ Q2 : Int32 → (Nat → Nat → Int32) → Prop, (∀ I2, INV xs I2 A → Q2 x I2) → W_X8_crossings_r44 Ln I' A (zi (0 : Nat)) v w u Q2) → Q x I') : W_X7_crossings_r1_c0 Ln I A v w u Q := by
  obtain ⟨D, E, hv⟩ := hv
  obtain ⟨hd, he, hb, hr, hc, ⟨h19, h42⟩, hl, hrd, hvn, ht, hsh, h0⟩ := hv.parts
  have hn := hd.1
  have hco := zco_ok hd he
  obtain ⟨b, l, n0, hs⟩ := hv.sh.at_0.d
  have hs0 := hs
  obtain ⟨h1, hl3, h3, h4, h5⟩ := hs
  unfold W_X7_crossings_r1_c0 W_X7_faultless_r1 W_X7_faulted_r1
  refine C_isSheet_0 ⟨fun _ => ?_, fun c => absurd (show (1 : Int32) ≠ 0 by decide) c⟩
  by_cases hlv : 0 ≤ v.toInt ∧ v.toInt < (3 : Nat)
  · obtain ⟨l2, hl2, rfl⟩ := zasn hlv
    refine C_isLane_y hl2 ⟨fun _ => ?_, fun c => absurd (show (1 : Int32) ≠ 0 by decide) c⟩
    by_cases hnb : 0 < dn D
    · refine C_noBank_y hb.1 hn hnb ⟨fun _ => C_foc_3 hs0 ?_, fun c => absurd rfl c⟩
      have hfl := zff_le b l n0 (zi l2) w u
      have hK : ∀ (J : Nat → Nat → Int32) (Q2 : Int32 → (Nat → Nat → Int32) → Prop), J 44 4 = zi (dn D) → W_X8_cellsBarred_r44 Ln J A (zi (0 : Nat)) (zi l2) w (Int32.toInt64 u) (fun (r3 : Int32) (I4 : Nat → Nat → Int32) => (((0 : Int32) ≤ r3 → (((u : Int32) ≤ 20 → ((zLoop (L_X8_crossings_r44_83 Ln I4 A (zi (0 : Nat)) (zi l2) w u r3 Q2) 0))) ∧ (¬ ((u : Int32) ≤ 20) → ((W_X8_refused_r44 Ln I4 A (-2) (fun (r17 : Int32) (I18 : Nat → Nat → Int32) => (Q2 r17 I18))))))) ∧ (¬ ((0 : Int32) ≤ r3) → (Q2 r3 I4)))) → W_X8_crossings_r44 Ln J A (zi (0 : Nat)) (zi l2) w u Q2 := by
        intro J Q2 hJ hk
        unfold W_X8_crossings_r44
        refine K_noSheet_y (by decide) ⟨fun _ => K_lane_y hl2 ⟨fun _ => ?_, fun c => absurd (show (1 : Int32) ≠ 0 by decide) c⟩, fun c => absurd rfl c⟩
        rw [hJ, K_shades hn]
        exact ⟨fun _ => hk, fun c => absurd hnb c⟩
      refine ⟨fun c => ?_, fun c => ?_⟩
      · have hz : zff b l n0 (zi l2) w u = 0 := by
          rw [show (0 : Int32) = zi 0 from rfl, zi_inj (by omega) (by omega) (by omega) (by omega)] at c; exact c
        obtain ⟨hbt, hll, hu0, hw0, hwu⟩ := zff_0 hz
        obtain ⟨i, hi, rfl⟩ := zasn (v := w) (n := 61) ⟨hw0, by omega⟩
        obtain ⟨n, hn61, rfl⟩ := zasn (v := u) (n := 61) ⟨hu0, by omega⟩
        rw [zi_toInt (by omega) (by omega), zi_toInt (by omega) (by omega)] at hwu
        have hcell := (h5 hbt).2.2.2
        have hcell2 : ∀ x, x < n → A 67 (60 * 0 + i + x) = A 4 (i + x) := fun x hx => by rw [show 60 * 0 + i + x = 60 * 0 + (i + x) by omega]; exact (hcell (i + x) (by omega)).symm
        have hle20 : zi (n : Int) ≤ 20 ↔ n ≤ 20 := zle_n (i := 20) (by omega) (by decide)
        have hgt20 : 20 < zi (n : Int) ↔ 20 < n := zlt_n (n := 20) (by decide) (by omega)
        have hcb : ∀ (J : Nat → Nat → Int32) (Q3 : Int32 → (Nat → Nat → Int32) → Prop), Q3 0 J → W_X8_cellsBarred_r44 Ln J A (zi (0 : Nat)) (zi l2) (zi i) (Int32.toInt64 (zi n)) Q3 := fun J Q3 h6 => K_cellsBarred (b := b) (l := l) (n0 := n0) (by decide) h1 h4 (fun q => (h5 q).2.2.1) (fun _ => h6) (fun q => by omega)
        have hno : (20 < n ∨ ∃ x, x < n ∧ ¬ (0 ≤ (A 4 (i + x)).toInt ∧ (A 4 (i + x)).toInt < (2 ^ dn D : Nat))) → Q (-2) (zp I 1 11 0) := by
          intro hor
          refine hq _ _ (fun Q2 h2 => hK _ _ hr.1 (hcb _ _ ⟨fun _ => ⟨fun c2 => ?_, fun c2 => ?_⟩, fun c2 => absurd (by decide) c2⟩))
          · rw [hle20] at c2
            rcases hor with hor | ⟨x, hx, hor⟩
            · omega
            · refine K_crossOk (co := zco D E) (lw := elw E) hd hco (I := zp I 1 11 0) hr hc (by decide) (by omega) c2 (fun _ => h2 _ ⟨D, E, hv.ft 0⟩) (fun m hm => ?_)
              have hmx := hm x hx
              rw [hcell2 x hx] at hmx
              refine absurd ?_ hor
              have hpw := zpw hn
              rw [hmx.1, zi_toInt (by omega) (by omega)]; omega
          · unfold W_X8_refused_r44
            exact h2 _ ⟨D, E, hv.ft 0⟩
        unfold J_X7_crossings_r1_c0_97 W_X7_faultless_r1
        rw [hgt20]
        refine ⟨fun c2 => hno (Or.inl c2), fun c2 => C_knowsAll_4 hn hb.1 (by omega) (fun c3 => ⟨fun c4 => absurd rfl c4, fun _ => hno (Or.inr c3)⟩) (fun c3 => ⟨fun _ => C_whoPays_42 hd hco hb h42 ?_, fun c4 => absurd (show (1 : Int32) ≠ 0 by decide) c4⟩)⟩
        obtain ⟨m, hm⟩ : ∃ m : Nat → Nat, ∀ x, x < n → A 4 (i + x) = zi (m x) ∧ m x < 2 ^ dn D := by
          refine ⟨fun x => (A 4 (i + x)).toInt.toNat, fun x hx => ?_⟩
          have := c3 x hx
          exact ⟨by dsimp only; rw [Int.toNat_of_nonneg this.1, zi_self], by dsimp only; omega⟩
        refine C_firstWrong_4 hd hb (by omega) hm (hq _ _ (fun Q2 h2 => hK _ _ hr.1 (hcb _ _ ⟨fun _ => ⟨fun _ => ?_, fun c5 => absurd (hle20.mpr (by omega)) c5⟩, fun c5 => absurd (by decide) c5⟩)))
        refine K_crossOk (co := zco D E) (lw := elw E) hd hco (I := zp I 1 11 0) hr hc (by decide) (by omega) (by omega) (fun q => ?_) (fun m2 hm2 => ?_)
        · obtain ⟨x, hx, q⟩ := q
          rw [hcell2 x hx] at q
          exact absurd (c3 x hx) q
        · have hpw := zpw hn
          have em : ∀ x, x < n → zcs2 m2 x = zcs2 m x := fun x hx => by
            have e1 := hm x hx
            have e2 := hm2 x hx
            rw [hcell2 x hx, e1.1, zi_inj (by omega) (by omega) (by omega) (by omega)] at e2
            unfold zcs2
            rw [show m2 x = m x by omega]
          have ew : ∀ (k x : Nat) (o : Nat → Bool), x + k ≤ n → zfwr D (zco D E) (zcs2 m2) k x o = zfwr D (zco D E) (zcs2 m) k x o := by
            intro k
            induction k with
            | zero => intro x o _; rfl
            | succ k ih => intro x o hx; rw [zfwr_s, zfwr_s, em x (by omega), ih (x + 1) _ (by omega)]
          rw [ew n 0 _ (by omega)]
          exact h2 _ ⟨D, E, hv.ft 0⟩
      · have hf : 0 < zff b l n0 (zi l2) w u := by
          rw [show (0 : Int32) = zi 0 from rfl, zi_inj (by omega) (by omega) (by omega) (by omega)] at c; omega
        rw [zm10]
        refine hq _ _ (fun Q2 h2 => hK _ _ hr.1 (K_cellsBarred (b := b) (l := l) (n0 := n0) (by decide) h1 h4 (fun q => (h5 q).2.2.1) (fun q => by omega) (fun _ => ⟨fun c2 => ?_, fun _ => h2 _ ⟨D, E, hv.ft _⟩⟩)))
        exact absurd c2 (by rw [show (0 : Int32) = zi 0 from rfl, zi_le (by omega) (by omega) (by omega) (by omega)]; omega)
    · refine C_noBank_n hb.1 (by omega) ⟨fun c => absurd c (by decide), fun _ => hq _ _ (fun Q2 h2 => ?_)⟩
      unfold W_X8_crossings_r44 W_X8_refused_r44
      refine K_noSheet_y (by decide) ⟨fun _ => K_lane_y hl2 ⟨fun _ => ?_, fun c => absurd (show (1 : Int32) ≠ 0 by decide) c⟩, fun c => absurd rfl c⟩
      rw [show zp I 1 11 0 44 4 = zi (dn D) from hr.1, K_shades hn]
      exact ⟨fun c => absurd c hnb, fun _ => h2 _ ⟨D, E, hv.ft 0⟩⟩
  · refine C_isLane_n hlv ⟨fun c => absurd rfl c, fun _ => hq _ _ (fun Q2 h2 => ?_)⟩
    unfold W_X8_crossings_r44 W_X8_refused_r44
    exact K_noSheet_y (by decide) ⟨fun _ => K_lane_n hlv ⟨fun c => absurd rfl c, fun _ => h2 _ ⟨D, E, hv.ft 0⟩⟩, fun c => absurd rfl c⟩
theorem C_knowsAll_6 {Ln : Nat} {D : Nat → Nat → Nat} {i n : Nat} {I A : Nat → Nat → Int32} {Q : Int32 → Prop} (hn6 : dn D ≤ 6) (h11 : I 11 0 = zi (dn D)) (hi : i + n ≤ 60) (h0 : (∃ x, x < n ∧ ¬ (0 ≤ (A 6 (i + x)).toInt ∧ (A 6 (i + x)).toInt < (2 ^ dn D : Nat))) → Q 0) (h1 : (∀ x, x < n → 0 ≤ (A 6 (i + x)).toInt ∧ (A 6 (i + x)).toInt < (2 ^ dn D : Nat)) → Q 1) : W_X0_knowsAll_r11_r6 Ln I A (zi i) (zi n) Q := by
  unfold W_X0_knowsAll_r11_r6
  refine zLoop.inv (fun x v => v = zi x ∧ ∀ y, y < x → 0 ≤ (A 6 (i + y)).toInt ∧ (A 6 (i + y)).toInt < (2 ^ dn D : Nat)) n ⟨rfl, fun y h => by omega⟩ ?_ ?_
  · rintro x v hx ⟨rfl, g⟩ K hk2
    simp only [L_X0_knowsAll_r11_r6_3]
    rw [zle_n (by omega) (by omega), show zi i + zi x = zi ((i + x : Nat) : Int) from by rw [zi_add]; rfl, zi_nat' (by omega), h11, zshr_v hn6, zi_succ]
    refine ⟨fun c => by omega, fun _ => ⟨zin_n (by omega) (by decide), fun c => hk2 _ ⟨rfl, fun y hy => ?_⟩, fun c => h0 ⟨x, hx, c⟩⟩⟩
    by_cases e : y = x
    · rw [e]; exact c
    · exact g y (by omega)
  · rintro v ⟨rfl, g⟩ K
    simp only [L_X0_knowsAll_r11_r6_3]
    rw [zle_n (by omega) (by omega)]
    exact ⟨fun _ => h1 g, fun c => absurd (Nat.le_refl _) c⟩
theorem C_firstWrong_6 {Ln : Nat} {D : Nat → Nat → Nat} {co : Nat → Int} {i n : Nat} {m : Nat → Nat} {I A : Nat → Nat → Int32} {Q : Int32 → Prop} (hd : BD D) (hb : CB D I A) (hi : i + n ≤ 60) (hm : ∀ x, x < n → A 6 (i + x) = zi (m x) ∧ m x < 2 ^ dn D) (hq : Q (zi (zfwr D co (zcs2 m) n 0 (fun _ => false)))) : W_X1_firstWrong_r26_r6 Ln I A (zi i) (zi n) (zm (zpay D co)) Q := by
  have hn := hd.1
  have hpw := zpw hn
  unfold W_X1_firstWrong_r26_r6
  refine zLoop.inv (fun x σ => ∃ o : Nat → Bool, σ.1 = zm o ∧ σ.2 = zi x ∧ zfwr D co (zcs2 m) (n - x) x o = zfwr D co (zcs2 m) n 0 (fun _ => false)) n ⟨_, zm_none, rfl, rfl⟩ ?_ ?_
  · rintro x ⟨v6, v7⟩ hx ⟨o, g1, g2, g3⟩ K2 hk2
    simp only at g1 g2
    subst g1; subst g2
    obtain ⟨hm1, hm2⟩ := hm x hx
    have hzm : zi (m x : Int) = zm (zcs2 m x) := zm_of (by omega)
    have hhi : ∀ s, dn D ≤ s → s < 6 → zcs2 m x s = false := fun s hs _ => zcs2_hi hm2 hs
    rw [show n - x = (n - (x + 1)) + 1 by omega, zfwr_s] at g3
    simp only [L_X1_firstWrong_r26_r6_6]
    rw [zle_n (by omega) (by omega), show zi i + zi x = zi ((i + x : Nat) : Int) from by rw [zi_add]; rfl, zi_nat' (show i + x < 2147483648 by omega), zi_nat' (show x < 2147483648 by omega), hm1, hzm, hb.2.2.2.2.2.1 x (by omega), zm_andnot, zm_and, zm_andnot, znz, zi_succ]
    refine ⟨fun c => by omega, fun _ => ⟨zin_n (by omega) (by decide), zin_n (by omega) (by decide), fun c => ?_, fun c x1 e1 x2 e2 => ?_⟩⟩
    · unfold zmy at g3
      rw [c, Bool.false_and, if_neg (by decide)] at g3
      rw [← g3] at hq; exact hq
    · subst e1
      rw [Bool.not_eq_false] at c
      unfold zmy at g3
      rw [c, Bool.true_and] at g3
      refine C_carries hd hb hhi (fun c3 => ⟨fun _ => hk2 _ ⟨fun s => o s || zcs2 m x s, ?_, rfl, ?_⟩, fun c4 => absurd (show (1 : Int32) ≠ 0 by decide) c4⟩) (fun c3 => ⟨fun c4 => absurd rfl c4, fun _ => ?_⟩)
      · exact zm_or _ _
      · rw [if_pos c3] at g3; exact g3
      · rw [c3, if_neg (by decide)] at g3
        rw [← g3] at hq; exact hq
  · rintro ⟨v6, v7⟩ ⟨o, g1, g2, g3⟩ K2
    simp only at g1 g2
    subst g1; subst g2
    simp only [L_X1_firstWrong_r26_r6_6]
    rw [zle_n (by omega) (by omega)]
    rw [Nat.sub_self] at g3
    rw [← g3] at hq
    exact ⟨fun _ => hq, fun c => absurd (Nat.le_refl _) c⟩
theorem OP_crossings_c1 {Ln : Nat} {xs : Nat → Int32} {I A : Nat → Nat → Int32} {v w u : Int32} {Q : Int32 → (Nat → Nat → Int32) → Prop} (hv : INV xs I A) (hq : ∀ x I', (∀ Q2 : Int32 → (Nat → Nat → Int32) → Prop, (∀ I2, INV xs I2 A → Q2 x I2) → W_X8_crossings_r44 Ln I' A (zi (1 : Nat)) v w u Q2) → Q x I') : W_X7_crossings_r1_c1 Ln I A v w u Q := by
  obtain ⟨D, E, hv⟩ := hv
  obtain ⟨hd, he, hb, hr, hc, ⟨h19, h42⟩, hl, hrd, hvn, ht, hsh, h0⟩ := hv.parts
  have hn := hd.1
  have hco := zco_ok hd he
  obtain ⟨b, l, n0, hs⟩ := hv.sh.at_1.d
  have hs0 := hs
  obtain ⟨h1, hl3, h3, h4, h5⟩ := hs
  unfold W_X7_crossings_r1_c1 W_X7_faultless_r1 W_X7_faulted_r1
  refine C_isSheet_1 ⟨fun _ => ?_, fun c => absurd (show (1 : Int32) ≠ 0 by decide) c⟩
  by_cases hlv : 0 ≤ v.toInt ∧ v.toInt < (3 : Nat)
  · obtain ⟨l2, hl2, rfl⟩ := zasn hlv
    refine C_isLane_y hl2 ⟨fun _ => ?_, fun c => absurd (show (1 : Int32) ≠ 0 by decide) c⟩
    by_cases hnb : 0 < dn D
    · refine C_noBank_y hb.1 hn hnb ⟨fun _ => C_foc_5 hs0 ?_, fun c => absurd rfl c⟩
      have hfl := zff_le b l n0 (zi l2) w u
      have hK : ∀ (J : Nat → Nat → Int32) (Q2 : Int32 → (Nat → Nat → Int32) → Prop), J 44 4 = zi (dn D) → W_X8_cellsBarred_r44 Ln J A (zi (1 : Nat)) (zi l2) w (Int32.toInt64 u) (fun (r3 : Int32) (I4 : Nat → Nat → Int32) => (((0 : Int32) ≤ r3 → (((u : Int32) ≤ 20 → ((zLoop (L_X8_crossings_r44_83 Ln I4 A (zi (1 : Nat)) (zi l2) w u r3 Q2) 0))) ∧ (¬ ((u : Int32) ≤ 20) → ((W_X8_refused_r44 Ln I4 A (-2) (fun (r17 : Int32) (I18 : Nat → Nat → Int32) => (Q2 r17 I18))))))) ∧ (¬ ((0 : Int32) ≤ r3) → (Q2 r3 I4)))) → W_X8_crossings_r44 Ln J A (zi (1 : Nat)) (zi l2) w u Q2 := by
        intro J Q2 hJ hk
        unfold W_X8_crossings_r44
        refine K_noSheet_y (by decide) ⟨fun _ => K_lane_y hl2 ⟨fun _ => ?_, fun c => absurd (show (1 : Int32) ≠ 0 by decide) c⟩, fun c => absurd rfl c⟩
        rw [hJ, K_shades hn]
        exact ⟨fun _ => hk, fun c => absurd hnb c⟩
      refine ⟨fun c => ?_, fun c => ?_⟩
      · have hz : zff b l n0 (zi l2) w u = 0 := by
          rw [show (0 : Int32) = zi 0 from rfl, zi_inj (by omega) (by omega) (by omega) (by omega)] at c; exact c
        obtain ⟨hbt, hll, hu0, hw0, hwu⟩ := zff_0 hz
        obtain ⟨i, hi, rfl⟩ := zasn (v := w) (n := 61) ⟨hw0, by omega⟩
        obtain ⟨n, hn61, rfl⟩ := zasn (v := u) (n := 61) ⟨hu0, by omega⟩
        rw [zi_toInt (by omega) (by omega), zi_toInt (by omega) (by omega)] at hwu
        have hcell := (h5 hbt).2.2.2
        have hcell2 : ∀ x, x < n → A 67 (60 * 1 + i + x) = A 6 (i + x) := fun x hx => by rw [show 60 * 1 + i + x = 60 * 1 + (i + x) by omega]; exact (hcell (i + x) (by omega)).symm
        have hle20 : zi (n : Int) ≤ 20 ↔ n ≤ 20 := zle_n (i := 20) (by omega) (by decide)
        have hgt20 : 20 < zi (n : Int) ↔ 20 < n := zlt_n (n := 20) (by decide) (by omega)
        have hcb : ∀ (J : Nat → Nat → Int32) (Q3 : Int32 → (Nat → Nat → Int32) → Prop), Q3 0 J → W_X8_cellsBarred_r44 Ln J A (zi (1 : Nat)) (zi l2) (zi i) (Int32.toInt64 (zi n)) Q3 := fun J Q3 h6 => K_cellsBarred (b := b) (l := l) (n0 := n0) (by decide) h1 h4 (fun q => (h5 q).2.2.1) (fun _ => h6) (fun q => by omega)
        have hno : (20 < n ∨ ∃ x, x < n ∧ ¬ (0 ≤ (A 6 (i + x)).toInt ∧ (A 6 (i + x)).toInt < (2 ^ dn D : Nat))) → Q (-2) (zp I 1 11 0) := by
          intro hor
          refine hq _ _ (fun Q2 h2 => hK _ _ hr.1 (hcb _ _ ⟨fun _ => ⟨fun c2 => ?_, fun c2 => ?_⟩, fun c2 => absurd (by decide) c2⟩))
          · rw [hle20] at c2
            rcases hor with hor | ⟨x, hx, hor⟩
            · omega
            · refine K_crossOk (co := zco D E) (lw := elw E) hd hco (I := zp I 1 11 0) hr hc (by decide) (by omega) c2 (fun _ => h2 _ ⟨D, E, hv.ft 0⟩) (fun m hm => ?_)
              have hmx := hm x hx
              rw [hcell2 x hx] at hmx
              refine absurd ?_ hor
              have hpw := zpw hn
              rw [hmx.1, zi_toInt (by omega) (by omega)]; omega
          · unfold W_X8_refused_r44
            exact h2 _ ⟨D, E, hv.ft 0⟩
        unfold J_X7_crossings_r1_c1_97 W_X7_faultless_r1
        rw [hgt20]
        refine ⟨fun c2 => hno (Or.inl c2), fun c2 => C_knowsAll_6 hn hb.1 (by omega) (fun c3 => ⟨fun c4 => absurd rfl c4, fun _ => hno (Or.inr c3)⟩) (fun c3 => ⟨fun _ => C_whoPays_42 hd hco hb h42 ?_, fun c4 => absurd (show (1 : Int32) ≠ 0 by decide) c4⟩)⟩
        obtain ⟨m, hm⟩ : ∃ m : Nat → Nat, ∀ x, x < n → A 6 (i + x) = zi (m x) ∧ m x < 2 ^ dn D := by
          refine ⟨fun x => (A 6 (i + x)).toInt.toNat, fun x hx => ?_⟩
          have := c3 x hx
          exact ⟨by dsimp only; rw [Int.toNat_of_nonneg this.1, zi_self], by dsimp only; omega⟩
        refine C_firstWrong_6 hd hb (by omega) hm (hq _ _ (fun Q2 h2 => hK _ _ hr.1 (hcb _ _ ⟨fun _ => ⟨fun _ => ?_, fun c5 => absurd (hle20.mpr (by omega)) c5⟩, fun c5 => absurd (by decide) c5⟩)))
        refine K_crossOk (co := zco D E) (lw := elw E) hd hco (I := zp I 1 11 0) hr hc (by decide) (by omega) (by omega) (fun q => ?_) (fun m2 hm2 => ?_)
        · obtain ⟨x, hx, q⟩ := q
          rw [hcell2 x hx] at q
          exact absurd (c3 x hx) q
        · have hpw := zpw hn
          have em : ∀ x, x < n → zcs2 m2 x = zcs2 m x := fun x hx => by
            have e1 := hm x hx
            have e2 := hm2 x hx
            rw [hcell2 x hx, e1.1, zi_inj (by omega) (by omega) (by omega) (by omega)] at e2
            unfold zcs2
            rw [show m2 x = m x by omega]
          have ew : ∀ (k x : Nat) (o : Nat → Bool), x + k ≤ n → zfwr D (zco D E) (zcs2 m2) k x o = zfwr D (zco D E) (zcs2 m) k x o := by
            intro k
            induction k with
            | zero => intro x o _; rfl
            | succ k ih => intro x o hx; rw [zfwr_s, zfwr_s, em x (by omega), ih (x + 1) _ (by omega)]
          rw [ew n 0 _ (by omega)]
          exact h2 _ ⟨D, E, hv.ft 0⟩
      · have hf : 0 < zff b l n0 (zi l2) w u := by
          rw [show (0 : Int32) = zi 0 from rfl, zi_inj (by omega) (by omega) (by omega) (by omega)] at c; omega
        rw [zm10]
        refine hq _ _ (fun Q2 h2 => hK _ _ hr.1 (K_cellsBarred (b := b) (l := l) (n0 := n0) (by decide) h1 h4 (fun q => (h5 q).2.2.1) (fun q => by omega) (fun _ => ⟨fun c2 => ?_, fun _ => h2 _ ⟨D, E, hv.ft _⟩⟩)))
        exact absurd c2 (by rw [show (0 : Int32) = zi 0 from rfl, zi_le (by omega) (by omega) (by omega) (by omega)]; omega)
    · refine C_noBank_n hb.1 (by omega) ⟨fun c => absurd c (by decide), fun _ => hq _ _ (fun Q2 h2 => ?_)⟩
      unfold W_X8_crossings_r44 W_X8_refused_r44
      refine K_noSheet_y (by decide) ⟨fun _ => K_lane_y hl2 ⟨fun _ => ?_, fun c => absurd (show (1 : Int32) ≠ 0 by decide) c⟩, fun c => absurd rfl c⟩
      rw [show zp I 1 11 0 44 4 = zi (dn D) from hr.1, K_shades hn]
      exact ⟨fun c => absurd c hnb, fun _ => h2 _ ⟨D, E, hv.ft 0⟩⟩
  · refine C_isLane_n hlv ⟨fun c => absurd rfl c, fun _ => hq _ _ (fun Q2 h2 => ?_)⟩
    unfold W_X8_crossings_r44 W_X8_refused_r44
    exact K_noSheet_y (by decide) ⟨fun _ => K_lane_n hlv ⟨fun c => absurd rfl c, fun _ => h2 _ ⟨D, E, hv.ft 0⟩⟩, fun c => absurd rfl c⟩
theorem C_knowsAll_8 {Ln : Nat} {D : Nat → Nat → Nat} {i n : Nat} {I A : Nat → Nat → Int32} {Q : Int32 → Prop} (hn6 : dn D ≤ 6) (h11 : I 11 0 = zi (dn D)) (hi : i + n ≤ 60) (h0 : (∃ x, x < n ∧ ¬ (0 ≤ (A 8 (i + x)).toInt ∧ (A 8 (i + x)).toInt < (2 ^ dn D : Nat))) → Q 0) (h1 : (∀ x, x < n → 0 ≤ (A 8 (i + x)).toInt ∧ (A 8 (i + x)).toInt < (2 ^ dn D : Nat)) → Q 1) : W_X0_knowsAll_r11_r8 Ln I A (zi i) (zi n) Q := by
  unfold W_X0_knowsAll_r11_r8
  refine zLoop.inv (fun x v => v = zi x ∧ ∀ y, y < x → 0 ≤ (A 8 (i + y)).toInt ∧ (A 8 (i + y)).toInt < (2 ^ dn D : Nat)) n ⟨rfl, fun y h => by omega⟩ ?_ ?_
  · rintro x v hx ⟨rfl, g⟩ K hk2
    simp only [L_X0_knowsAll_r11_r8_3]
    rw [zle_n (by omega) (by omega), show zi i + zi x = zi ((i + x : Nat) : Int) from by rw [zi_add]; rfl, zi_nat' (by omega), h11, zshr_v hn6, zi_succ]
    refine ⟨fun c => by omega, fun _ => ⟨zin_n (by omega) (by decide), fun c => hk2 _ ⟨rfl, fun y hy => ?_⟩, fun c => h0 ⟨x, hx, c⟩⟩⟩
    by_cases e : y = x
    · rw [e]; exact c
    · exact g y (by omega)
  · rintro v ⟨rfl, g⟩ K
    simp only [L_X0_knowsAll_r11_r8_3]
    rw [zle_n (by omega) (by omega)]
    exact ⟨fun _ => h1 g, fun c => absurd (Nat.le_refl _) c⟩
theorem C_firstWrong_8 {Ln : Nat} {D : Nat → Nat → Nat} {co : Nat → Int} {i n : Nat} {m : Nat → Nat} {I A : Nat → Nat → Int32} {Q : Int32 → Prop} (hd : BD D) (hb : CB D I A) (hi : i + n ≤ 60) (hm : ∀ x, x < n → A 8 (i + x) = zi (m x) ∧ m x < 2 ^ dn D) (hq : Q (zi (zfwr D co (zcs2 m) n 0 (fun _ => false)))) : W_X1_firstWrong_r26_r8 Ln I A (zi i) (zi n) (zm (zpay D co)) Q := by
  have hn := hd.1
  have hpw := zpw hn
  unfold W_X1_firstWrong_r26_r8
  refine zLoop.inv (fun x σ => ∃ o : Nat → Bool, σ.1 = zm o ∧ σ.2 = zi x ∧ zfwr D co (zcs2 m) (n - x) x o = zfwr D co (zcs2 m) n 0 (fun _ => false)) n ⟨_, zm_none, rfl, rfl⟩ ?_ ?_
  · rintro x ⟨v6, v7⟩ hx ⟨o, g1, g2, g3⟩ K2 hk2
    simp only at g1 g2
    subst g1; subst g2
    obtain ⟨hm1, hm2⟩ := hm x hx
    have hzm : zi (m x : Int) = zm (zcs2 m x) := zm_of (by omega)
    have hhi : ∀ s, dn D ≤ s → s < 6 → zcs2 m x s = false := fun s hs _ => zcs2_hi hm2 hs
    rw [show n - x = (n - (x + 1)) + 1 by omega, zfwr_s] at g3
    simp only [L_X1_firstWrong_r26_r8_6]
    rw [zle_n (by omega) (by omega), show zi i + zi x = zi ((i + x : Nat) : Int) from by rw [zi_add]; rfl, zi_nat' (show i + x < 2147483648 by omega), zi_nat' (show x < 2147483648 by omega), hm1, hzm, hb.2.2.2.2.2.1 x (by omega), zm_andnot, zm_and, zm_andnot, znz, zi_succ]
    refine ⟨fun c => by omega, fun _ => ⟨zin_n (by omega) (by decide), zin_n (by omega) (by decide), fun c => ?_, fun c x1 e1 x2 e2 => ?_⟩⟩
    · unfold zmy at g3
      rw [c, Bool.false_and, if_neg (by decide)] at g3
      rw [← g3] at hq; exact hq
    · subst e1
      rw [Bool.not_eq_false] at c
      unfold zmy at g3
      rw [c, Bool.true_and] at g3
      refine C_carries hd hb hhi (fun c3 => ⟨fun _ => hk2 _ ⟨fun s => o s || zcs2 m x s, ?_, rfl, ?_⟩, fun c4 => absurd (show (1 : Int32) ≠ 0 by decide) c4⟩) (fun c3 => ⟨fun c4 => absurd rfl c4, fun _ => ?_⟩)
      · exact zm_or _ _
      · rw [if_pos c3] at g3; exact g3
      · rw [c3, if_neg (by decide)] at g3
        rw [← g3] at hq; exact hq
  · rintro ⟨v6, v7⟩ ⟨o, g1, g2, g3⟩ K2
    simp only at g1 g2
    subst g1; subst g2
    simp only [L_X1_firstWrong_r26_r8_6]
    rw [zle_n (by omega) (by omega)]
    rw [Nat.sub_self] at g3
    rw [← g3] at hq
    exact ⟨fun _ => hq, fun c => absurd (Nat.le_refl _) c⟩
theorem OP_crossings_c2 {Ln : Nat} {xs : Nat → Int32} {I A : Nat → Nat → Int32} {v w u : Int32} {Q : Int32 → (Nat → Nat → Int32) → Prop} (hv : INV xs I A) (hq : ∀ x I', (∀ Q2 : Int32 → (Nat → Nat → Int32) → Prop, (∀ I2, INV xs I2 A → Q2 x I2) → W_X8_crossings_r44 Ln I' A (zi (2 : Nat)) v w u Q2) → Q x I') : W_X7_crossings_r1_c2 Ln I A v w u Q := by
  obtain ⟨D, E, hv⟩ := hv
  obtain ⟨hd, he, hb, hr, hc, ⟨h19, h42⟩, hl, hrd, hvn, ht, hsh, h0⟩ := hv.parts
  have hn := hd.1
  have hco := zco_ok hd he
  obtain ⟨b, l, n0, hs⟩ := hv.sh.at_2.d
  have hs0 := hs
  obtain ⟨h1, hl3, h3, h4, h5⟩ := hs
  unfold W_X7_crossings_r1_c2 W_X7_faultless_r1 W_X7_faulted_r1
  refine C_isSheet_2 ⟨fun _ => ?_, fun c => absurd (show (1 : Int32) ≠ 0 by decide) c⟩
  by_cases hlv : 0 ≤ v.toInt ∧ v.toInt < (3 : Nat)
  · obtain ⟨l2, hl2, rfl⟩ := zasn hlv
    refine C_isLane_y hl2 ⟨fun _ => ?_, fun c => absurd (show (1 : Int32) ≠ 0 by decide) c⟩
    by_cases hnb : 0 < dn D
    · refine C_noBank_y hb.1 hn hnb ⟨fun _ => C_foc_7 hs0 ?_, fun c => absurd rfl c⟩
      have hfl := zff_le b l n0 (zi l2) w u
      have hK : ∀ (J : Nat → Nat → Int32) (Q2 : Int32 → (Nat → Nat → Int32) → Prop), J 44 4 = zi (dn D) → W_X8_cellsBarred_r44 Ln J A (zi (2 : Nat)) (zi l2) w (Int32.toInt64 u) (fun (r3 : Int32) (I4 : Nat → Nat → Int32) => (((0 : Int32) ≤ r3 → (((u : Int32) ≤ 20 → ((zLoop (L_X8_crossings_r44_83 Ln I4 A (zi (2 : Nat)) (zi l2) w u r3 Q2) 0))) ∧ (¬ ((u : Int32) ≤ 20) → ((W_X8_refused_r44 Ln I4 A (-2) (fun (r17 : Int32) (I18 : Nat → Nat → Int32) => (Q2 r17 I18))))))) ∧ (¬ ((0 : Int32) ≤ r3) → (Q2 r3 I4)))) → W_X8_crossings_r44 Ln J A (zi (2 : Nat)) (zi l2) w u Q2 := by
        intro J Q2 hJ hk
        unfold W_X8_crossings_r44
        refine K_noSheet_y (by decide) ⟨fun _ => K_lane_y hl2 ⟨fun _ => ?_, fun c => absurd (show (1 : Int32) ≠ 0 by decide) c⟩, fun c => absurd rfl c⟩
        rw [hJ, K_shades hn]
        exact ⟨fun _ => hk, fun c => absurd hnb c⟩
      refine ⟨fun c => ?_, fun c => ?_⟩
      · have hz : zff b l n0 (zi l2) w u = 0 := by
          rw [show (0 : Int32) = zi 0 from rfl, zi_inj (by omega) (by omega) (by omega) (by omega)] at c; exact c
        obtain ⟨hbt, hll, hu0, hw0, hwu⟩ := zff_0 hz
        obtain ⟨i, hi, rfl⟩ := zasn (v := w) (n := 61) ⟨hw0, by omega⟩
        obtain ⟨n, hn61, rfl⟩ := zasn (v := u) (n := 61) ⟨hu0, by omega⟩
        rw [zi_toInt (by omega) (by omega), zi_toInt (by omega) (by omega)] at hwu
        have hcell := (h5 hbt).2.2.2
        have hcell2 : ∀ x, x < n → A 67 (60 * 2 + i + x) = A 8 (i + x) := fun x hx => by rw [show 60 * 2 + i + x = 60 * 2 + (i + x) by omega]; exact (hcell (i + x) (by omega)).symm
        have hle20 : zi (n : Int) ≤ 20 ↔ n ≤ 20 := zle_n (i := 20) (by omega) (by decide)
        have hgt20 : 20 < zi (n : Int) ↔ 20 < n := zlt_n (n := 20) (by decide) (by omega)
        have hcb : ∀ (J : Nat → Nat → Int32) (Q3 : Int32 → (Nat → Nat → Int32) → Prop), Q3 0 J → W_X8_cellsBarred_r44 Ln J A (zi (2 : Nat)) (zi l2) (zi i) (Int32.toInt64 (zi n)) Q3 := fun J Q3 h6 => K_cellsBarred (b := b) (l := l) (n0 := n0) (by decide) h1 h4 (fun q => (h5 q).2.2.1) (fun _ => h6) (fun q => by omega)
        have hno : (20 < n ∨ ∃ x, x < n ∧ ¬ (0 ≤ (A 8 (i + x)).toInt ∧ (A 8 (i + x)).toInt < (2 ^ dn D : Nat))) → Q (-2) (zp I 1 11 0) := by
          intro hor
          refine hq _ _ (fun Q2 h2 => hK _ _ hr.1 (hcb _ _ ⟨fun _ => ⟨fun c2 => ?_, fun c2 => ?_⟩, fun c2 => absurd (by decide) c2⟩))
          · rw [hle20] at c2
            rcases hor with hor | ⟨x, hx, hor⟩
            · omega
            · refine K_crossOk (co := zco D E) (lw := elw E) hd hco (I := zp I 1 11 0) hr hc (by decide) (by omega) c2 (fun _ => h2 _ ⟨D, E, hv.ft 0⟩) (fun m hm => ?_)
              have hmx := hm x hx
              rw [hcell2 x hx] at hmx
              refine absurd ?_ hor
              have hpw := zpw hn
              rw [hmx.1, zi_toInt (by omega) (by omega)]; omega
          · unfold W_X8_refused_r44
            exact h2 _ ⟨D, E, hv.ft 0⟩
        unfold J_X7_crossings_r1_c2_97 W_X7_faultless_r1
        rw [hgt20]
        refine ⟨fun c2 => hno (Or.inl c2), fun c2 => C_knowsAll_8 hn hb.1 (by omega) (fun c3 => ⟨fun c4 => absurd rfl c4, fun _ => hno (Or.inr c3)⟩) (fun c3 => ⟨fun _ => C_whoPays_42 hd hco hb h42 ?_, fun c4 => absurd (show (1 : Int32) ≠ 0 by decide) c4⟩)⟩
        obtain ⟨m, hm⟩ : ∃ m : Nat → Nat, ∀ x, x < n → A 8 (i + x) = zi (m x) ∧ m x < 2 ^ dn D := by
          refine ⟨fun x => (A 8 (i + x)).toInt.toNat, fun x hx => ?_⟩
          have := c3 x hx
          exact ⟨by dsimp only; rw [Int.toNat_of_nonneg this.1, zi_self], by dsimp only; omega⟩
        refine C_firstWrong_8 hd hb (by omega) hm (hq _ _ (fun Q2 h2 => hK _ _ hr.1 (hcb _ _ ⟨fun _ => ⟨fun _ => ?_, fun c5 => absurd (hle20.mpr (by omega)) c5⟩, fun c5 => absurd (by decide) c5⟩)))
        refine K_crossOk (co := zco D E) (lw := elw E) hd hco (I := zp I 1 11 0) hr hc (by decide) (by omega) (by omega) (fun q => ?_) (fun m2 hm2 => ?_)
        · obtain ⟨x, hx, q⟩ := q
          rw [hcell2 x hx] at q
          exact absurd (c3 x hx) q
        · have hpw := zpw hn
          have em : ∀ x, x < n → zcs2 m2 x = zcs2 m x := fun x hx => by
            have e1 := hm x hx
            have e2 := hm2 x hx
            rw [hcell2 x hx, e1.1, zi_inj (by omega) (by omega) (by omega) (by omega)] at e2
            unfold zcs2
            rw [show m2 x = m x by omega]
          have ew : ∀ (k x : Nat) (o : Nat → Bool), x + k ≤ n → zfwr D (zco D E) (zcs2 m2) k x o = zfwr D (zco D E) (zcs2 m) k x o := by
            intro k
            induction k with
            | zero => intro x o _; rfl
            | succ k ih => intro x o hx; rw [zfwr_s, zfwr_s, em x (by omega), ih (x + 1) _ (by omega)]
          rw [ew n 0 _ (by omega)]
          exact h2 _ ⟨D, E, hv.ft 0⟩
      · have hf : 0 < zff b l n0 (zi l2) w u := by
          rw [show (0 : Int32) = zi 0 from rfl, zi_inj (by omega) (by omega) (by omega) (by omega)] at c; omega
        rw [zm10]
        refine hq _ _ (fun Q2 h2 => hK _ _ hr.1 (K_cellsBarred (b := b) (l := l) (n0 := n0) (by decide) h1 h4 (fun q => (h5 q).2.2.1) (fun q => by omega) (fun _ => ⟨fun c2 => ?_, fun _ => h2 _ ⟨D, E, hv.ft _⟩⟩)))
        exact absurd c2 (by rw [show (0 : Int32) = zi 0 from rfl, zi_le (by omega) (by omega) (by omega) (by omega)]; omega)
    · refine C_noBank_n hb.1 (by omega) ⟨fun c => absurd c (by decide), fun _ => hq _ _ (fun Q2 h2 => ?_)⟩
      unfold W_X8_crossings_r44 W_X8_refused_r44
      refine K_noSheet_y (by decide) ⟨fun _ => K_lane_y hl2 ⟨fun _ => ?_, fun c => absurd (show (1 : Int32) ≠ 0 by decide) c⟩, fun c => absurd rfl c⟩
      rw [show zp I 1 11 0 44 4 = zi (dn D) from hr.1, K_shades hn]
      exact ⟨fun c => absurd c hnb, fun _ => h2 _ ⟨D, E, hv.ft 0⟩⟩
  · refine C_isLane_n hlv ⟨fun c => absurd rfl c, fun _ => hq _ _ (fun Q2 h2 => ?_)⟩
    unfold W_X8_crossings_r44 W_X8_refused_r44
    exact K_noSheet_y (by decide) ⟨fun _ => K_lane_n hlv ⟨fun c => absurd rfl c, fun _ => h2 _ ⟨D, E, hv.ft 0⟩⟩, fun c => absurd rfl c⟩
theorem C_knowsAll_10 {Ln : Nat} {D : Nat → Nat → Nat} {i n : Nat} {I A : Nat → Nat → Int32} {Q : Int32 → Prop} (hn6 : dn D ≤ 6) (h11 : I 11 0 = zi (dn D)) (hi : i + n ≤ 60) (h0 : (∃ x, x < n ∧ ¬ (0 ≤ (A 10 (i + x)).toInt ∧ (A 10 (i + x)).toInt < (2 ^ dn D : Nat))) → Q 0) (h1 : (∀ x, x < n → 0 ≤ (A 10 (i + x)).toInt ∧ (A 10 (i + x)).toInt < (2 ^ dn D : Nat)) → Q 1) : W_X0_knowsAll_r11_r10 Ln I A (zi i) (zi n) Q := by
  unfold W_X0_knowsAll_r11_r10
  refine zLoop.inv (fun x v => v = zi x ∧ ∀ y, y < x → 0 ≤ (A 10 (i + y)).toInt ∧ (A 10 (i + y)).toInt < (2 ^ dn D : Nat)) n ⟨rfl, fun y h => by omega⟩ ?_ ?_
  · rintro x v hx ⟨rfl, g⟩ K hk2
    simp only [L_X0_knowsAll_r11_r10_3]
    rw [zle_n (by omega) (by omega), show zi i + zi x = zi ((i + x : Nat) : Int) from by rw [zi_add]; rfl, zi_nat' (by omega), h11, zshr_v hn6, zi_succ]
    refine ⟨fun c => by omega, fun _ => ⟨zin_n (by omega) (by decide), fun c => hk2 _ ⟨rfl, fun y hy => ?_⟩, fun c => h0 ⟨x, hx, c⟩⟩⟩
    by_cases e : y = x
    · rw [e]; exact c
    · exact g y (by omega)
  · rintro v ⟨rfl, g⟩ K
    simp only [L_X0_knowsAll_r11_r10_3]
    rw [zle_n (by omega) (by omega)]
    exact ⟨fun _ => h1 g, fun c => absurd (Nat.le_refl _) c⟩
theorem C_firstWrong_10 {Ln : Nat} {D : Nat → Nat → Nat} {co : Nat → Int} {i n : Nat} {m : Nat → Nat} {I A : Nat → Nat → Int32} {Q : Int32 → Prop} (hd : BD D) (hb : CB D I A) (hi : i + n ≤ 60) (hm : ∀ x, x < n → A 10 (i + x) = zi (m x) ∧ m x < 2 ^ dn D) (hq : Q (zi (zfwr D co (zcs2 m) n 0 (fun _ => false)))) : W_X1_firstWrong_r26_r10 Ln I A (zi i) (zi n) (zm (zpay D co)) Q := by
  have hn := hd.1
  have hpw := zpw hn
  unfold W_X1_firstWrong_r26_r10
  refine zLoop.inv (fun x σ => ∃ o : Nat → Bool, σ.1 = zm o ∧ σ.2 = zi x ∧ zfwr D co (zcs2 m) (n - x) x o = zfwr D co (zcs2 m) n 0 (fun _ => false)) n ⟨_, zm_none, rfl, rfl⟩ ?_ ?_
  · rintro x ⟨v6, v7⟩ hx ⟨o, g1, g2, g3⟩ K2 hk2
    simp only at g1 g2
    subst g1; subst g2
    obtain ⟨hm1, hm2⟩ := hm x hx
    have hzm : zi (m x : Int) = zm (zcs2 m x) := zm_of (by omega)
    have hhi : ∀ s, dn D ≤ s → s < 6 → zcs2 m x s = false := fun s hs _ => zcs2_hi hm2 hs
    rw [show n - x = (n - (x + 1)) + 1 by omega, zfwr_s] at g3
    simp only [L_X1_firstWrong_r26_r10_6]
    rw [zle_n (by omega) (by omega), show zi i + zi x = zi ((i + x : Nat) : Int) from by rw [zi_add]; rfl, zi_nat' (show i + x < 2147483648 by omega), zi_nat' (show x < 2147483648 by omega), hm1, hzm, hb.2.2.2.2.2.1 x (by omega), zm_andnot, zm_and, zm_andnot, znz, zi_succ]
    refine ⟨fun c => by omega, fun _ => ⟨zin_n (by omega) (by decide), zin_n (by omega) (by decide), fun c => ?_, fun c x1 e1 x2 e2 => ?_⟩⟩
    · unfold zmy at g3
      rw [c, Bool.false_and, if_neg (by decide)] at g3
      rw [← g3] at hq; exact hq
    · subst e1
      rw [Bool.not_eq_false] at c
      unfold zmy at g3
      rw [c, Bool.true_and] at g3
      refine C_carries hd hb hhi (fun c3 => ⟨fun _ => hk2 _ ⟨fun s => o s || zcs2 m x s, ?_, rfl, ?_⟩, fun c4 => absurd (show (1 : Int32) ≠ 0 by decide) c4⟩) (fun c3 => ⟨fun c4 => absurd rfl c4, fun _ => ?_⟩)
      · exact zm_or _ _
      · rw [if_pos c3] at g3; exact g3
      · rw [c3, if_neg (by decide)] at g3
        rw [← g3] at hq; exact hq
  · rintro ⟨v6, v7⟩ ⟨o, g1, g2, g3⟩ K2
    simp only at g1 g2
    subst g1; subst g2
    simp only [L_X1_firstWrong_r26_r10_6]
    rw [zle_n (by omega) (by omega)]
    rw [Nat.sub_self] at g3
    rw [← g3] at hq
    exact ⟨fun _ => hq, fun c => absurd (Nat.le_refl _) c⟩
theorem OP_crossings_c3 {Ln : Nat} {xs : Nat → Int32} {I A : Nat → Nat → Int32} {v w u : Int32} {Q : Int32 → (Nat → Nat → Int32) → Prop} (hv : INV xs I A) (hq : ∀ x I', (∀ Q2 : Int32 → (Nat → Nat → Int32) → Prop, (∀ I2, INV xs I2 A → Q2 x I2) → W_X8_crossings_r44 Ln I' A (zi (3 : Nat)) v w u Q2) → Q x I') : W_X7_crossings_r1_c3 Ln I A v w u Q := by
  obtain ⟨D, E, hv⟩ := hv
  obtain ⟨hd, he, hb, hr, hc, ⟨h19, h42⟩, hl, hrd, hvn, ht, hsh, h0⟩ := hv.parts
  have hn := hd.1
  have hco := zco_ok hd he
  obtain ⟨b, l, n0, hs⟩ := hv.sh.at_3.d
  have hs0 := hs
  obtain ⟨h1, hl3, h3, h4, h5⟩ := hs
  unfold W_X7_crossings_r1_c3 W_X7_faultless_r1 W_X7_faulted_r1
  refine C_isSheet_3 ⟨fun _ => ?_, fun c => absurd (show (1 : Int32) ≠ 0 by decide) c⟩
  by_cases hlv : 0 ≤ v.toInt ∧ v.toInt < (3 : Nat)
  · obtain ⟨l2, hl2, rfl⟩ := zasn hlv
    refine C_isLane_y hl2 ⟨fun _ => ?_, fun c => absurd (show (1 : Int32) ≠ 0 by decide) c⟩
    by_cases hnb : 0 < dn D
    · refine C_noBank_y hb.1 hn hnb ⟨fun _ => C_foc_9 hs0 ?_, fun c => absurd rfl c⟩
      have hfl := zff_le b l n0 (zi l2) w u
      have hK : ∀ (J : Nat → Nat → Int32) (Q2 : Int32 → (Nat → Nat → Int32) → Prop), J 44 4 = zi (dn D) → W_X8_cellsBarred_r44 Ln J A (zi (3 : Nat)) (zi l2) w (Int32.toInt64 u) (fun (r3 : Int32) (I4 : Nat → Nat → Int32) => (((0 : Int32) ≤ r3 → (((u : Int32) ≤ 20 → ((zLoop (L_X8_crossings_r44_83 Ln I4 A (zi (3 : Nat)) (zi l2) w u r3 Q2) 0))) ∧ (¬ ((u : Int32) ≤ 20) → ((W_X8_refused_r44 Ln I4 A (-2) (fun (r17 : Int32) (I18 : Nat → Nat → Int32) => (Q2 r17 I18))))))) ∧ (¬ ((0 : Int32) ≤ r3) → (Q2 r3 I4)))) → W_X8_crossings_r44 Ln J A (zi (3 : Nat)) (zi l2) w u Q2 := by
        intro J Q2 hJ hk
        unfold W_X8_crossings_r44
        refine K_noSheet_y (by decide) ⟨fun _ => K_lane_y hl2 ⟨fun _ => ?_, fun c => absurd (show (1 : Int32) ≠ 0 by decide) c⟩, fun c => absurd rfl c⟩
        rw [hJ, K_shades hn]
        exact ⟨fun _ => hk, fun c => absurd hnb c⟩
      refine ⟨fun c => ?_, fun c => ?_⟩
      · have hz : zff b l n0 (zi l2) w u = 0 := by
          rw [show (0 : Int32) = zi 0 from rfl, zi_inj (by omega) (by omega) (by omega) (by omega)] at c; exact c
        obtain ⟨hbt, hll, hu0, hw0, hwu⟩ := zff_0 hz
        obtain ⟨i, hi, rfl⟩ := zasn (v := w) (n := 61) ⟨hw0, by omega⟩
        obtain ⟨n, hn61, rfl⟩ := zasn (v := u) (n := 61) ⟨hu0, by omega⟩
        rw [zi_toInt (by omega) (by omega), zi_toInt (by omega) (by omega)] at hwu
        have hcell := (h5 hbt).2.2.2
        have hcell2 : ∀ x, x < n → A 67 (60 * 3 + i + x) = A 10 (i + x) := fun x hx => by rw [show 60 * 3 + i + x = 60 * 3 + (i + x) by omega]; exact (hcell (i + x) (by omega)).symm
        have hle20 : zi (n : Int) ≤ 20 ↔ n ≤ 20 := zle_n (i := 20) (by omega) (by decide)
        have hgt20 : 20 < zi (n : Int) ↔ 20 < n := zlt_n (n := 20) (by decide) (by omega)
        have hcb : ∀ (J : Nat → Nat → Int32) (Q3 : Int32 → (Nat → Nat → Int32) → Prop), Q3 0 J → W_X8_cellsBarred_r44 Ln J A (zi (3 : Nat)) (zi l2) (zi i) (Int32.toInt64 (zi n)) Q3 := fun J Q3 h6 => K_cellsBarred (b := b) (l := l) (n0 := n0) (by decide) h1 h4 (fun q => (h5 q).2.2.1) (fun _ => h6) (fun q => by omega)
        have hno : (20 < n ∨ ∃ x, x < n ∧ ¬ (0 ≤ (A 10 (i + x)).toInt ∧ (A 10 (i + x)).toInt < (2 ^ dn D : Nat))) → Q (-2) (zp I 1 11 0) := by
          intro hor
          refine hq _ _ (fun Q2 h2 => hK _ _ hr.1 (hcb _ _ ⟨fun _ => ⟨fun c2 => ?_, fun c2 => ?_⟩, fun c2 => absurd (by decide) c2⟩))
          · rw [hle20] at c2
            rcases hor with hor | ⟨x, hx, hor⟩
            · omega
            · refine K_crossOk (co := zco D E) (lw := elw E) hd hco (I := zp I 1 11 0) hr hc (by decide) (by omega) c2 (fun _ => h2 _ ⟨D, E, hv.ft 0⟩) (fun m hm => ?_)
              have hmx := hm x hx
              rw [hcell2 x hx] at hmx
              refine absurd ?_ hor
              have hpw := zpw hn
              rw [hmx.1, zi_toInt (by omega) (by omega)]; omega
          · unfold W_X8_refused_r44
            exact h2 _ ⟨D, E, hv.ft 0⟩
        unfold J_X7_crossings_r1_c3_97 W_X7_faultless_r1
        rw [hgt20]
        refine ⟨fun c2 => hno (Or.inl c2), fun c2 => C_knowsAll_10 hn hb.1 (by omega) (fun c3 => ⟨fun c4 => absurd rfl c4, fun _ => hno (Or.inr c3)⟩) (fun c3 => ⟨fun _ => C_whoPays_42 hd hco hb h42 ?_, fun c4 => absurd (show (1 : Int32) ≠ 0 by decide) c4⟩)⟩
        obtain ⟨m, hm⟩ : ∃ m : Nat → Nat, ∀ x, x < n → A 10 (i + x) = zi (m x) ∧ m x < 2 ^ dn D := by
          refine ⟨fun x => (A 10 (i + x)).toInt.toNat, fun x hx => ?_⟩
          have := c3 x hx
          exact ⟨by dsimp only; rw [Int.toNat_of_nonneg this.1, zi_self], by dsimp only; omega⟩
        refine C_firstWrong_10 hd hb (by omega) hm (hq _ _ (fun Q2 h2 => hK _ _ hr.1 (hcb _ _ ⟨fun _ => ⟨fun _ => ?_, fun c5 => absurd (hle20.mpr (by omega)) c5⟩, fun c5 => absurd (by decide) c5⟩)))
        refine K_crossOk (co := zco D E) (lw := elw E) hd hco (I := zp I 1 11 0) hr hc (by decide) (by omega) (by omega) (fun q => ?_) (fun m2 hm2 => ?_)
        · obtain ⟨x, hx, q⟩ := q
          rw [hcell2 x hx] at q
          exact absurd (c3 x hx) q
        · have hpw := zpw hn
          have em : ∀ x, x < n → zcs2 m2 x = zcs2 m x := fun x hx => by
            have e1 := hm x hx
            have e2 := hm2 x hx
            rw [hcell2 x hx, e1.1, zi_inj (by omega) (by omega) (by omega) (by omega)] at e2
            unfold zcs2
            rw [show m2 x = m x by omega]
          have ew : ∀ (k x : Nat) (o : Nat → Bool), x + k ≤ n → zfwr D (zco D E) (zcs2 m2) k x o = zfwr D (zco D E) (zcs2 m) k x o := by
            intro k
            induction k with
            | zero => intro x o _; rfl
            | succ k ih => intro x o hx; rw [zfwr_s, zfwr_s, em x (by omega), ih (x + 1) _ (by omega)]
          rw [ew n 0 _ (by omega)]
          exact h2 _ ⟨D, E, hv.ft 0⟩
      · have hf : 0 < zff b l n0 (zi l2) w u := by
          rw [show (0 : Int32) = zi 0 from rfl, zi_inj (by omega) (by omega) (by omega) (by omega)] at c; omega
        rw [zm10]
        refine hq _ _ (fun Q2 h2 => hK _ _ hr.1 (K_cellsBarred (b := b) (l := l) (n0 := n0) (by decide) h1 h4 (fun q => (h5 q).2.2.1) (fun q => by omega) (fun _ => ⟨fun c2 => ?_, fun _ => h2 _ ⟨D, E, hv.ft _⟩⟩)))
        exact absurd c2 (by rw [show (0 : Int32) = zi 0 from rfl, zi_le (by omega) (by omega) (by omega) (by omega)]; omega)
    · refine C_noBank_n hb.1 (by omega) ⟨fun c => absurd c (by decide), fun _ => hq _ _ (fun Q2 h2 => ?_)⟩
      unfold W_X8_crossings_r44 W_X8_refused_r44
      refine K_noSheet_y (by decide) ⟨fun _ => K_lane_y hl2 ⟨fun _ => ?_, fun c => absurd (show (1 : Int32) ≠ 0 by decide) c⟩, fun c => absurd rfl c⟩
      rw [show zp I 1 11 0 44 4 = zi (dn D) from hr.1, K_shades hn]
      exact ⟨fun c => absurd c hnb, fun _ => h2 _ ⟨D, E, hv.ft 0⟩⟩
  · refine C_isLane_n hlv ⟨fun c => absurd rfl c, fun _ => hq _ _ (fun Q2 h2 => ?_)⟩
    unfold W_X8_crossings_r44 W_X8_refused_r44
    exact K_noSheet_y (by decide) ⟨fun _ => K_lane_n hlv ⟨fun c => absurd rfl c, fun _ => h2 _ ⟨D, E, hv.ft 0⟩⟩, fun c => absurd rfl c⟩
theorem OP_crossings {Ln : Nat} {xs : Nat → Int32} {I A : Nat → Nat → Int32} {s v w u : Int32} {Q : Int32 → (Nat → Nat → Int32) → Prop} (hv : INV xs I A) (hq : ∀ x I', (∀ Q2 : Int32 → (Nat → Nat → Int32) → Prop, (∀ I2, INV xs I2 A → Q2 x I2) → W_X8_crossings_r44 Ln I' A s v w u Q2) → Q x I') : W_X7_crossings_r1 Ln I A s v w u Q := by
  unfold W_X7_crossings_r1
  refine ⟨fun e => ?_, fun e => ?_, fun e => ?_, fun e => ?_, fun n0 n1 n2 n3 => ?_⟩
  · subst e; exact OP_crossings_c0 hv hq
  · subst e; exact OP_crossings_c1 hv hq
  · subst e; exact OP_crossings_c2 hv hq
  · subst e; exact OP_crossings_c3 hv hq
  · rcases z4 (v := s) with c | hn
    · exact absurd c (by rintro (c | c | c | c) <;> contradiction)
    · obtain ⟨D, E, hv⟩ := hv
      refine C_isSheet_n hn ⟨fun c => absurd rfl c, fun _ => ?_⟩
      unfold W_X7_faultless_r1
      refine hq _ _ (fun Q2 h2 => ?_)
      unfold W_X8_crossings_r44 W_X8_refused_r44
      exact K_noSheet_n hn ⟨fun c => absurd c (by decide), fun _ => h2 _ ⟨D, E, hv.ft 0⟩⟩
