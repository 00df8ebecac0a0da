/-! texts -/
def dg (v : Int32) (lo hi : Nat) : Bool := decide (48 + (lo : Int) ≤ v.toInt ∧ v.toInt ≤ 48 + (hi : Int))
def num (v : Int32) : Nat := (v.toInt - 48).toNat
theorem dg_num {v : Int32} {lo hi : Nat} (h : dg v lo hi = true) : v - 48 = zi (num v : Int) ∧ lo ≤ num v ∧ num v ≤ hi := by
  have h1 := of_decide_eq_true h
  unfold num
  refine ⟨?_, by omega, by omega⟩
  rw [Int.toNat_of_nonneg (by omega), ← zi_sub, zi_self]; rfl
theorem dg_in {v : Int32} {lo hi : Nat} (hh : hi ≤ 9) : ((lo : Int) ≤ (v - 48).toInt ∧ (v - 48).toInt ≤ (hi : Int)) ↔ dg v lo hi = true := by
  constructor
  · intro h
    have e : v = zi ((v - 48).toInt + 48) := by
      rw [← zi_add, zi_self, show zi 48 = 48 from rfl, Int32.sub_add_cancel]
    refine decide_eq_true ?_
    have h2 : v.toInt = (v - 48).toInt + 48 := by
      have := congrArg Int32.toInt e
      rw [zi_toInt (by omega) (by omega)] at this; exact this
    omega
  · intro h
    obtain ⟨h1, h2, h3⟩ := dg_num h
    rw [h1, zi_toInt (by omega) (by omega)]
    omega
def zmp (r : Nat) (v : Int32) : Bool := if r = 0 then decide (v = 59) else if r = 1 then decide (v = 115 ∨ v = 100 ∨ v = 108) else if r = 2 then dg v 0 3 else if r = 3 then dg v 1 9 else if r = 4 then dg v 0 2 else dg v 0 9
def zms (cd : Nat → Int32) (p : Nat) : Bool := if p < 5 then (if p = 0 then decide (cd 0 = 114) else if p = 2 then dg (cd 2) 0 9 else if p = 3 then dg (cd 3) (if cd 2 = 48 then 1 else 0) 9 else dg (cd p) 1 4) else if p < 41 then zmp ((p - 5) % 6) (cd p) else false
/-- the first fault -/
def zbadR (cd : Nat → Int32) (n p : Nat) : Prop := p ≤ n ∧ (∀ q, q < p → zms cd q = true) ∧ (p < n → zms cd p = false) ∧ (p = n → ¬ (5 < n ∧ (n - 5) % 6 = 0))
theorem zbadR_one {cd : Nat → Int32} {n p q : Nat} (h : zbadR cd n p) (h2 : zbadR cd n q) : p = q := by
  by_cases c : p < q
  · have := h2.2.1 p c
    rw [h.2.2.1 (by have := h2.1; omega)] at this; cases this
  · by_cases c2 : q < p
    · have := h.2.1 q c2
      rw [h2.2.2.1 (by have := h.1; omega)] at this; cases this
    · omega
theorem zbadR_no {cd : Nat → Int32} {n p : Nat} (h : zbadR cd n p) (h2 : ∀ q, q < n → zms cd q = true) (h3 : 5 < n ∧ (n - 5) % 6 = 0) : False := by
  by_cases c : p < n
  · have := h2 p c
    rw [h.2.2.1 c] at this; cases this
  · exact h.2.2.2 (by have := h.1; omega) h3
theorem zmod6 {n : Nat} (h : 5 ≤ n) (h2 : n ≤ 60) : zi (n : Int) - 5 - (zi (n : Int) - 5) / 6 * 6 = zi (((n - 5) % 6 : Nat) : Int) ∧ (zi (n : Int) - 5) / 6 = zi (((n - 5) / 6 : Nat) : Int) := (show ∀ n : Nat, n ≤ 60 → 5 ≤ n → zi (n : Int) - 5 - (zi (n : Int) - 5) / 6 * 6 = zi (((n - 5) % 6 : Nat) : Int) ∧ (zi (n : Int) - 5) / 6 = zi (((n - 5) / 6 : Nat) : Int) from by decide +kernel) n h2 h
theorem zne0 {p : Nat} (h : p ≤ 1000) : zi (p : Int) ≠ 0 ↔ p ≠ 0 := by rw [ne_eq, show (0 : Int32) = zi (0 : Nat) from rfl, zeq_n (by omega) (by omega)]
theorem C_isDigit {Ln : Nat} {I A : Nat → Nat → Int32} {v : Int32} {lo hi : Nat} {Q : Int32 → Prop} (h1 : lo ≤ 9) (h2 : hi ≤ 9) (hy : dg v lo hi = true → Q 1) (hno : dg v lo hi = false → Q 0) : W_X5_isDigit Ln I A v (zi lo) (zi hi) Q := by
  unfold W_X5_isDigit
  rw [show (48 : Int32) + zi lo = zi ((48 + lo : Nat) : Int) from by rw [zq48, zi_add]; rfl, show (48 : Int32) + zi hi = zi ((48 + hi : Nat) : Int) from by rw [zq48, zi_add]; rfl, zvlt (by omega), zgt_v (by omega)]
  unfold dg at hy hno
  refine ⟨fun c => hno (decide_eq_false (by omega)), fun c => ⟨fun c2 => hno (decide_eq_false (by omega)), fun c2 => hy (decide_eq_true (by omega))⟩⟩
theorem C_part {Ln : Nat} {I A : Nat → Nat → Int32} {r : Nat} {v : Int32} {Q : Int32 → Prop} (hr : r < 6) (hy : zmp r v = true → Q 1) (hno : zmp r v = false → Q 0) : W_X5_mayStandInPart Ln I A (zi r) v Q := by
  unfold W_X5_mayStandInPart
  rw [zi_toInt (by omega) (by omega)]
  unfold zmp at hy hno
  refine ⟨fun c => ?_, fun c => ?_, fun c => ?_, fun c => ?_, fun c => ?_, fun c0 c1 c2 c3 c4 => ?_⟩
  · rw [if_pos (by omega)] at hy hno
    exact ⟨fun c2 => hno (decide_eq_false c2), fun c2 => hy (decide_eq_true (Decidable.not_not.mp c2))⟩
  · rw [if_neg (by omega), if_pos (by omega)] at hy hno
    exact ⟨fun c2 => hy (decide_eq_true (Or.inl c2)), fun c2 => ⟨fun c3 => hy (decide_eq_true (Or.inr (Or.inl c3))), fun c3 => ⟨fun c4 => hno (decide_eq_false (by rintro (e | e | e); exact c2 e; exact c3 e; exact c4 e)), fun c4 => hy (decide_eq_true (Or.inr (Or.inr (Decidable.not_not.mp c4))))⟩⟩⟩
  · rw [if_neg (by omega), if_neg (by omega), if_pos (by omega)] at hy hno
    exact C_isDigit (lo := 0) (hi := 3) (by decide) (by decide) (fun q => ⟨Or.inr rfl, hy q⟩) (fun q => ⟨Or.inl rfl, hno q⟩)
  · rw [if_neg (by omega), if_neg (by omega), if_neg (by omega), if_pos (by omega)] at hy hno
    exact C_isDigit (lo := 1) (hi := 9) (by decide) (by decide) (fun q => ⟨Or.inr rfl, hy q⟩) (fun q => ⟨Or.inl rfl, hno q⟩)
  · rw [if_neg (by omega), if_neg (by omega), if_neg (by omega), if_neg (by omega), if_pos (by omega)] at hy hno
    exact C_isDigit (lo := 0) (hi := 2) (by decide) (by decide) (fun q => ⟨Or.inr rfl, hy q⟩) (fun q => ⟨Or.inl rfl, hno q⟩)
  · rw [if_neg (by omega), if_neg (by omega), if_neg (by omega), if_neg (by omega), if_neg (by omega)] at hy hno
    exact C_isDigit (lo := 0) (hi := 9) (by decide) (by decide) (fun q => ⟨Or.inr rfl, hy q⟩) (fun q => ⟨Or.inl rfl, hno q⟩)
theorem C_head {Ln : Nat} {I A : Nat → Nat → Int32} {p : Nat} {cd : Nat → Int32} {ahead : Int32} {Q : Int32 → Prop} (hp : p < 5) (ha : p = 3 → ahead = cd 2) (hy : zms cd p = true → Q 1) (hno : zms cd p = false → Q 0) : W_X5_mayStandInHead Ln I A (zi p) (cd p) ahead Q := by
  unfold W_X5_mayStandInHead J_X5_mayStandInHead_70 J_X5_mayStandInHead_64_s2
  rw [zi_toInt (by omega) (by omega)]
  unfold zms at hy hno
  rw [if_pos hp] at hy hno
  refine ⟨fun c => ?_, fun c => ?_, fun c => ?_, fun c => ⟨fun c2 => ?_, fun c2 => ?_⟩, fun c0 c1 c2 c3 => ?_⟩
  · have e : p = 0 := by omega
    subst e
    rw [if_pos rfl] at hy hno
    exact ⟨fun c2 => hno (decide_eq_false c2), fun c2 => hy (decide_eq_true (Decidable.not_not.mp c2))⟩
  · rw [if_neg (by omega), if_neg (by omega), if_neg (by omega)] at hy hno
    exact C_isDigit (lo := 1) (hi := 4) (by decide) (by decide) (fun q => ⟨Or.inr rfl, hy q⟩) (fun q => ⟨Or.inl rfl, hno q⟩)
  · have e : p = 2 := by omega
    subst e
    rw [if_neg (by decide), if_pos rfl] at hy hno
    exact C_isDigit (lo := 0) (hi := 9) (by decide) (by decide) (fun q => ⟨Or.inr rfl, hy q⟩) (fun q => ⟨Or.inl rfl, hno q⟩)
  · have e : p = 3 := by omega
    rw [ha e] at c2
    subst e
    rw [if_neg (by decide), if_neg (by decide), if_pos rfl, if_neg c2] at hy hno
    exact C_isDigit (lo := 0) (hi := 9) (by decide) (by decide) (fun q => ⟨Or.inr rfl, hy q⟩) (fun q => ⟨Or.inl rfl, hno q⟩)
  · have e : p = 3 := by omega
    rw [ha e] at c2
    subst e
    rw [if_neg (by decide), if_neg (by decide), if_pos rfl, if_pos (Decidable.not_not.mp c2)] at hy hno
    exact C_isDigit (lo := 1) (hi := 9) (by decide) (by decide) (fun q => ⟨Or.inr rfl, hy q⟩) (fun q => ⟨Or.inl rfl, hno q⟩)
  · rw [if_neg (by omega), if_neg (by omega), if_neg (by omega)] at hy hno
    exact C_isDigit (lo := 1) (hi := 4) (by decide) (by decide) (fun q => ⟨Or.inr rfl, hy q⟩) (fun q => ⟨Or.inl rfl, hno q⟩)
theorem C_mayStand {Ln : Nat} {I A : Nat → Nat → Int32} {p : Nat} {cd : Nat → Int32} {ahead : Int32} {Q : Int32 → Prop} (hp : p ≤ 60) (ha : p = 3 → ahead = cd 2) (hy : zms cd p = true → Q 1) (hno : zms cd p = false → Q 0) : W_X5_mayStand Ln I A (zi p) (cd p) ahead Q := by
  unfold W_X5_mayStand
  rw [show (5 : Int32) = zi (5 : Nat) from rfl, show (41 : Int32) = zi (41 : Nat) from rfl, zle_n (by omega) (by omega), zle_n (by omega) (by omega)]
  refine ⟨fun c => ⟨fun c2 => hno ?_, fun c2 => ?_⟩, fun c => C_head (by omega) ha (fun q => ⟨Or.inr rfl, hy q⟩) (fun q => ⟨Or.inl rfl, hno q⟩)⟩
  · unfold zms; rw [if_neg (by omega), if_neg (by omega)]
  · unfold zms at hy hno
    rw [if_neg (by omega), if_pos (by omega)] at hy hno
    rw [show zi (p : Int) - zi (5 : Nat) - (zi (p : Int) - zi (5 : Nat)) / 6 * 6 = zi (((p - 5) % 6 : Nat) : Int) from (zmod6 c hp).1]
    exact C_part (Nat.mod_lt _ (by decide)) (fun q => ⟨fun c3 => absurd c3 (by decide), fun _ => hy q⟩) (fun q => ⟨fun _ => hno q, fun c3 => absurd rfl c3⟩)
theorem C_firstFault_4 {Ln : Nat} {cd : Nat → Int32} {i n : Nat} {I A : Nat → Nat → Int32} {Q : Int32 → Prop} (hi : i + n ≤ 60) (hcd : ∀ x, x < n → A 4 (i + x) = cd x) (hbad : ∀ p, zbadR cd n p → Q (zi p)) (hok : (∀ q, q < n → zms cd q = true) → 5 < n ∧ (n - 5) % 6 = 0 → Q (-1)) : W_X5_firstFault_r4 Ln I A (zi i) (zi n) Q := by
  unfold W_X5_firstFault_r4
  refine zLoop.inv (fun p v => v = zi p ∧ ∀ q, q < p → zms cd q = true) n ⟨rfl, fun q h => by omega⟩ ?_ ?_
  · rintro p v hp ⟨rfl, g⟩ K hk
    simp only [L_X5_firstFault_r4_2]
    have hJ : ∀ s0 : Int32, (p = 3 → s0 = cd 2) → J_X5_firstFault_r4_22_s1 Ln I A (zi i) (zi n) (zi p) s0 K Q := by
      intro s0 hs0
      unfold J_X5_firstFault_r4_22_s1
      rw [show zi i + zi p = zi ((i + p : Nat) : Int) from by rw [zi_add]; rfl, zi_nat' (by omega), hcd p hp, zi_succ]
      refine ⟨zin_n (by omega) (by decide), C_mayStand (by omega) hs0 (fun q => ⟨fun _ => hk _ ⟨rfl, fun q2 hq2 => ?_⟩, fun c => absurd (show (1 : Int32) ≠ 0 by decide) c⟩) (fun q => ⟨fun c => absurd rfl c, fun _ => hbad p ⟨by omega, g, fun _ => q, fun e => by omega⟩⟩)⟩
      by_cases e : q2 = p
      · rw [e]; exact q
      · exact g q2 (by omega)
    rw [zle_n (by omega) (by omega), zne0 (show p ≤ 1000 by omega)]
    refine ⟨fun c => by omega, fun _ => ⟨fun c => ?_, fun c => hJ _ (fun e => by omega)⟩⟩
    rw [show zi i + zi p - 1 = zi ((i + (p - 1) : Nat) : Int) from by rw [zq1, zi_add, zi_sub]; congr 1; omega, zi_nat' (by omega), hcd (p - 1) (by omega)]
    exact ⟨zin_n (by omega) (by decide), hJ _ (fun e => by rw [e])⟩
  · rintro v ⟨rfl, g⟩ K
    simp only [L_X5_firstFault_r4_2]
    rw [zle_n (by omega) (by omega), show zi (n : Int) ≤ 5 ↔ n ≤ 5 from zle_n (i := 5) (by omega) (by decide)]
    refine ⟨fun _ => ⟨fun c => hbad n ⟨Nat.le_refl _, g, fun h => by omega, fun _ q => by omega⟩, fun c => ?_⟩, fun c => absurd (Nat.le_refl _) c⟩
    rw [(zmod6 (by omega) (by omega)).1, ne_eq, show (0 : Int32) = zi (0 : Nat) from rfl, zeq_n (by omega) (by omega)]
    exact ⟨fun c2 => hbad n ⟨Nat.le_refl _, g, fun h => by omega, fun _ q => c2 q.2⟩, fun c2 => hok g ⟨by omega, Decidable.not_not.mp c2⟩⟩
theorem C_firstFault_6 {Ln : Nat} {cd : Nat → Int32} {i n : Nat} {I A : Nat → Nat → Int32} {Q : Int32 → Prop} (hi : i + n ≤ 60) (hcd : ∀ x, x < n → A 6 (i + x) = cd x) (hbad : ∀ p, zbadR cd n p → Q (zi p)) (hok : (∀ q, q < n → zms cd q = true) → 5 < n ∧ (n - 5) % 6 = 0 → Q (-1)) : W_X5_firstFault_r6 Ln I A (zi i) (zi n) Q := by
  unfold W_X5_firstFault_r6
  refine zLoop.inv (fun p v => v = zi p ∧ ∀ q, q < p → zms cd q = true) n ⟨rfl, fun q h => by omega⟩ ?_ ?_
  · rintro p v hp ⟨rfl, g⟩ K hk
    simp only [L_X5_firstFault_r6_2]
    have hJ : ∀ s0 : Int32, (p = 3 → s0 = cd 2) → J_X5_firstFault_r6_22_s1 Ln I A (zi i) (zi n) (zi p) s0 K Q := by
      intro s0 hs0
      unfold J_X5_firstFault_r6_22_s1
      rw [show zi i + zi p = zi ((i + p : Nat) : Int) from by rw [zi_add]; rfl, zi_nat' (by omega), hcd p hp, zi_succ]
      refine ⟨zin_n (by omega) (by decide), C_mayStand (by omega) hs0 (fun q => ⟨fun _ => hk _ ⟨rfl, fun q2 hq2 => ?_⟩, fun c => absurd (show (1 : Int32) ≠ 0 by decide) c⟩) (fun q => ⟨fun c => absurd rfl c, fun _ => hbad p ⟨by omega, g, fun _ => q, fun e => by omega⟩⟩)⟩
      by_cases e : q2 = p
      · rw [e]; exact q
      · exact g q2 (by omega)
    rw [zle_n (by omega) (by omega), zne0 (show p ≤ 1000 by omega)]
    refine ⟨fun c => by omega, fun _ => ⟨fun c => ?_, fun c => hJ _ (fun e => by omega)⟩⟩
    rw [show zi i + zi p - 1 = zi ((i + (p - 1) : Nat) : Int) from by rw [zq1, zi_add, zi_sub]; congr 1; omega, zi_nat' (by omega), hcd (p - 1) (by omega)]
    exact ⟨zin_n (by omega) (by decide), hJ _ (fun e => by rw [e])⟩
  · rintro v ⟨rfl, g⟩ K
    simp only [L_X5_firstFault_r6_2]
    rw [zle_n (by omega) (by omega), show zi (n : Int) ≤ 5 ↔ n ≤ 5 from zle_n (i := 5) (by omega) (by decide)]
    refine ⟨fun _ => ⟨fun c => hbad n ⟨Nat.le_refl _, g, fun h => by omega, fun _ q => by omega⟩, fun c => ?_⟩, fun c => absurd (Nat.le_refl _) c⟩
    rw [(zmod6 (by omega) (by omega)).1, ne_eq, show (0 : Int32) = zi (0 : Nat) from rfl, zeq_n (by omega) (by omega)]
    exact ⟨fun c2 => hbad n ⟨Nat.le_refl _, g, fun h => by omega, fun _ q => c2 q.2⟩, fun c2 => hok g ⟨by omega, Decidable.not_not.mp c2⟩⟩
theorem C_firstFault_8 {Ln : Nat} {cd : Nat → Int32} {i n : Nat} {I A : Nat → Nat → Int32} {Q : Int32 → Prop} (hi : i + n ≤ 60) (hcd : ∀ x, x < n → A 8 (i + x) = cd x) (hbad : ∀ p, zbadR cd n p → Q (zi p)) (hok : (∀ q, q < n → zms cd q = true) → 5 < n ∧ (n - 5) % 6 = 0 → Q (-1)) : W_X5_firstFault_r8 Ln I A (zi i) (zi n) Q := by
  unfold W_X5_firstFault_r8
  refine zLoop.inv (fun p v => v = zi p ∧ ∀ q, q < p → zms cd q = true) n ⟨rfl, fun q h => by omega⟩ ?_ ?_
  · rintro p v hp ⟨rfl, g⟩ K hk
    simp only [L_X5_firstFault_r8_2]
    have hJ : ∀ s0 : Int32, (p = 3 → s0 = cd 2) → J_X5_firstFault_r8_22_s1 Ln I A (zi i) (zi n) (zi p) s0 K Q := by
      intro s0 hs0
      unfold J_X5_firstFault_r8_22_s1
      rw [show zi i + zi p = zi ((i + p : Nat) : Int) from by rw [zi_add]; rfl, zi_nat' (by omega), hcd p hp, zi_succ]
      refine ⟨zin_n (by omega) (by decide), C_mayStand (by omega) hs0 (fun q => ⟨fun _ => hk _ ⟨rfl, fun q2 hq2 => ?_⟩, fun c => absurd (show (1 : Int32) ≠ 0 by decide) c⟩) (fun q => ⟨fun c => absurd rfl c, fun _ => hbad p ⟨by omega, g, fun _ => q, fun e => by omega⟩⟩)⟩
      by_cases e : q2 = p
      · rw [e]; exact q
      · exact g q2 (by omega)
    rw [zle_n (by omega) (by omega), zne0 (show p ≤ 1000 by omega)]
    refine ⟨fun c => by omega, fun _ => ⟨fun c => ?_, fun c => hJ _ (fun e => by omega)⟩⟩
    rw [show zi i + zi p - 1 = zi ((i + (p - 1) : Nat) : Int) from by rw [zq1, zi_add, zi_sub]; congr 1; omega, zi_nat' (by omega), hcd (p - 1) (by omega)]
    exact ⟨zin_n (by omega) (by decide), hJ _ (fun e => by rw [e])⟩
  · rintro v ⟨rfl, g⟩ K
    simp only [L_X5_firstFault_r8_2]
    rw [zle_n (by omega) (by omega), show zi (n : Int) ≤ 5 ↔ n ≤ 5 from zle_n (i := 5) (by omega) (by decide)]
    refine ⟨fun _ => ⟨fun c => hbad n ⟨Nat.le_refl _, g, fun h => by omega, fun _ q => by omega⟩, fun c => ?_⟩, fun c => absurd (Nat.le_refl _) c⟩
    rw [(zmod6 (by omega) (by omega)).1, ne_eq, show (0 : Int32) = zi (0 : Nat) from rfl, zeq_n (by omega) (by omega)]
    exact ⟨fun c2 => hbad n ⟨Nat.le_refl _, g, fun h => by omega, fun _ q => c2 q.2⟩, fun c2 => hok g ⟨by omega, Decidable.not_not.mp c2⟩⟩
theorem C_firstFault_10 {Ln : Nat} {cd : Nat → Int32} {i n : Nat} {I A : Nat → Nat → Int32} {Q : Int32 → Prop} (hi : i + n ≤ 60) (hcd : ∀ x, x < n → A 10 (i + x) = cd x) (hbad : ∀ p, zbadR cd n p → Q (zi p)) (hok : (∀ q, q < n → zms cd q = true) → 5 < n ∧ (n - 5) % 6 = 0 → Q (-1)) : W_X5_firstFault_r10 Ln I A (zi i) (zi n) Q := by
  unfold W_X5_firstFault_r10
  refine zLoop.inv (fun p v => v = zi p ∧ ∀ q, q < p → zms cd q = true) n ⟨rfl, fun q h => by omega⟩ ?_ ?_
  · rintro p v hp ⟨rfl, g⟩ K hk
    simp only [L_X5_firstFault_r10_2]
    have hJ : ∀ s0 : Int32, (p = 3 → s0 = cd 2) → J_X5_firstFault_r10_22_s1 Ln I A (zi i) (zi n) (zi p) s0 K Q := by
      intro s0 hs0
      unfold J_X5_firstFault_r10_22_s1
      rw [show zi i + zi p = zi ((i + p : Nat) : Int) from by rw [zi_add]; rfl, zi_nat' (by omega), hcd p hp, zi_succ]
      refine ⟨zin_n (by omega) (by decide), C_mayStand (by omega) hs0 (fun q => ⟨fun _ => hk _ ⟨rfl, fun q2 hq2 => ?_⟩, fun c => absurd (show (1 : Int32) ≠ 0 by decide) c⟩) (fun q => ⟨fun c => absurd rfl c, fun _ => hbad p ⟨by omega, g, fun _ => q, fun e => by omega⟩⟩)⟩
      by_cases e : q2 = p
      · rw [e]; exact q
      · exact g q2 (by omega)
    rw [zle_n (by omega) (by omega), zne0 (show p ≤ 1000 by omega)]
    refine ⟨fun c => by omega, fun _ => ⟨fun c => ?_, fun c => hJ _ (fun e => by omega)⟩⟩
    rw [show zi i + zi p - 1 = zi ((i + (p - 1) : Nat) : Int) from by rw [zq1, zi_add, zi_sub]; congr 1; omega, zi_nat' (by omega), hcd (p - 1) (by omega)]
    exact ⟨zin_n (by omega) (by decide), hJ _ (fun e => by rw [e])⟩
  · rintro v ⟨rfl, g⟩ K
    simp only [L_X5_firstFault_r10_2]
    rw [zle_n (by omega) (by omega), show zi (n : Int) ≤ 5 ↔ n ≤ 5 from zle_n (i := 5) (by omega) (by decide)]
    refine ⟨fun _ => ⟨fun c => hbad n ⟨Nat.le_refl _, g, fun h => by omega, fun _ q => by omega⟩, fun c => ?_⟩, fun c => absurd (Nat.le_refl _) c⟩
    rw [(zmod6 (by omega) (by omega)).1, ne_eq, show (0 : Int32) = zi (0 : Nat) from rfl, zeq_n (by omega) (by omega)]
    exact ⟨fun c2 => hbad n ⟨Nat.le_refl _, g, fun h => by omega, fun _ q => c2 q.2⟩, fun c2 => hok g ⟨by omega, Decidable.not_not.mp c2⟩⟩
/-! the reference reads -/
def FrR (I I' : Nat → Nat → Int32) : Prop := (∀ o, o ≠ 44 → I' o = I o) ∧ ∀ k, (k < 11 ∨ 15 < k) → I' 44 k = I 44 k
theorem FrR.refl (I : Nat → Nat → Int32) : FrR I I := ⟨fun _ _ => rfl, fun _ _ => rfl⟩
theorem FrR.z {I I' : Nat → Nat → Int32} {k : Nat} {v : Int32} (h : FrR I I') (hk : 11 ≤ k ∧ k ≤ 15) : FrR I (zp I' 44 k v) := ⟨fun o ho => by rw [zp_ne ho]; exact h.1 o ho, fun j hj => by rw [zp_at, if_neg (by omega)]; exact h.2 j hj⟩
theorem K_codeAt {Ln : Nat} {cd : Nat → Int32} {b n p : Nat} {I A : Nat → Nat → Int32} {Q : Int32 → Prop} (hb : b + n ≤ 240) (hcd : ∀ x, x < n → A 67 (b + x) = cd x) (h11 : I 44 11 = zi p) (hp : p ≤ n) (hy : p < n → Q (cd p)) (hno : p = n → Q (-9)) : W_X8_codeAt_r44 Ln I A (zi b) (zi n) Q := by
  unfold W_X8_codeAt_r44
  rw [h11, zle_n (by omega) (by omega), show zi (b : Int) + zi p = zi ((b + p : Nat) : Int) from by rw [zi_add]; rfl, zi_nat' (by omega)]
  refine ⟨fun c => hno (by omega), fun c => ⟨zin_n (by omega) (by decide), ?_⟩⟩
  rw [hcd p (by omega)]; exact hy (by omega)
theorem K_figure {Ln : Nat} {cd : Nat → Int32} {b n p lo hi : Nat} {I A : Nat → Nat → Int32} {Q : Int32 → (Nat → Nat → Int32) → Prop} (hh : hi ≤ 9) (hl : lo ≤ 9) (hb : b + n ≤ 240) (hcd : ∀ x, x < n → A 67 (b + x) = cd x) (h11 : I 44 11 = zi p) (hp : p ≤ n) (hy : p < n → dg (cd p) lo hi = true → Q (zi (num (cd p))) (zp I 44 11 (zi ((p + 1 : Nat) : Int)))) (hno : (p < n → dg (cd p) lo hi = false) → Q (-9) (zp I 44 11 (zi p))) : W_X8_figure_r44 Ln I A (zi b) (zi n) (zi lo) (zi hi) Q := by
  unfold W_X8_figure_r44 J_X8_figure_r44_39_s3
  rw [h11]
  have e0 : zi (p : Int) + 0 = zi p := by rw [zq0, zi_add, Int.add_zero]
  refine K_codeAt hb hcd h11 hp (fun c => ?_) (fun c => ?_)
  · by_cases h : dg (cd p) lo hi = true
    · have h2 := (dg_in hh).mpr h
      refine K_in_y (by rw [Int32.toInt_toInt64, zi_toInt (by omega) (by omega)]; exact h2.1) (by rw [Int32.toInt_toInt64, zi_toInt (by omega) (by omega)]; exact h2.2) ⟨fun c2 => absurd c2 (by decide), fun _ => ⟨fun c2 => absurd c2 (by decide), fun _ I4 e4 => ?_⟩⟩
      rw [e4, zi_succ, (dg_num h).1]; exact hy c h
    · refine K_in_n (by rw [Int32.toInt_toInt64, Int32.toInt_toInt64, zi_toInt (by omega) (by omega), zi_toInt (by omega) (by omega)]; exact fun q => h ((dg_in hh).mp q)) ⟨fun _ => ⟨fun _ I3 e3 => ?_, fun c2 => absurd rfl c2⟩, fun c2 => absurd rfl c2⟩
      rw [e3, e0]; exact hno (fun _ => Bool.eq_false_iff.mpr h)
  · refine K_in_n (by rw [Int32.toInt_toInt64, Int32.toInt_toInt64, zi_toInt (by omega) (by omega), zi_toInt (by omega) (by omega), show ((-9 : Int32) - 48).toInt = -57 from by decide]; omega) ⟨fun _ => ⟨fun _ I3 e3 => ?_, fun c2 => absurd rfl c2⟩, fun c2 => absurd rfl c2⟩
    rw [e3, e0]; exact hno (fun q => by omega)
theorem zms_part {cd : Nat → Int32} {m r : Nat} (hm : m < 6) (hr : r < 6) : zms cd (5 + 6 * m + r) = zmp r (cd (5 + 6 * m + r)) := by
  unfold zms
  rw [if_neg (by omega), if_pos (by omega), show (5 + 6 * m + r - 5) % 6 = r by omega]
theorem zmp_0 {v : Int32} : zmp 0 v = decide (v = 59) := rfl
theorem zmp_1 {v : Int32} : zmp 1 v = decide (v = 115 ∨ v = 100 ∨ v = 108) := rfl
theorem zmp_2 {v : Int32} : zmp 2 v = dg v 0 3 := rfl
theorem zmp_3 {v : Int32} : zmp 3 v = dg v 1 9 := rfl
theorem zmp_4 {v : Int32} : zmp 4 v = dg v 0 2 := rfl
theorem zmp_5 {v : Int32} : zmp 5 v = dg v 0 9 := rfl
theorem ok_up {cd : Nat → Int32} {p : Nat} (h : ∀ q, q < p → zms cd q = true) (h2 : zms cd p = true) : ∀ q, q < p + 1 → zms cd q = true := fun q hq => by
  by_cases e : q = p
  · rw [e]; exact h2
  · exact h q (by omega)
def knd (v : Int32) : Nat := if v = 115 then 0 else if v = 100 then 1 else 2
/-- what is read of shade s -/
def RDs (cd : Nat → Int32) (A : Nat → Nat → Int32) (s : Nat) : Prop := A 50 s = zi (knd (cd (5 + 6 * s + 1))) ∧ A 51 s = zi (num (cd (5 + 6 * s + 2))) ∧ A 52 s = zi (num (cd (5 + 6 * s + 3))) ∧ A 53 s = zi ((10 * num (cd (5 + 6 * s + 4)) + num (cd (5 + 6 * s + 5)) : Nat) : Int)
theorem K_readsShade {Ln : Nat} {cd : Nat → Int32} {b n m : Nat} {I0 I A0 A : Nat → Nat → Int32} {Q : Int32 → (Nat → Nat → Int32) → (Nat → Nat → Int32) → Prop} (hb : b + n ≤ 240) (hn : n ≤ 60) (hcd : ∀ x, x < n → A 67 (b + x) = cd x) (hm : m ≤ 6) (h15 : I 44 15 = zi m) (h11 : I 44 11 = zi ((5 + 6 * m : Nat) : Int)) (hp : 5 + 6 * m ≤ n) (hpn : m = 0 ∨ 5 + 6 * m < n) (hall : ∀ q, q < 5 + 6 * m → zms cd q = true) (hf : FrR I0 I)
    (hbad : ∀ (p : Nat) I', FrR I0 I' → I' 44 11 = zi p → zbadR cd n p → Q 0 I' A)
    (hok : ∀ I', FrR I0 I' → (∀ k, (k = 12 ∨ k = 13 ∨ k = 14) → I' 44 k = I 44 k) → I' 44 11 = zi ((5 + 6 * (m + 1) : Nat) : Int) → I' 44 15 = zi ((m + 1 : Nat) : Int) → (∀ q, q < 5 + 6 * (m + 1) → zms cd q = true) → 5 + 6 * (m + 1) ≤ n → m < 6 → Q 1 I' (zw (zw (zw (zw A 50 m (zi (knd (cd (5 + 6 * m + 1))))) 51 m (zi (num (cd (5 + 6 * m + 2))))) 52 m (zi (num (cd (5 + 6 * m + 3))))) 53 m (zi ((10 * num (cd (5 + 6 * m + 4)) + num (cd (5 + 6 * m + 5)) : Nat) : Int)))) : W_X8_readsShade_r44 Ln I A (zi b) (zi n) Q := by
  unfold W_X8_readsShade_r44
  rw [h15, show (6 : Int32) = zi (6 : Nat) from rfl, zeq_n (by omega) (by omega)]
  refine ⟨fun c => hbad _ I hf h11 ⟨by omega, hall, fun _ => ?_, fun e => by omega⟩, fun c => ?_⟩
  · unfold zms; rw [if_neg (by omega), if_neg (by omega)]
  have hm6 : m < 6 := by omega
  have z0 := zms_part (cd := cd) hm6 (show 0 < 6 by decide)
  have z1 := zms_part (cd := cd) hm6 (show 1 < 6 by decide)
  have z2 := zms_part (cd := cd) hm6 (show 2 < 6 by decide)
  have z3 := zms_part (cd := cd) hm6 (show 3 < 6 by decide)
  have z4 := zms_part (cd := cd) hm6 (show 4 < 6 by decide)
  have z5 := zms_part (cd := cd) hm6 (show 5 < 6 by decide)
  rw [zmp_0] at z0
  rw [zmp_1] at z1
  rw [zmp_2] at z2
  rw [zmp_3] at z3
  rw [zmp_4] at z4
  rw [zmp_5] at z5
  refine K_codeAt hb hcd h11 hp (fun h0 => ⟨fun c59 => ?_, fun c59 => hbad _ I hf h11 ⟨by omega, hall, fun _ => ?_, fun e => by omega⟩⟩) (fun h0 => ⟨fun c59 => absurd c59 (by decide), fun _ => hbad _ I hf h11 ⟨by omega, hall, fun q => by omega, fun _ q => by omega⟩⟩)
  rotate_left
  · rw [show 5 + 6 * m = 5 + 6 * m + 0 from rfl, z0]; exact decide_eq_false c59
  have ok0 := ok_up hall (show zms cd (5 + 6 * m) = true from by rw [show 5 + 6 * m = 5 + 6 * m + 0 from rfl, z0]; exact decide_eq_true c59)
  rintro I2 rfl
  rw [h11, zi_succ]
  have g11 : zp I 44 11 (zi ((5 + 6 * m + 1 : Nat) : Int)) 44 11 = zi ((5 + 6 * m + 1 : Nat) : Int) := zp_eq
  have hf2 : FrR I0 (zp I 44 11 (zi ((5 + 6 * m + 1 : Nat) : Int))) := hf.z (by decide)
  refine K_codeAt hb hcd g11 (by omega) (fun h1 => ?_) (fun h1 => ⟨fun q => absurd q (by decide), fun _ => ⟨fun q => absurd q (by decide), fun _ => ⟨fun q => absurd q (by decide), fun _ => hbad _ _ hf2 g11 ⟨by omega, ok0, fun q => by omega, fun _ q => by omega⟩⟩⟩⟩)
  -- the rest, behind a letter
  have h59 : (cd (5 + 6 * m + 1) = 115 ∨ cd (5 + 6 * m + 1) = 100 ∨ cd (5 + 6 * m + 1) = 108) → J_X8_readsShade_r44_59 Ln (zp I 44 11 (zi ((5 + 6 * m + 1 : Nat) : Int))) A (zi b) (zi n) (cd (5 + 6 * m + 1)) Q := by
    intro hlet
    have ok1 := ok_up ok0 (z1.trans (decide_eq_true hlet))
    unfold J_X8_readsShade_r44_59
    rw [g11, zi_succ]
    generalize hI2 : zp (zp I 44 11 (zi ((5 + 6 * m + 1 : Nat) : Int))) 44 11 (zi ((5 + 6 * m + 1 + 1 : Nat) : Int)) = I2
    have k11 : I2 44 11 = zi ((5 + 6 * m + 1 + 1 : Nat) : Int) := by rw [← hI2, zp_eq]
    have kf : FrR I0 I2 := by rw [← hI2]; exact hf2.z (by decide)
    have ko : ∀ k, k ≠ 11 → I2 44 k = I 44 k := fun k hk => by rw [← hI2, zp_at, if_neg hk, zp_at, if_neg hk]
    -- failing on
    have f139 : ∀ (J : Nat → Nat → Int32) (p : Nat) (v4 v5 v6 : Int32), FrR I0 J → J 44 11 = zi p → zbadR cd n p → J_X8_readsShade_r44_139_s1 Ln J A (zi b) (zi n) (cd (5 + 6 * m + 1)) v4 v5 v6 (-9) Q := by
      intro J p v4 v5 v6 h1 h2 h3
      unfold J_X8_readsShade_r44_139_s1
      exact ⟨fun q => absurd q (by decide), fun _ => hbad p J h1 h2 h3⟩
    have f118 : ∀ (J : Nat → Nat → Int32) (p : Nat) (v4 v5 : Int32), FrR I0 J → J 44 11 = zi p → zbadR cd n p → J_X8_readsShade_r44_118_s1 Ln J A (zi b) (zi n) (cd (5 + 6 * m + 1)) v4 v5 (-9) Q := by
      intro J p v4 v5 h1 h2 h3
      unfold J_X8_readsShade_r44_118_s1
      exact ⟨fun q => absurd q (by decide), fun _ => f139 J p _ _ _ h1 h2 h3⟩
    have f98 : ∀ (J : Nat → Nat → Int32) (p : Nat) (v4 : Int32), FrR I0 J → J 44 11 = zi p → zbadR cd n p → J_X8_readsShade_r44_98_s1 Ln J A (zi b) (zi n) (cd (5 + 6 * m + 1)) v4 (-9) Q := by
      intro J p v4 h1 h2 h3
      unfold J_X8_readsShade_r44_98_s1
      exact ⟨fun q => absurd q (by decide), fun _ => f118 J p _ _ h1 h2 h3⟩
    have hge : ∀ {v : Int32} {lo hi : Nat}, dg v lo hi = true → hi ≤ 9 → 0 ≤ zi (num v : Int) := fun h h2 => by
      have := (dg_num h).2.2
      rw [zq0, zi_le (by omega) (by omega) (by omega) (by omega)]; omega
    refine K_figure (lo := 0) (hi := 3) (by decide) (by decide) hb hcd k11 (by omega) (fun h2 d2 => ⟨fun _ => ?_, fun q => absurd (hge d2 (by decide)) q⟩) (fun h2 => ⟨fun q => absurd q (by decide), fun _ => f98 _ _ _ (kf.z (by decide)) zp_eq ⟨by omega, ok1, fun q => z2.trans (h2 q), fun _ q => by omega⟩⟩)
    have ok2 := ok_up ok1 (z2.trans d2)
    generalize hI3 : zp I2 44 11 (zi ((5 + 6 * m + 1 + 1 + 1 : Nat) : Int)) = I3
    have l11 : I3 44 11 = zi ((5 + 6 * m + 1 + 1 + 1 : Nat) : Int) := by rw [← hI3, zp_eq]
    have lf : FrR I0 I3 := by rw [← hI3]; exact kf.z (by decide)
    have lo : ∀ k, k ≠ 11 → I3 44 k = I 44 k := fun k hk => by rw [← hI3, zp_at, if_neg hk]; exact ko k hk
    refine K_figure (lo := 1) (hi := 9) (by decide) (by decide) hb hcd l11 (by omega) (fun h3 d3 => ?_) (fun h3 => f98 _ _ _ (lf.z (by decide)) zp_eq ⟨by omega, ok2, fun q => z3.trans (h3 q), fun _ q => by omega⟩)
    have ok3 := ok_up ok2 (z3.trans d3)
    unfold J_X8_readsShade_r44_98_s1
    generalize hI4 : zp I3 44 11 (zi ((5 + 6 * m + 1 + 1 + 1 + 1 : Nat) : Int)) = I4
    have m11 : I4 44 11 = zi ((5 + 6 * m + 1 + 1 + 1 + 1 : Nat) : Int) := by rw [← hI4, zp_eq]
    have mf : FrR I0 I4 := by rw [← hI4]; exact lf.z (by decide)
    have mo : ∀ k, k ≠ 11 → I4 44 k = I 44 k := fun k hk => by rw [← hI4, zp_at, if_neg hk]; exact lo k hk
    refine ⟨fun _ => ?_, fun q => absurd (hge d3 (by decide)) q⟩
    refine K_figure (lo := 0) (hi := 2) (by decide) (by decide) hb hcd m11 (by omega) (fun h4 d4 => ?_) (fun h4 => f118 _ _ _ _ (mf.z (by decide)) zp_eq ⟨by omega, ok3, fun q => z4.trans (h4 q), fun _ q => by omega⟩)
    have ok4 := ok_up ok3 (z4.trans d4)
    unfold J_X8_readsShade_r44_118_s1
    generalize hI5 : zp I4 44 11 (zi ((5 + 6 * m + 1 + 1 + 1 + 1 + 1 : Nat) : Int)) = I5
    have n11 : I5 44 11 = zi ((5 + 6 * m + 1 + 1 + 1 + 1 + 1 : Nat) : Int) := by rw [← hI5, zp_eq]
    have nf : FrR I0 I5 := by rw [← hI5]; exact mf.z (by decide)
    have no : ∀ k, k ≠ 11 → I5 44 k = I 44 k := fun k hk => by rw [← hI5, zp_at, if_neg hk]; exact mo k hk
    refine ⟨fun _ => ?_, fun q => absurd (hge d4 (by decide)) q⟩
    refine K_figure (lo := 0) (hi := 9) (by decide) (by decide) hb hcd n11 (by omega) (fun h5 d5 => ?_) (fun h5 => f139 _ _ _ _ _ (nf.z (by decide)) zp_eq ⟨by omega, ok4, fun q => z5.trans (h5 q), fun _ q => by omega⟩)
    have ok5 := ok_up ok4 (z5.trans d5)
    unfold J_X8_readsShade_r44_139_s1
    refine ⟨fun _ => ?_, fun q => absurd (hge d5 (by decide)) q⟩
    have b4 := (dg_num d4).2.2
    have b5 := (dg_num d5).2.2
    have hend : ∀ v : Int32, v = zi (knd (cd (5 + 6 * m + 1))) → (zin (zp I5 44 11 (zi ((5 + 6 * m + 1 + 1 + 1 + 1 + 1 + 1 : Nat) : Int)) 44 15) 6 = true) ∧ (zin (zp I5 44 11 (zi ((5 + 6 * m + 1 + 1 + 1 + 1 + 1 + 1 : Nat) : Int)) 44 15) 6 = true) ∧ (zin (zp I5 44 11 (zi ((5 + 6 * m + 1 + 1 + 1 + 1 + 1 + 1 : Nat) : Int)) 44 15) 6 = true) ∧ (zin (zp I5 44 11 (zi ((5 + 6 * m + 1 + 1 + 1 + 1 + 1 + 1 : Nat) : Int)) 44 15) 6 = true) ∧ Q 1 (zp (zp I5 44 11 (zi ((5 + 6 * m + 1 + 1 + 1 + 1 + 1 + 1 : Nat) : Int))) 44 15 ((zp I5 44 11 (zi ((5 + 6 * m + 1 + 1 + 1 + 1 + 1 + 1 : Nat) : Int)) 44 15) + 1)) (zw (zw (zw (zw A 50 (((zp I5 44 11 (zi ((5 + 6 * m + 1 + 1 + 1 + 1 + 1 + 1 : Nat) : Int)) 44 15)).toNatClampNeg) v) 51 ((zp I5 44 11 (zi ((5 + 6 * m + 1 + 1 + 1 + 1 + 1 + 1 : Nat) : Int)) 44 15).toNatClampNeg) (zi (num (cd (5 + 6 * m + 1 + 1))))) 52 ((zp I5 44 11 (zi ((5 + 6 * m + 1 + 1 + 1 + 1 + 1 + 1 : Nat) : Int)) 44 15).toNatClampNeg) (zi (num (cd (5 + 6 * m + 1 + 1 + 1))))) 53 ((zp I5 44 11 (zi ((5 + 6 * m + 1 + 1 + 1 + 1 + 1 + 1 : Nat) : Int)) 44 15).toNatClampNeg) ((10 * zi (num (cd (5 + 6 * m + 1 + 1 + 1 + 1)))) + zi (num (cd (5 + 6 * m + 1 + 1 + 1 + 1 + 1))))) := by
      rintro v rfl
      have e15 : zp I5 44 11 (zi ((5 + 6 * m + 1 + 1 + 1 + 1 + 1 + 1 : Nat) : Int)) 44 15 = zi m := by rw [zp_at, if_neg (by decide), no 15 (by decide)]; exact h15
      have hz := zin_n (L := 6) (s := m) hm6 (by decide)
      rw [e15, zi_nat' (by omega), zi_succ, zq10, zi_mul, zi_add]
      refine ⟨hz, hz, hz, hz, hok _ ((nf.z (by decide)).z (by decide)) (fun k hk => ?_) ?_ zp_eq (fun q hq => ok5 q (by omega)) (by omega) hm6⟩
      · rw [zp_at, if_neg (by omega), zp_at, if_neg (by omega)]; exact no k (by omega)
      · rw [zp_at, if_neg (by decide), zp_eq]; congr 1
    refine ⟨fun c1 => ⟨fun c2 => hend 2 ?_, fun c2 => hend 1 ?_⟩, fun c1 => hend 0 ?_⟩
    · unfold knd; rw [if_neg c1, if_neg c2]; rfl
    · unfold knd; rw [if_neg c1, if_pos (Decidable.not_not.mp c2)]; rfl
    · unfold knd; rw [if_pos (Decidable.not_not.mp c1)]; rfl
  refine ⟨fun q => h59 (Or.inl q), fun q => ⟨fun q2 => h59 (Or.inr (Or.inl q2)), fun q2 => ⟨fun q3 => h59 (Or.inr (Or.inr q3)), fun q3 => hbad _ _ hf2 g11 ⟨by omega, ok0, fun _ => z1.trans (decide_eq_false (by rintro (e | e | e); exact q e; exact q2 e; exact q3 e)), fun _ q4 => by omega⟩⟩⟩⟩
