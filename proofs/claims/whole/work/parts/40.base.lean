/-! small numbers and small sets as ints of the machine -/
def zi (x : Int) : Int32 := Int32.ofInt x
theorem zi_toInt {x : Int} (h1 : -2147483648 ≤ x) (h2 : x < 2147483648) : (zi x).toInt = x := Int32.toInt_ofInt_of_le (by omega) (by omega)
theorem zi_le {x y : Int} (h1 : -2147483648 ≤ x) (h2 : x < 2147483648) (h3 : -2147483648 ≤ y) (h4 : y < 2147483648) : zi x ≤ zi y ↔ x ≤ y := by
  rw [Int32.le_iff_toInt_le, zi_toInt h1 h2, zi_toInt h3 h4]
theorem zi_lt {x y : Int} (h1 : -2147483648 ≤ x) (h2 : x < 2147483648) (h3 : -2147483648 ≤ y) (h4 : y < 2147483648) : zi x < zi y ↔ x < y := by
  rw [Int32.lt_iff_toInt_lt, zi_toInt h1 h2, zi_toInt h3 h4]
theorem zi_inj {x y : Int} (h1 : -2147483648 ≤ x) (h2 : x < 2147483648) (h3 : -2147483648 ≤ y) (h4 : y < 2147483648) : zi x = zi y ↔ x = y := by
  constructor
  · intro h
    have e := congrArg Int32.toInt h
    rw [zi_toInt h1 h2, zi_toInt h3 h4] at e
    exact e
  · intro h; rw [h]
theorem zi_add (x y : Int) : zi x + zi y = zi (x + y) := by simp only [zi, ← Int32.ofInt_add]
theorem zi_sub (x y : Int) : zi x - zi y = zi (x - y) := by simp only [zi, ← Int32.ofInt_sub]
theorem zi_mul (x y : Int) : zi x * zi y = zi (x * y) := by simp only [zi, ← Int32.ofInt_mul]
theorem zi_neg (x : Int) : - zi x = zi (-x) := by simp only [zi, ← Int32.ofInt_neg]
theorem zi_nat {x : Int} (h1 : -2147483648 ≤ x) (h2 : x < 2147483648) : (zi x).toNatClampNeg = x.toNat := by
  show (zi x).toInt.toNat = x.toNat
  rw [zi_toInt h1 h2]
theorem zi_nat' {s : Nat} (h : s < 2147483648) : (zi (s : Int)).toNatClampNeg = s := by
  rw [zi_nat (by omega) (by omega)]; rfl
theorem zi_succ (i : Nat) : zi (i : Int) + 1 = zi ((i + 1 : Nat) : Int) := by
  rw [show (1 : Int32) = zi 1 from rfl, zi_add]; rfl
theorem zi_self (x : Int32) : zi x.toInt = x := Int32.ofInt_toInt x
theorem zq0 : (0 : Int32) = zi 0 := rfl
theorem zq1 : (1 : Int32) = zi 1 := rfl
theorem zq2 : (2 : Int32) = zi 2 := rfl
theorem zq3 : (3 : Int32) = zi 3 := rfl
theorem zq4 : (4 : Int32) = zi 4 := rfl
theorem zq5 : (5 : Int32) = zi 5 := rfl
theorem zq6 : (6 : Int32) = zi 6 := rfl
theorem zq7 : (7 : Int32) = zi 7 := rfl
theorem zq8 : (8 : Int32) = zi 8 := rfl
theorem zq9 : (9 : Int32) = zi 9 := rfl
theorem zq10 : (10 : Int32) = zi 10 := rfl
theorem zq20 : (20 : Int32) = zi 20 := rfl
theorem zq31 : (31 : Int32) = zi 31 := rfl
theorem zq48 : (48 : Int32) = zi 48 := rfl
theorem zq59 : (59 : Int32) = zi 59 := rfl
theorem zq60 : (60 : Int32) = zi 60 := rfl
theorem zq63 : (63 : Int32) = zi 63 := rfl
theorem zq64 : (64 : Int32) = zi 64 := rfl
theorem zq99 : (99 : Int32) = zi 99 := rfl
theorem zq100 : (100 : Int32) = zi 100 := rfl
theorem zq101 : (101 : Int32) = zi 101 := rfl
theorem zq1000 : (1000 : Int32) = zi 1000 := rfl
theorem zq9999 : (9999 : Int32) = zi 9999 := rfl
theorem zqm1 : (-1 : Int32) = zi (-1) := by decide
theorem zqm9 : (-9 : Int32) = zi (-9) := by decide
theorem zqm1o : Int32.ofInt (-1) = zi (-1) := rfl
theorem zin_ok {x : Int} {L : Nat} (h0 : 0 ≤ x) (h1 : x < L) (hL : L ≤ 1000) : zin (zi x) L = true := by
  unfold zin
  rw [zi_nat (by omega) (by omega)]
  rw [Bool.and_eq_true, decide_eq_true_eq, decide_eq_true_eq]
  refine ⟨?_, by omega⟩
  rw [show (0 : Int32) = zi 0 from rfl, zi_lt (by omega) (by omega) (by omega) (by omega)]
  omega
theorem zin_n {s L : Nat} (h1 : s < L) (hL : L ≤ 1000) : zin (zi (s : Int)) L = true := zin_ok (by omega) (by omega) hL
/-! sets of six -/
def zmk (p : Nat → Bool) : Nat := (bif p 0 then 1 else 0) + (bif p 1 then 2 else 0) + (bif p 2 then 4 else 0) + (bif p 3 then 8 else 0) + (bif p 4 then 16 else 0) + (bif p 5 then 32 else 0)
def zm (p : Nat → Bool) : Int32 := zi (zmk p : Int)
def zct (p : Nat → Bool) : Nat := (bif p 0 then 1 else 0) + (bif p 1 then 1 else 0) + (bif p 2 then 1 else 0) + (bif p 3 then 1 else 0) + (bif p 4 then 1 else 0) + (bif p 5 then 1 else 0)
def zld (h : Nat → Nat) (p : Nat → Bool) : Nat := (bif p 0 then h 0 else 0) + (bif p 1 then h 1 else 0) + (bif p 2 then h 2 else 0) + (bif p 3 then h 3 else 0) + (bif p 4 then h 4 else 0) + (bif p 5 then h 5 else 0)
theorem zlt6 {s : Nat} (h : s < 6) : s = 0 ∨ s = 1 ∨ s = 2 ∨ s = 3 ∨ s = 4 ∨ s = 5 := by omega
theorem zmk_congr {p q : Nat → Bool} (h : ∀ s, s < 6 → p s = q s) : zmk p = zmk q := by
  simp only [zmk, h 0 (by decide), h 1 (by decide), h 2 (by decide), h 3 (by decide), h 4 (by decide), h 5 (by decide)]
theorem zm_congr {p q : Nat → Bool} (h : ∀ s, s < 6 → p s = q s) : zm p = zm q := by unfold zm; rw [zmk_congr h]
theorem zct_congr {p q : Nat → Bool} (h : ∀ s, s < 6 → p s = q s) : zct p = zct q := by
  simp only [zct, h 0 (by decide), h 1 (by decide), h 2 (by decide), h 3 (by decide), h 4 (by decide), h 5 (by decide)]
theorem zld_congr {g : Nat → Nat} {p q : Nat → Bool} (h : ∀ s, s < 6 → p s = q s) : zld g p = zld g q := by
  simp only [zld, h 0 (by decide), h 1 (by decide), h 2 (by decide), h 3 (by decide), h 4 (by decide), h 5 (by decide)]
theorem zmk_lt (p : Nat → Bool) : zmk p < 64 := by
  unfold zmk
  generalize p 0 = a0; generalize p 1 = a1; generalize p 2 = a2; generalize p 3 = a3; generalize p 4 = a4; generalize p 5 = a5
  revert a0 a1 a2 a3 a4 a5; decide
theorem zm_and (p q : Nat → Bool) : zm p &&& zm q = zm (fun s => p s && q s) := by
  simp only [zm, zmk]
  generalize p 0 = a0; generalize p 1 = a1; generalize p 2 = a2; generalize p 3 = a3; generalize p 4 = a4; generalize p 5 = a5
  generalize q 0 = b0; generalize q 1 = b1; generalize q 2 = b2; generalize q 3 = b3; generalize q 4 = b4; generalize q 5 = b5
  revert a0 a1 a2 a3 a4 a5 b0 b1 b2 b3 b4 b5; decide +kernel
theorem zm_or (p q : Nat → Bool) : zm p ||| zm q = zm (fun s => p s || q s) := by
  simp only [zm, zmk]
  generalize p 0 = a0; generalize p 1 = a1; generalize p 2 = a2; generalize p 3 = a3; generalize p 4 = a4; generalize p 5 = a5
  generalize q 0 = b0; generalize q 1 = b1; generalize q 2 = b2; generalize q 3 = b3; generalize q 4 = b4; generalize q 5 = b5
  revert a0 a1 a2 a3 a4 a5 b0 b1 b2 b3 b4 b5; decide +kernel
theorem zm_andnot (p q : Nat → Bool) : zm p &&& (zm q ^^^ (-1)) = zm (fun s => p s && !q s) := by
  simp only [zm, zmk]
  generalize p 0 = a0; generalize p 1 = a1; generalize p 2 = a2; generalize p 3 = a3; generalize p 4 = a4; generalize p 5 = a5
  generalize q 0 = b0; generalize q 1 = b1; generalize q 2 = b2; generalize q 3 = b3; generalize q 4 = b4; generalize q 5 = b5
  revert a0 a1 a2 a3 a4 a5 b0 b1 b2 b3 b4 b5; decide +kernel
theorem zm_bit (p : Nat → Bool) {s : Nat} (h : s < 6) : ((zm p >>> (zi (s : Int) &&& 31)) &&& 1) = bif p s then 1 else 0 := by
  rcases zlt6 h with rfl | rfl | rfl | rfl | rfl | rfl <;> simp only [zm, zmk] <;>
  (generalize p 0 = a0; generalize p 1 = a1; generalize p 2 = a2; generalize p 3 = a3; generalize p 4 = a4; generalize p 5 = a5; revert a0 a1 a2 a3 a4 a5; decide +kernel)
theorem zm_one {s : Nat} (h : s < 6) : (1 : Int32) <<< (zi (s : Int) &&& 31) = zm (fun t => t == s) := by
  rcases zlt6 h with rfl | rfl | rfl | rfl | rfl | rfl <;> decide +kernel
theorem zm_none : (0 : Int32) = zm (fun _ => false) := by decide +kernel
theorem zm_bits (p : Nat → Bool) (b : Bool) (h : zm p = 0) {s : Nat} (hs : s < 6) : p s = false := by
  have e : ∀ a0 a1 a2 a3 a4 a5 : Bool, zi (((bif a0 then 1 else 0) + (bif a1 then 2 else 0) + (bif a2 then 4 else 0) + (bif a3 then 8 else 0) + (bif a4 then 16 else 0) + (bif a5 then 32 else 0) : Nat) : Int) = 0 → a0 = false ∧ a1 = false ∧ a2 = false ∧ a3 = false ∧ a4 = false ∧ a5 = false := by decide +kernel
  obtain ⟨e0, e1, e2, e3, e4, e5⟩ := e _ _ _ _ _ _ h
  rcases zlt6 hs with rfl | rfl | rfl | rfl | rfl | rfl <;> assumption
theorem zm_eq0 (p : Nat → Bool) : zm p = 0 ↔ ∀ s, s < 6 → p s = false := by
  constructor
  · intro h s hs; exact zm_bits p true h hs
  · intro h; rw [zm_congr (q := fun _ => false) h]; exact zm_none.symm
theorem zm_le0 (p : Nat → Bool) : zm p ≤ 0 ↔ ∀ s, s < 6 → p s = false := by
  rw [← zm_eq0]
  have h1 := zmk_lt p
  unfold zm
  rw [show (0 : Int32) = zi 0 from rfl, zi_le (by omega) (by omega) (by omega) (by omega), zi_inj (by omega) (by omega) (by omega) (by omega)]
  omega
theorem zmk_tb (p : Nat → Bool) {s : Nat} (h : s < 6) : (zmk p).testBit s = p s := by
  rcases zlt6 h with rfl | rfl | rfl | rfl | rfl | rfl <;> simp only [zmk] <;>
  (generalize p 0 = a0; generalize p 1 = a1; generalize p 2 = a2; generalize p 3 = a3; generalize p 4 = a4; generalize p 5 = a5; revert a0 a1 a2 a3 a4 a5; decide +kernel)
theorem zmk_of {m : Nat} (h : m < 64) : zmk (fun s => m.testBit s) = m := (show ∀ m, m < 64 → zmk (fun s => m.testBit s) = m from by decide +kernel) m h
theorem zm_of {m : Nat} (h : m < 64) : zi (m : Int) = zm (fun s => m.testBit s) := by unfold zm; rw [zmk_of h]
theorem zm_inj {p q : Nat → Bool} (h : zm p = zm q) {s : Nat} (hs : s < 6) : p s = q s := by
  have h1 := zmk_lt p
  have h2 := zmk_lt q
  unfold zm at h
  rw [zi_inj (by omega) (by omega) (by omega) (by omega)] at h
  rw [← zmk_tb p hs, ← zmk_tb q hs, show zmk p = zmk q by omega]
theorem zm_nat (p : Nat → Bool) : (zm p).toNatClampNeg = zmk p := zi_nat' (by have := zmk_lt p; omega)
theorem zm_zin (p : Nat → Bool) : zin (zm p) 64 = true := zin_n (zmk_lt p) (by decide)
theorem zct_le (p : Nat → Bool) : zct p ≤ 6 := by
  unfold zct
  generalize p 0 = a0; generalize p 1 = a1; generalize p 2 = a2; generalize p 3 = a3; generalize p 4 = a4; generalize p 5 = a5
  revert a0 a1 a2 a3 a4 a5; decide
/-- the set with one more -/
def zadd (p : Nat → Bool) (s : Nat) : Nat → Bool := fun t => p t || t == s
def zwo (p : Nat → Bool) (s : Nat) : Nat → Bool := fun t => p t && !(t == s)
theorem zct_ad (p : Nat → Bool) {s : Nat} (hs : s < 6) (h : p s = false) : zct (zadd p s) = zct p + 1 := by
  rcases zlt6 hs with rfl | rfl | rfl | rfl | rfl | rfl <;> simp [zct, zadd, h] <;> omega
theorem zct_wo (p : Nat → Bool) {s : Nat} (hs : s < 6) (h : p s = true) : zct (zwo p s) + 1 = zct p := by
  rcases zlt6 hs with rfl | rfl | rfl | rfl | rfl | rfl <;> simp [zct, zwo, h] <;> omega
theorem zld_ad (g : Nat → Nat) (p : Nat → Bool) {s : Nat} (hs : s < 6) (h : p s = false) : zld g (zadd p s) = zld g p + g s := by
  rcases zlt6 hs with rfl | rfl | rfl | rfl | rfl | rfl <;> simp [zld, zadd, h] <;> omega
theorem zct_0 {p : Nat → Bool} : zct p = 0 ↔ ∀ s, s < 6 → p s = false := by
  constructor
  · intro h s hs
    cases hp : p s with
    | false => rfl
    | true => have := zct_wo p hs hp; omega
  · intro h; rw [zct_congr (q := fun _ => false) h]; rfl
