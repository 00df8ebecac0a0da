/-! THE ABSTRACT MACHINE: a class of states (number of the next cell, class of each cell, length, references, ints, contents), a step an instruction, and 'zex': so many steps of a method -/
abbrev zLc := List (Option Value)
/-- the next number, classes, lengths, references (0 is null), ints of objects, contents of arrays -/
abbrev zSg := Nat × (Nat → Nat) × (Nat → Nat) × (Nat → Nat → Nat) × (Nat → Nat → Int32) × (Nat → Nat → Int32)
abbrev zN (g : zSg) : Nat := g.1
abbrev zC (g : zSg) : Nat → Nat := g.2.1
abbrev zLn (g : zSg) : Nat → Nat := g.2.2.1
abbrev zF (g : zSg) : Nat → Nat → Nat := g.2.2.2.1
abbrev zI (g : zSg) : Nat → Nat → Int32 := g.2.2.2.2.1
abbrev zA (g : zSg) : Nat → Nat → Int32 := g.2.2.2.2.2
abbrev zRs := Option Value × zSg
abbrev zCf := Nat × Nat × Nat × zLc × List Value × zSg
abbrev zOut := zCf ⊕ zRs
abbrev zEn := Nat × Instr × Nat × List Nat
def zget : zLc → Nat → Option Value
  | [], _ => none
  | v :: _, 0 => v
  | _ :: t, n + 1 => zget t n
def zset : zLc → Nat → Option Value → zLc
  | [], _, _ => []
  | _ :: t, 0, v => v :: t
  | w :: t, n + 1, v => w :: zset t n v
/-- a long that ends where i begins is lost -/
def zclr (L : zLc) : Nat → zLc
  | 0 => L
  | j + 1 => match zget L j with
    | some w => if w.category = 2 then zset L j none else L
    | none => L
def zst (L : zLc) (i : Nat) (v : Value) : zLc := zset (zclr L i) i (some v)
def zal0 : List Value → zLc
  | [] => []
  | v :: t => if v.category = 2 then some v :: none :: zal0 t else some v :: zal0 t
def zpad (n : Nat) (l : zLc) : zLc := l ++ List.replicate (n - l.length) none
def zfind : List zEn → Nat → Option zEn
  | [], _ => none
  | e :: t, pc => if e.1 = pc then some e else zfind t pc
def zat (y pc : Nat) : Option zEn := zfind ((zcode.getD y []).getD (pc / 16) []) pc
def zx (ax : List Nat) (i : Nat) : Nat := ax.getD i 0
def zsgn (ax : List Nat) : Int := if zx ax 1 = 1 then - (zx ax 0 : Int) else (zx ax 0 : Int)
def zi1 {α : Type} (st : List Value) (f : Int32 → List Value → Option α) : Option α := match st with
  | .int x :: r => f x r
  | _ => none
def zi2 {α : Type} (st : List Value) (f : Int32 → Int32 → List Value → Option α) : Option α := match st with
  | .int y :: .int x :: r => f x y r
  | _ => none
def zl2 {α : Type} (st : List Value) (f : Int64 → Int64 → List Value → Option α) : Option α := match st with
  | .long y :: .long x :: r => f x y r
  | _ => none
def zr1 {α : Type} (st : List Value) (f : Nat → List Value → Option α) : Option α := match st with
  | .ref a :: r => f a r
  | _ => none
def zjmp {α : Type} (pc : Nat) (off : Int) (f : Nat → Option α) : Option α := if 0 ≤ (pc : Int) + off then f ((pc : Int) + off).toNat else none
def zcnd (c : ClassFile.Cond) (x y : Int32) : Bool := match c with
  | .eq => decide (x = y)
  | .ne => decide (x ≠ y)
  | .lt => decide (x < y)
  | .ge => decide (y ≤ x)
  | .gt => decide (y < x)
  | .le => decide (x ≤ y)
/-- the off of a switch: the first key that is met -/
def zsw (x : Int) (d : Int) : List (Int × Int) → Int
  | [] => d
  | q :: t => if x = q.1 then q.2 else zsw x d t
def zkeys (lo : Int) : List Int → List (Int × Int)
  | [] => []
  | o :: t => (lo, o) :: zkeys (lo + 1) t
def zin (i : Int32) (n : Nat) : Bool := decide (¬ i < 0) && decide (i.toNatClampNeg < n)
def zcs (r : List Value) : Nat := (r.map fun v => v.category).sum
def zstep (call : Nat → List Value → zSg → Option zRs) (al : Nat × Nat) (e : zEn) (pc k sl : Nat) (L : zLc) (st : List Value) (g : zSg) : Option zOut :=
  let ax := e.2.2.2
  let np := pc + e.2.2.1
  let go := fun (st' : List Value) => (some (.inl (np, k, sl, L, st', g)) : Option zOut)
  let gog := fun (st' : List Value) (g' : zSg) => (some (.inl (np, k, sl, L, st', g')) : Option zOut)
  let goL := fun (L' : zLc) (st' : List Value) => (some (.inl (np, k, sl, L', st', g)) : Option zOut)
  let jm := fun (off : Int) (st' : List Value) => zjmp pc off (fun t => (some (.inl (t, k, sl, L, st', g)) : Option zOut))
  let ldi := fun (i : Nat) => (match zget L i with | some (.int x) => go (.int x :: st) | _ => none : Option zOut)
  let lda := fun (i : Nat) => (match zget L i with | some (.ref x) => go (.ref x :: st) | _ => none : Option zOut)
  let ldl := fun (i : Nat) => (match zget L i with | some (.long x) => go (.long x :: st) | _ => none : Option zOut)
  let sti := fun (i : Nat) => zi1 st (fun x r => if i < L.length then goL (zst L i (.int x)) r else none)
  let sta := fun (i : Nat) => zr1 st (fun x r => if i < L.length then goL (zst L i (.ref x)) r else none)
  let cal := fun (z : Nat) (as : List Value) (r : List Value) =>
    (if k + (zal.getD z (0, 0)).1 ≤ al.1 ∧ sl + (zal.getD z (0, 0)).2 ≤ al.2 ∧ zcs r ≤ 8 then
      match call z as g with
      | some (some v, g') => some (.inl (np, k + (zal.getD z (0, 0)).1, sl + (zal.getD z (0, 0)).2, L, v :: r, g'))
      | some (none, g') => some (.inl (np, k + (zal.getD z (0, 0)).1, sl + (zal.getD z (0, 0)).2, L, r, g'))
      | none => none
    else none : Option zOut)
  match e.2.1 with
  | .iconst n => go (.int (Int32.ofInt n) :: st)
  | .bipush n => go (.int (Int8.ofInt n).toInt32 :: st)
  | .sipush n => go (.int (Int16.ofInt n).toInt32 :: st)
  | .ldc_w _ => go (.int (Int32.ofInt (zsgn ax)) :: st)
  | .ldc2_w _ => go (.long (Int64.ofInt (zsgn ax)) :: st)
  | .lconst n => go (.long (Int64.ofNat (n : Nat)) :: st)
  | .iload i => ldi i
  | .iload_n i => ldi (i : Nat)
  | .aload i => lda i
  | .aload_n i => lda (i : Nat)
  | .lload i => ldl i
  | .lload_n i => ldl (i : Nat)
  | .istore i => sti i
  | .istore_n i => sti (i : Nat)
  | .astore i => sta i
  | .astore_n i => sta (i : Nat)
  | .iinc i n => (match zget L i with
    | some (.int x) => if i < L.length then goL (zst L i (.int (x + Int32.ofInt n))) st else none
    | _ => none)
  | .iadd => zi2 st (fun x y r => go (.int (x + y) :: r))
  | .isub => zi2 st (fun x y r => go (.int (x - y) :: r))
  | .imul => zi2 st (fun x y r => go (.int (x * y) :: r))
  | .idiv => zi2 st (fun x y r => if y = 0 then none else go (.int (x / y) :: r))
  | .irem => zi2 st (fun x y r => if y = 0 then none else go (.int (x - x / y * y) :: r))
  | .iand => zi2 st (fun x y r => go (.int (x &&& y) :: r))
  | .ior => zi2 st (fun x y r => go (.int (x ||| y) :: r))
  | .ixor => zi2 st (fun x y r => go (.int (x ^^^ y) :: r))
  | .ishl => zi2 st (fun x y r => go (.int (x <<< (y &&& 31)) :: r))
  | .ishr => zi2 st (fun x y r => go (.int (x >>> (y &&& 31)) :: r))
  | .iushr => zi2 st (fun x y r => go (.int (x.toUInt32 >>> (y.toUInt32 &&& Int32.toUInt32 31)).toInt32 :: r))
  | .ineg => zi1 st (fun x r => go (.int (-x) :: r))
  | .i2l => zi1 st (fun x r => go (.long x.toInt64 :: r))
  | .i2b => zi1 st (fun x r => go (.int x.toInt8.toInt32 :: r))
  | .i2s => zi1 st (fun x r => go (.int x.toInt16.toInt32 :: r))
  | .ladd => zl2 st (fun x y r => go (.long (x + y) :: r))
  | .lsub => zl2 st (fun x y r => go (.long (x - y) :: r))
  | .lcmp => zl2 st (fun x y r => go (.int (lg_cmp x y) :: r))
  | .dup => (match st with
    | v :: r => if v.category = 1 then go (v :: v :: r) else none
    | _ => none)
  | .dup2 => (match st with
    | v :: w :: r => if v.category = 1 ∧ w.category = 1 then go (v :: w :: v :: w :: r) else none
    | _ => none)
  | .ifCond c off => zi1 st (fun x r => if zcnd c x 0 then jm off r else go r)
  | .if_icmp c off => zi2 st (fun x y r => if zcnd c x y then jm off r else go r)
  | .goto off => jm off st
  | .lookupswitch d ps => zi1 st (fun x r => jm (zsw x.toInt d ps.toList) r)
  | .tableswitch d lo _ offs => zi1 st (fun x r => jm (zsw x.toInt d (zkeys lo offs.toList)) r)
  | .getfield _ => zr1 st (fun o r => if zC g o = zx ax 0 then
      (if zx ax 2 = 1 then (if zF g o (zx ax 1) = 0 then none else go (.ref (zF g o (zx ax 1)) :: r)) else go (.int (zI g o (zx ax 1)) :: r)) else none)
  | .putfield _ => (match st with
    | .int v :: .ref o :: r => if zC g o = zx ax 0 ∧ (zx ax 2 = 0 ∨ (zx ax 2 = 2 ∧ (v = 0 ∨ v = 1))) then gog r (zN g, zC g, zLn g, zF g, va_up (zI g) o (va_up (zI g o) (zx ax 1) v), zA g) else none
    | .ref v :: .ref o :: r => if zC g o = zx ax 0 ∧ zx ax 2 = 1 ∧ 0 < v then gog r (zN g, zC g, zLn g, va_up (zF g) o (va_up (zF g o) (zx ax 1) v), zI g, zA g) else none
    | _ => none)
  | .iaload => (match st with
    | .int i :: .ref a :: r => if (zC g a = 100 ∨ zC g a = 103) ∧ zin i (zLn g a) then go (.int (zA g a i.toNatClampNeg) :: r) else none
    | _ => none)
  | .baload => (match st with
    | .int i :: .ref a :: r => if zC g a = 101 ∧ zin i (zLn g a) then go (.int (zA g a i.toNatClampNeg) :: r) else none
    | _ => none)
  | .aaload => (match st with
    | .int i :: .ref a :: r => if zC g a = 102 ∧ zin i (zLn g a) ∧ 0 < zF g a i.toNatClampNeg then go (.ref (zF g a i.toNatClampNeg) :: r) else none
    | _ => none)
  | .iastore => (match st with
    | .int x :: .int i :: .ref a :: r => if zC g a = 100 ∧ zin i (zLn g a) then gog r (zN g, zC g, zLn g, zF g, zI g, va_up (zA g) a (upd (zA g a) i.toNatClampNeg x)) else none
    | _ => none)
  | .bastore => (match st with
    | .int x :: .int i :: .ref a :: r => if zC g a = 101 ∧ zin i (zLn g a) then gog r (zN g, zC g, zLn g, zF g, zI g, va_up (zA g) a (upd (zA g a) i.toNatClampNeg (vp_nar .boolean x))) else none
    | _ => none)
  | .aastore => (match st with
    | .ref v :: .int i :: .ref a :: r => if zC g a = 102 ∧ zin i (zLn g a) ∧ zC g v = 4 then gog r (zN g, zC g, zLn g, va_up (zF g) a (va_up (zF g a) i.toNatClampNeg v), zI g, zA g) else none
    | _ => none)
  | .arraylength => zr1 st (fun a r => if zC g a = 100 ∨ zC g a = 103 then go (.int (Int32.ofNat (zLn g a)) :: r) else none)
  | .new _ => if k + 1 ≤ al.1 ∧ sl + zx ax 1 ≤ al.2 then some (.inl (np, k + 1, sl + zx ax 1, L, .ref (zN g) :: st, (zN g + 1, va_up (zC g) (zN g) (zx ax 0), zLn g, va_up (zF g) (zN g) (fun _ => 0), va_up (zI g) (zN g) (fun _ => 0), zA g))) else none
  | .newarray _ => zi1 st (fun n r => if ¬ n < 0 ∧ n.toNatClampNeg ≤ 1000 ∧ k + 1 ≤ al.1 ∧ sl + n.toNatClampNeg ≤ al.2 then some (.inl (np, k + 1, sl + n.toNatClampNeg, L, .ref (zN g) :: r, (zN g + 1, va_up (zC g) (zN g) (zx ax 0), va_up (zLn g) (zN g) n.toNatClampNeg, zF g, zI g, va_up (zA g) (zN g) (fun _ => 0)))) else none)
  | .anewarray _ => zi1 st (fun n r => if ¬ n < 0 ∧ n.toNatClampNeg ≤ 1000 ∧ k + 1 ≤ al.1 ∧ sl + n.toNatClampNeg ≤ al.2 then some (.inl (np, k + 1, sl + n.toNatClampNeg, L, .ref (zN g) :: r, (zN g + 1, va_up (zC g) (zN g) 102, va_up (zLn g) (zN g) n.toNatClampNeg, va_up (zF g) (zN g) (fun _ => 0), zI g, zA g))) else none)
  | .invokevirtual _ => zr1 (st.drop (zx ax 1)) (fun o r => if zx ax 1 ≤ st.length ∧ zC g o = zx ax 2 then cal (zx ax 0) (.ref o :: (st.take (zx ax 1)).reverse) r else none)
  | .invokestatic _ => (match zx ax 0 with
    | 0 => if zx ax 2 ≤ st.length then cal (zx ax 1) (st.take (zx ax 2)).reverse (st.drop (zx ax 2)) else none
    | 1 => zi2 st (fun x y r => if zcs r ≤ 8 then go (.int (if x < y then y else x) :: r) else none)
    | 2 => zi2 st (fun x y r => if zcs r ≤ 8 then go (.int (if y < x then y else x) :: r) else none)
    | _ => (match st with
      | .int n :: .int dp :: .ref d :: .int sp :: .ref s :: r => if zcs r ≤ 8 ∧ zC g s = 100 ∧ zC g d = 100 ∧ ¬ sp < 0 ∧ ¬ dp < 0 ∧ ¬ n < 0 ∧ sp.toNatClampNeg + n.toNatClampNeg ≤ zLn g s ∧ dp.toNatClampNeg + n.toNatClampNeg ≤ zLn g d then
          gog r (zN g, zC g, zLn g, zF g, zI g, va_up (zA g) d (va_cpy (zA g s) (zA g d) sp.toNatClampNeg dp.toNatClampNeg n.toNatClampNeg)) else none
      | _ => none))
  | .invokespecial _ => (match zx ax 0 with
    | 0 => zr1 st (fun _ r => if zcs r ≤ 8 then go r else none)
    | _ => zr1 (st.drop (zx ax 2)) (fun o r => if zx ax 2 ≤ st.length ∧ zC g o = zx ax 3 then cal (zx ax 1) (.ref o :: (st.take (zx ax 2)).reverse) r else none))
  | .ireturn => (match st with
    | [.int v] => if (zx ax 0 = 0 ∨ v = 0 ∨ v = 1) ∧ (k = al.1 ∨ al.1 = 600000) ∧ k ≤ al.1 ∧ sl ≤ al.2 then some (.inr (some (.int v), g)) else none
    | _ => none)
  | .lreturn => (match st with
    | [.long v] => if (k = al.1 ∨ al.1 = 600000) ∧ k ≤ al.1 ∧ sl ≤ al.2 then some (.inr (some (.long v), g)) else none
    | _ => none)
  | .return_ => (match st with
    | [] => if (k = al.1 ∨ al.1 = 600000) ∧ k ≤ al.1 ∧ sl ≤ al.2 then some (.inr (none, g)) else none
    | _ => none)
  | _ => none
/-- n steps of method y -/
def zex : Nat → Nat → Nat → Nat → Nat → zLc → List Value → zSg → Option zRs
  | 0, _, _, _, _, _, _, _ => none
  | n + 1, y, pc, k, sl, L, st, g => match zat y pc with
    | none => none
    | some e => match zstep (fun z as g => if (zal0 as).length ≤ zml.getD z 0 then zex n z 0 0 0 (zpad (zml.getD z 0) (zal0 as)) [] g else none) (zal.getD y (0, 0)) e pc k sl L st g with
      | none => none
      | some (.inl c) => zex n y c.1 c.2.1 c.2.2.1 c.2.2.2.1 c.2.2.2.2.1 c.2.2.2.2.2
      | some (.inr r) => some r
