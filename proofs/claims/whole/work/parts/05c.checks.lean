/-! what is checked of a row -/
def zvc (ci : Nat) : Nat := zvn.getD ci 0
theorem zvc_ok : ∀ ci, ci < 8 → (zcl ci).1 = zcn.getD (zvc ci) RX0 ∧ zvc ci < 12 := by
  intro ci h
  match ci, h with
  | 0, _ | 1, _ | 2, _ | 3, _ | 4, _ | 5, _ | 6, _ | 7, _ => exact ⟨rfl, by decide⟩
  | n + 8, h => exact absurd h (by omega)
def zroom (y z : Nat) : Bool := decide (zfr z + 1 ≤ zfr y) && decide (8 + (zmx z + 11) + zlo z ≤ zlo y)
def zchk (y : Nat) (e : zEn) : Bool :=
  let ax := e.2.2.2
  match e.2.1 with
  | .getfield i => decide (zFT[zx ax 3]? = some (zon.getD y 0, i, zx ax 0, zx ax 1)) && decide (zx ax 0 < 8) && decide (zx ax 1 < (zfk.getD (zx ax 0) []).length) && decide (zkd (zx ax 0) (zx ax 1) = zx ax 2) && decide (zx ax 2 ≤ 2)
  | .putfield i => decide (zFT[zx ax 3]? = some (zon.getD y 0, i, zx ax 0, zx ax 1)) && decide (zx ax 0 < 8) && decide (zx ax 1 < (zfk.getD (zx ax 0) []).length) && decide (zkd (zx ax 0) (zx ax 1) = zx ax 2) && decide (zx ax 2 ≤ 2) && (!((zcl (zx ax 0)).2.1 (zx ax 1)).2.2.2 || (decide ((znm y).name = "<init>") && decide (((zcl (zx ax 0)).2.1 (zx ax 1)).1 = zow y)))
  | .invokevirtual i => decide (zMT[zx ax 3]? = some (zon.getD y 0, i, zx ax 0)) && decide (zx ax 0 < 164) && decide (zx ax 2 < 8) && decide (zon.getD (zx ax 0) 0 = zvc (zx ax 2)) && zsl0.contains (zx ax 0) && decide (zst0.getD (zx ax 0) false = false) && decide (znp.getD (zx ax 0) 0 = zx ax 1) && zroom y (zx ax 0)
  | .invokestatic i => (match zx ax 0 with
    | 0 => decide (zMT[zx ax 3]? = some (zon.getD y 0, i, zx ax 1)) && decide (zx ax 1 < 165) && decide (zx ax 1 ≠ 164) && decide (zst0.getD (zx ax 1) false = true) && decide (znp.getD (zx ax 1) 0 = zx ax 2) && zroom y (zx ax 1)
    | 1 => decide (zMT[zx ax 1]? = some (zon.getD y 0, i, 1001)) && decide (1 ≤ zfr y) && decide (21 ≤ zlo y)
    | 2 => decide (zMT[zx ax 1]? = some (zon.getD y 0, i, 1002)) && decide (1 ≤ zfr y) && decide (21 ≤ zlo y)
    | 3 => decide (zMT[zx ax 1]? = some (zon.getD y 0, i, 1003)) && decide (1 ≤ zfr y) && decide (8 + (nativeFrameWords "java/lang/System" "arraycopy" 5 + 11) ≤ zlo y)
    | _ => false)
  | .invokespecial i => (match zx ax 0 with
    | 0 => decide (zMT[zx ax 1]? = some (zon.getD y 0, i, 1000)) && decide (1 ≤ zfr y) && decide (20 ≤ zlo y)
    | 1 => decide (zMT[zx ax 4]? = some (zon.getD y 0, i, zx ax 1)) && decide (zx ax 1 < 164) && decide ((znm (zx ax 1)).name = "<init>") && decide (zst0.getD (zx ax 1) false = false) && decide (znp.getD (zx ax 1) 0 = zx ax 2) && decide (zrt (zx ax 1) = none) && decide (zx ax 3 < 8) && zroom y (zx ax 1)
    | 2 => decide (zNT[zx ax 4]? = some (zon.getD y 0, i, zx ax 1)) && decide (zx ax 1 < 164) && decide ((znm (zx ax 1)).name = "<init>") && decide (zst0.getD (zx ax 1) false = false) && decide (znp.getD (zx ax 1) 0 = zx ax 2) && decide (zrt (zx ax 1) = none) && decide (zx ax 3 < 8) && zroom y (zx ax 1)
    | _ => false)
  | .new i => decide (zCT[zx ax 2]? = some (zon.getD y 0, i, zx ax 0)) && decide (zx ax 0 < 8) && decide (zx ax 1 = (zfk.getD (zx ax 0) []).length)
  | .newarray t => (decide (t = .int) && decide (zx ax 0 = 100)) || (decide (t = .boolean) && decide (zx ax 0 = 101))
  | .anewarray i => decide (zCT[zx ax 2]? = some (zon.getD y 0, i, 4))
  | .ldc_w i => decide (zKT[zx ax 2]? = some (zon.getD y 0, i, zx ax 0, zx ax 1, false))
  | .ldc2_w i => decide (zKT[zx ax 2]? = some (zon.getD y 0, i, zx ax 0, zx ax 1, true))
  | .ireturn => (decide (zx ax 0 = 1) && decide (zrt y = some .boolean)) || (decide (zx ax 0 = 0) && decide (zrt y = some .int))
  | .lreturn => decide (zrt y = some .long)
  | .return_ => decide (zrt y = none)
  | .lookupswitch _ ps => (ps.toList.zip (ps.toList.drop 1)).all (fun (a, next) => a.1 < next.1)
  | .tableswitch _ lo hi offs => decide (hi = lo + offs.size - 1)
  | _ => true
/-- how long an instruction is -/
def zlen : Instr → Nat
  | .iconst _ | .lconst _ | .iload_n _ | .aload_n _ | .lload_n _ | .istore_n _ | .astore_n _ | .iadd | .isub | .imul | .idiv | .irem | .iand | .ior | .ixor | .ishl | .ishr | .iushr | .ineg | .i2l | .i2b | .i2s | .ladd | .lsub | .lcmp | .dup | .dup2 | .iaload | .baload | .aaload | .iastore | .bastore | .aastore | .arraylength | .ireturn | .lreturn | .return_ => 1
  | .bipush _ | .iload _ | .aload _ | .lload _ | .istore _ | .astore _ | .newarray _ => 2
  | _ => 3
def zlenok (e : zEn) : Bool := match e.2.1 with
  | .lookupswitch _ _ => true
  | .tableswitch _ _ _ _ => true
  | .ifCond _ off => decide (e.2.2.1 = 3) && decide (0 ≤ (e.1 : Int) + off)
  | .if_icmp _ off => decide (e.2.2.1 = 3) && decide (0 ≤ (e.1 : Int) + off)
  | i => decide (e.2.2.1 = zlen i)
def zrowok (y : Nat) (b : ByteArray) (e : zEn) : Bool := decide (decode b e.1 = .ok (e.2.1, e.2.2.1)) && zchk y e && zlenok e
