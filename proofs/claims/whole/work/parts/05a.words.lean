/-! methods and rows: what is checked of them -/
def zsp : MethodName := objectInit
def zmn (z : Nat) : MethodName := if z = 1000 then objectInit else if z = 1001 then Lib.Math.max.name else if z = 1002 then Lib.Math.min.name else if z = 1003 then arraycopyName else znm z
def zMTo (t : Nat × Nat × Nat) : Cond := .methodLink (zcn.getD t.1 RX0) t.2.1 (zmn t.2.2)
set_option maxRecDepth 20000 in
theorem zMT_in {k : Nat} {t : Nat × Nat × Nat} (h : zMT[k]? = some t) : zMTo t ∈ zW := zmem (zW_list (is := zMTw) (by decide +kernel) (by decide +kernel)) h
def zyl : List Nat := (List.range 165).filter (fun y => y != 164)
theorem zyl_in {y : Nat} (h : y < 165) (h2 : y ≠ 164) : y ∈ zyl := List.mem_filter.mpr ⟨List.mem_range.mpr h, by simpa using h2⟩
theorem zall {l : List Nat} {f : Nat → Cond} (h : ∀ w ∈ l.map f, w ∈ zW) {y : Nat} (hy : y ∈ l) : f y ∈ zW := h _ (List.mem_map.mpr ⟨y, hy, rfl⟩)
set_option maxRecDepth 20000 in
theorem zmeth_in {y : Nat} (h : y < 165) (h2 : y ≠ 164) : (if zst0.getD y false = true then Cond.static (znm y) else Cond.instanceMethod (znm y)) ∈ zW := zall (l := zyl) (f := fun y => if zst0.getD y false = true then Cond.static (znm y) else Cond.instanceMethod (znm y)) (zW_list (is := zmw) (by decide +kernel) (by decide +kernel)) (zyl_in h h2)
set_option maxRecDepth 20000 in
theorem zsel_in {y : Nat} (h : y ∈ zsl0) : Cond.selects (zow y) (znm y) (znm y) ∈ zW := zall (l := zsl0) (f := fun y => Cond.selects (zow y) (znm y) (znm y)) (zW_list (is := zsw0) (by decide +kernel) (by decide +kernel)) h
set_option maxRecDepth 20000 in
theorem zini_in {c : Nat} (h : c < 12) : Cond.initialized (zcn.getD c RX0) ∈ zW := zall (l := List.range 12) (f := fun c => Cond.initialized (zcn.getD c RX0)) (zW_list (is := zck) (by decide +kernel) (by decide +kernel)) (List.mem_range.mpr h)
set_option maxRecDepth 20000 in
theorem zinst_in {c : Nat} (h : c < 8) : Cond.instantiable (zcl c).1 (zcl c).2.2 ∈ zW := zall (l := List.range 8) (f := fun c => Cond.instantiable (zcl c).1 (zcl c).2.2) (zW_list (is := ziw) (by decide +kernel) (by decide +kernel)) (List.mem_range.mpr h)
set_option maxRecDepth 20000 in
theorem zspec_in : ∀ w ∈ [Cond.instanceMethod objectInit, Cond.code objectInit ⟨#[0xb1]⟩ 1 none, Cond.static Lib.Math.max.name, Cond.static Lib.Math.min.name, Cond.initialized "java/lang/Math", Cond.code Lib.Math.max.name Lib.Math.max.code 2 (some .int), Cond.code Lib.Math.min.name Lib.Math.min.code 2 (some .int), Cond.native arraycopyName, Cond.static arraycopyName, Cond.initialized "java/lang/System", Cond.arrayClass .int, Cond.arrayClass .boolean], w ∈ zW := zW_list (is := zspw) (by decide +kernel) (by decide +kernel)
