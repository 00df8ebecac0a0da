/-! .. calls -/
section zS5
variable {p : Program} {l : Launch} {e : Env} {R : Room} {s : State} {m : MethodId} {args : Array Value} {below : List Frame} {meth : Method} {c : Code} {Q : State → Prop}
variable {D : va_G} {cy : Nat → ClassId} {b bs Ln : Nat} {xs : Nat → Int32} {y pc k sl : Nat} {H : Heap} {locs : List Loc} {ls : Array Slot} {L : zLc} {g : zSg} {st : List Value} {ax : List Nat}
/-- behind a call -/
theorem zcont {z mc ms : Nat} {r : zRs} {rest st0 : List Value} {a : Array Value} (hr : va_Run p l e R s m args below meth c H locs k sl mc ms (F0 m pc ls st0) rest (zPost D cy b bs Ln xs z r a) (zAs bs)) (hS : va_S (zAs bs) s.heap H locs) (hz : H.size = bs + zN g)
    (kk : ∀ (H1 : Heap) (locs1 : List Loc), zRp D cy bs Ln xs r.2 H1 → va_S (zAs bs) s.heap H1 locs1 → zN g + (zal.getD z (0, 0)).1 = zN r.2 → W p l e R s m args below meth c H1 locs1 (k + mc) (sl + ms) Q (F0 m (pc + 3) ls ((r.1.map (zv b bs)).toList ++ rest))) : W p l e R s m args below meth c H locs k sl Q (F0 m pc ls st0) := by
  intro T hT X
  obtain ⟨v, st₀, t, T', L0, h0, X', hL, e1, e2, ⟨⟨hv, hR, hn⟩, hgrow, hkeep⟩, step⟩ := hr T hT X
  injection hv with hv
  subst hv
  rw [h0] at hgrow hkeep hn
  have hS1 : va_S (zAs bs) s.heap T'.heap (locs ++ L0) := by
    rw [e1]
    refine ⟨Nat.le_trans hS.1 hgrow, fun q h1 h2 => (hkeep q (Nat.lt_of_lt_of_le h1 hS.1) h2).trans (hS.2.1 q h1 h2), fun q hq => ?_⟩
    rcases List.mem_append.mp hq with h | h
    · exact hS.2.2 q h
    · exact hL q h
  obtain ⟨t2, a1, b1⟩ := kk T'.heap (locs ++ L0) (by rw [e1]; exact hR) hS1 (by omega) T' rfl X'
  exact ⟨t2, step t2 a1, b1⟩
theorem zroom_spec {y z : Nat} (h : zroom y z = true) : zfr z + 1 ≤ zfr y ∧ 8 + (zmx z + 11) + zlo z ≤ zlo y := by
  unfold zroom at h
  simp only [Bool.and_eq_true, decide_eq_true_eq] at h
  exact h
theorem zGood (hts : ∀ w ∈ zW, w.before args s = true) {z : Nat} (hz : z < 165) (h4 : z ≠ 164) : GoodIn zW (zWs z) := by
  intro w hw
  have hm : w ∈ zW := by
    rcases List.mem_cons.mp hw with h | h
    · rw [h]; exact zcode_in hz h4
    · exact h
  exact ⟨hm, good_of_word (zW_good w hm)⟩
theorem zmisc_spec {y : Nat} (h : y < 165) : plainName (znm y).cls = true ∧ ((znm y).cls ≠ "java/lang/invoke/MethodHandle" ∧ (znm y).cls ≠ "java/lang/invoke/VarHandle") ∧ (znm y).cls = zow y ∧ (parseMethodDescriptor (znm y).desc).map (fun d => d.parameters.length) = some (znp.getD y 0) ∧ zon.getD y 0 < 12 ∧ zml.getD y 0 = zmx y := by
  have h1 := zmisc_ok y h
  unfold zmisc at h1
  simp only [Bool.and_eq_true, decide_eq_true_eq] at h1
  exact ⟨h1.1.1.1.1.1.1, ⟨h1.1.1.1.1.1.2, h1.1.1.1.1.2⟩, h1.1.1.1.2, h1.1.1.2, h1.1.2, h1.2⟩
theorem zini_of {z : Nat} (hz : z < 165) : Cond.initialized (znm z).cls ∈ zW := by
  obtain ⟨-, -, h, -, h2, -⟩ := zmisc_spec hz
  rw [h]
  exact zini_in h2
/-- what the callee is told -/
theorem zpre_call {z : Nat} {as : List Value} (hK : va_K D vwCl (ztys cy) s) (hN : zNest s) (hX : va_X b Ln xs s s.heap ∧ b ≤ bs ∧ bs < s.heap.size) (hR : zRp D cy bs Ln xs g H) (hS : va_S (zAs bs) s.heap H locs) (hz : H.size = bs + zN g) : ∀ U : State, U.heap = H → s.WarmedH U.vm → zPre D cy b bs Ln xs as g (as.map (zv b bs)).toArray U := by
  intro U hU hW
  refine ⟨rfl, by rw [hU]; exact hR, by rw [hU]; exact hz, va_K.moved hW.alike hK, hN.moved hW, ?_, hX.2.1⟩
  rw [hU]
  exact (hX.1.kept (hS.2.1 b (Nat.lt_of_le_of_lt hX.2.1 hX.2.2) (fun q : bs < b => absurd hX.2.1 (Nat.not_le.mpr q)))).moved hW.alike
theorem zcallB {z i : Nat} (C : zCx p R s m args meth c D cy b bs Ln xs y) (hz : z < 165) (h4 : z ≠ 164) (hM : ∃ t : Nat, zMT[t]? = some (zon.getD y 0, i, z)) (hroom : zroom y z = true) : CallB R s args (zow y) i (znm z) (zby z) (zmx z) (zrt z) (zWs z) (zrm z) (zal.getD z (0, 0)).1 (zal.getD z (0, 0)).2 (znp.getD z 0) := by
  obtain ⟨⟨hx, hb, hml, hown, hret, hlocks, hname⟩, hts, hK, hN, hX, hfr, hlo, hal⟩ := C
  obtain ⟨t, hM⟩ := hM
  obtain ⟨m1, m2, m3, m4, m5, m6⟩ := zmisc_spec hz
  obtain ⟨r1, r2⟩ := zroom_spec hroom
  have hl : Cond.methodLink (zow y) i (znm z) ∈ zW := by
    have h := zMT_in hM
    unfold zMTo zmn at h
    rwa [if_neg (by show ¬ z = 1000; omega), if_neg (by show ¬ z = 1001; omega), if_neg (by show ¬ z = 1002; omega), if_neg (by show ¬ z = 1003; omega)] at h
  exact callB_of (Ts := zW) _ hts (zGood hts hz h4) rfl rfl rfl (hts _ (zini_of hz)) (hts _ hl) ⟨m2.1, m2.2, m4⟩ ⟨Nat.le_trans r1 hfr, Nat.le_trans r2 hlo⟩
theorem zrest {r : List Value} (h : zcs r ≤ 8) : 2 * (F0 m pc ls st).monitorRoom + ((r.map (zv b bs)).map fun v => v.category).sum ≤ 8 := by
  refine lv_room ?_
  rw [zv_cats]
  exact h
/-- what a call's step says -/
theorem zcal_spec {call : Nat → List Value → zSg → Option zRs} {al : Nat × Nat} {np z : Nat} {as r : List Value} {out : zOut}
    (hs : (if k + (zal.getD z (0, 0)).1 ≤ al.1 ∧ sl + (zal.getD z (0, 0)).2 ≤ al.2 ∧ zcs r ≤ 8 then
      match call z as g with
      | some (some v, g') => some (.inl (np, k + (zal.getD z (0, 0)).1, sl + (zal.getD z (0, 0)).2, L, v :: r, g'))
      | some (none, g') => some (.inl (np, k + (zal.getD z (0, 0)).1, sl + (zal.getD z (0, 0)).2, L, r, g'))
      | none => none
    else none : Option zOut) = some out) : k + (zal.getD z (0, 0)).1 ≤ al.1 ∧ sl + (zal.getD z (0, 0)).2 ≤ al.2 ∧ zcs r ≤ 8 ∧ ∃ q : zRs, call z as g = some q ∧ out = .inl (np, k + (zal.getD z (0, 0)).1, sl + (zal.getD z (0, 0)).2, L, q.1.toList ++ r, q.2) := by
  split at hs
  · next h =>
    refine ⟨h.1, h.2.1, h.2.2, ?_⟩
    split at hs
    · next v g' hq => cases hs; exact ⟨_, hq, rfl⟩
    · next g' hq => cases hs; exact ⟨_, hq, rfl⟩
    · cases hs
  · cases hs
theorem zto_call {z : Nat} {q : zRs} {r : List Value} (hA : zAt s D cy b bs Ln xs y k sl H locs ls L g) (kk : zTo p l e R s m args below meth c Q D cy b bs Ln xs y (.inl (pc + 3, k + (zal.getD z (0, 0)).1, sl + (zal.getD z (0, 0)).2, L, q.1.toList ++ r, q.2))) (H1 : Heap) (locs1 : List Loc) (h1 : zRp D cy bs Ln xs q.2 H1) (h2 : va_S (zAs bs) s.heap H1 locs1) (h3 : zN g + (zal.getD z (0, 0)).1 = zN q.2) (c1 : k + (zal.getD z (0, 0)).1 ≤ (zal.getD y (0, 0)).1) (c2 : sl + (zal.getD z (0, 0)).2 ≤ (zal.getD y (0, 0)).2) : W p l e R s m args below meth c H1 locs1 (k + (zal.getD z (0, 0)).1) (sl + (zal.getD z (0, 0)).2) Q (F0 m (pc + 3) ls ((q.1.map (zv b bs)).toList ++ r.map (zv b bs))) := by
  have h := kk H1 locs1 ls ⟨hA.1, h1, h2, by have := hA.2.2.2.1; show s.heap.size + (k + _) = bs + zN q.2; omega, c1, c2⟩
  have e : (q.1.toList ++ r).map (zv b bs) = (q.1.map (zv b bs)).toList ++ r.map (zv b bs) := by
    rw [List.map_append]
    cases q.1 <;> rfl
  rw [← e]
  exact h
theorem zs_invokestatic0 {call : Nat → List Value → zSg → Option zRs} {e0 i : Nat} {out : zOut} (C : zCx p R s m args meth c D cy b bs Ln xs y) (hA : zAt s D cy b bs Ln xs y k sl H locs ls L g) (hd : decode (zby y) pc = .ok (.invokestatic i, 3)) (h0 : zx ax 0 = 0) (hM : zMT[zx ax 3]? = some (zon.getD y 0, i, zx ax 1)) (hz : zx ax 1 < 165) (h4 : zx ax 1 ≠ 164) (hst : zst0.getD (zx ax 1) false = true) (hnp : znp.getD (zx ax 1) 0 = zx ax 2) (hroom : zroom y (zx ax 1) = true) (hcall : ∀ z as g q, call z as g = some q → z < 165 → z ≠ 164 → zMet l D cy b bs Ln xs z as g q)
    (hs : zstep call (zal.getD y (0, 0)) (e0, .invokestatic i, 3, ax) pc k sl L st g = some out) (kk : zTo p l e R s m args below meth c Q D cy b bs Ln xs y out) : zG p l e R s m args below meth c Q b bs H locs k sl pc ls st := by
  have hB := zcallB (i := i) C hz h4 ⟨_, hM⟩ hroom
  obtain ⟨⟨hx, hb, hml, hown, hret, hlocks, hname⟩, hts, hK, hN, hX, hfr, hlo, hal⟩ := C
  simp only [zstep, h0] at hs
  split at hs
  · next hl =>
    obtain ⟨c1, c2, c3, q, hq, rfl⟩ := zcal_spec hs
    have hMt := hcall _ _ _ _ hq hz h4
    refine zsize hA hX.2.2 (fun hsz => ?_)
    have hstat := zmeth_in hz h4
    rw [if_pos hst] at hstat
    have hrun := va_runS (p := p) (l := l) (e := e) (below := below) (meth := meth) (locs := locs) (cells := k) (slots := sl) (g := F0 m pc ls (st.map (zv b bs))) (As := ((st.take (zx ax 2)).reverse).map (zv b bs)) (rest := (st.drop (zx ax 2)).map (zv b bs)) (Ts := zW) ⟨hx, hb, hml, hown, hts⟩ hMt ⟨hB, hts _ hstat⟩ ⟨zPre_blind, zpre_call (z := zx ax 1) hK hN hX hA.2.1 hA.2.2.1 hsz⟩ rfl (by rw [List.length_map, List.length_reverse, List.length_take, hnp]; omega) hA.1.1 (by rw [← List.map_reverse, List.reverse_reverse, ← List.map_append, List.take_append_drop]) (zrest c3) hd ⟨Nat.le_trans c1 hal.1, Nat.le_trans c2 hal.2⟩
    exact zcont hrun hA.2.2.1 hsz (fun H1 locs1 g1 g2 g3 => zto_call hA kk H1 locs1 g1 g2 g3 c1 c2)
  · cases hs
theorem zdrop {n : Nat} {o : Nat} {r : List Value} (h : st.drop n = .ref o :: r) : st.map (zv b bs) = (((st.take n).reverse).map (zv b bs)).reverse ++ (.ref (zad b bs o) :: r.map (zv b bs)) := by
  rw [← List.map_reverse, List.reverse_reverse]
  have h1 : st = st.take n ++ (.ref o :: r) := by rw [← h, List.take_append_drop]
  conv => lhs; rw [h1]
  rw [List.map_append]
  rfl
theorem zs_invokevirtual {call : Nat → List Value → zSg → Option zRs} {e0 i : Nat} {out : zOut} (C : zCx p R s m args meth c D cy b bs Ln xs y) (hA : zAt s D cy b bs Ln xs y k sl H locs ls L g) (hd : decode (zby y) pc = .ok (.invokevirtual i, 3)) (hM : zMT[zx ax 3]? = some (zon.getD y 0, i, zx ax 0)) (hz : zx ax 0 < 164) (h8 : zx ax 2 < 8) (hcn : zon.getD (zx ax 0) 0 = zvc (zx ax 2)) (hsl : zx ax 0 ∈ zsl0) (hst : zst0.getD (zx ax 0) false = false) (hnp : znp.getD (zx ax 0) 0 = zx ax 1) (hroom : zroom y (zx ax 0) = true) (hcall : ∀ z as g q, call z as g = some q → z < 165 → z ≠ 164 → zMet l D cy b bs Ln xs z as g q)
    (hs : zstep call (zal.getD y (0, 0)) (e0, .invokevirtual i, 3, ax) pc k sl L st g = some out) (kk : zTo p l e R s m args below meth c Q D cy b bs Ln xs y out) : zG p l e R s m args below meth c Q b bs H locs k sl pc ls st := by
  have hz5 : zx ax 0 < 165 := by omega
  have hz4 : zx ax 0 ≠ 164 := by omega
  have hB := zcallB (i := i) C hz5 hz4 ⟨_, hM⟩ hroom
  obtain ⟨⟨hx, hb, hml, hown, hret, hlocks, hname⟩, hts, hK, hN, hX, hfr, hlo, hal⟩ := C
  obtain ⟨q1, q2, q3, q4, ty0, q5, q6⟩ := zcl_ok _ h8
  simp only [zstep] at hs
  unfold zr1 at hs
  split at hs
  · next o r hdr =>
    dsimp only at hs
    split at hs
    · next hl =>
      obtain ⟨c1, c2, c3, q, hq, rfl⟩ := zcal_spec hs
      have hMt := hcall _ _ _ _ hq hz5 hz4
      obtain ⟨h0, hn, hat⟩ := hA.2.1.at (i := o) (by omega)
      rw [zce_obj (by omega), hl.2] at hat
      refine zsize hA hX.2.2 (fun hsz => ?_)
      have hins := zmeth_in hz5 hz4
      rw [if_neg (by rw [hst]; decide)] at hins
      have hrecv := va_recv hK hA.2.1.2.1 q1 hat
      have hcls : (zcl (zx ax 2)).1 = zow (zx ax 0) := by
        rw [(zvc_ok _ h8).1]
        show _ = zcn.getD (zon.getD (zx ax 0) 0) RX0
        rw [hcn]
      rw [hcls] at hrecv
      have e0 : Value.ref (bs + o) :: ((st.take (zx ax 1)).reverse).map (zv b bs) = (Value.ref o :: (st.take (zx ax 1)).reverse).map (zv b bs) := by
        show _ = Value.ref (zad b bs o) :: _
        rw [zad_pos h0]
      have hrun := va_runV (p := p) (l := l) (e := e) (below := below) (meth := meth) (locs := locs) (cells := k) (slots := sl) (g := F0 m pc ls (st.map (zv b bs))) (C := zow (zx ax 0)) (b := bs + o) (As := ((st.take (zx ax 1)).reverse).map (zv b bs)) (rest := r.map (zv b bs)) (Ts := zW) ⟨hx, hb, hml, hown, hts⟩ hMt ⟨hB, hts _ hins, hts _ (zsel_in hsl)⟩ ⟨zPre_blind, hrecv, fun U hU hW => by rw [e0]; exact zpre_call (z := zx ax 0) hK hN hX hA.2.1 hA.2.2.1 hsz U hU hW⟩ rfl (by rw [List.length_map, List.length_reverse, List.length_take, hnp]; omega) hA.1.1 (by rw [← zad_pos (b := b) h0]; exact zdrop hdr) (zrest c3) hd ⟨Nat.le_trans c1 hal.1, Nat.le_trans c2 hal.2⟩
      exact zcont hrun hA.2.2.1 hsz (fun H1 locs1 g1 g2 g3 => zto_call hA kk H1 locs1 g1 g2 g3 c1 c2)
    · cases hs
  · cases hs
theorem zs_invokespecial1 {call : Nat → List Value → zSg → Option zRs} {e0 i : Nat} {out : zOut} (C : zCx p R s m args meth c D cy b bs Ln xs y) (hA : zAt s D cy b bs Ln xs y k sl H locs ls L g) (hd : decode (zby y) pc = .ok (.invokespecial i, 3)) (h1 : zx ax 0 = 1) (hM : zMT[zx ax 4]? = some (zon.getD y 0, i, zx ax 1)) (hz : zx ax 1 < 164) (hnm : (znm (zx ax 1)).name = "<init>") (hst : zst0.getD (zx ax 1) false = false) (hnp : znp.getD (zx ax 1) 0 = zx ax 2) (hrt : zrt (zx ax 1) = none) (h3 : zx ax 3 < 8) (hroom : zroom y (zx ax 1) = true) (hcall : ∀ z as g q, call z as g = some q → z < 165 → z ≠ 164 → zMet l D cy b bs Ln xs z as g q)
    (hs : zstep call (zal.getD y (0, 0)) (e0, .invokespecial i, 3, ax) pc k sl L st g = some out) (kk : zTo p l e R s m args below meth c Q D cy b bs Ln xs y out) : zG p l e R s m args below meth c Q b bs H locs k sl pc ls st := by
  have hz5 : zx ax 1 < 165 := by omega
  have hz4 : zx ax 1 ≠ 164 := by omega
  have hB := zcallB (i := i) C hz5 hz4 ⟨_, hM⟩ hroom
  obtain ⟨⟨hx, hb, hml, hown, hret, hlocks, hname⟩, hts, hK, hN, hX, hfr, hlo, hal⟩ := C
  simp only [zstep, h1] at hs
  unfold zr1 at hs
  split at hs
  · next o r hdr =>
    dsimp only at hs
    split at hs
    · next hl =>
      obtain ⟨c1, c2, c3, q, hq, rfl⟩ := zcal_spec hs
      have hMt := hcall _ _ _ _ hq hz5 hz4
      obtain ⟨h0, hn, hat⟩ := hA.2.1.at (i := o) (by omega)
      refine zsize hA hX.2.2 (fun hsz => ?_)
      have hins := zmeth_in hz5 hz4
      rw [if_neg (by rw [hst]; decide)] at hins
      rw [hrt] at hB
      have e0 : Value.ref (bs + o) :: ((st.take (zx ax 2)).reverse).map (zv b bs) = (Value.ref o :: (st.take (zx ax 2)).reverse).map (zv b bs) := by
        show _ = Value.ref (zad b bs o) :: _
        rw [zad_pos h0]
      have hrun := va_runI (p := p) (l := l) (e := e) (below := below) (meth := meth) (locs := locs) (cells := k) (slots := sl) (g := F0 m pc ls (st.map (zv b bs))) (b := bs + o) (As := ((st.take (zx ax 2)).reverse).map (zv b bs)) (rest := r.map (zv b bs)) (Ts := zW) ⟨hx, hb, hml, hown, hts⟩ hMt ⟨hB, hnm, hts _ hins⟩ ⟨zPre_blind, fun U hU hW => by rw [e0]; exact zpre_call (z := zx ax 1) hK hN hX hA.2.1 hA.2.2.1 hsz U hU hW⟩ rfl (by rw [List.length_map, List.length_reverse, List.length_take, hnp]; omega) hA.1.1 (by rw [← zad_pos (b := b) h0]; exact zdrop hdr) (zrest c3) hd ⟨Nat.le_trans c1 hal.1, Nat.le_trans c2 hal.2⟩
      exact zcont hrun hA.2.2.1 hsz (fun H1 locs1 g1 g2 g3 => zto_call hA kk H1 locs1 g1 g2 g3 c1 c2)
    · cases hs
  · cases hs
theorem zs_invokespecial2 {call : Nat → List Value → zSg → Option zRs} {e0 i : Nat} {out : zOut} (C : zCx p R s m args meth c D cy b bs Ln xs y) (hA : zAt s D cy b bs Ln xs y k sl H locs ls L g) (hd : decode (zby y) pc = .ok (.invokespecial i, 3)) (h1 : zx ax 0 = 2) (hM : zNT[zx ax 4]? = some (zon.getD y 0, i, zx ax 1)) (hz : zx ax 1 < 164) (hnm : (znm (zx ax 1)).name = "<init>") (hst : zst0.getD (zx ax 1) false = false) (hnp : znp.getD (zx ax 1) 0 = zx ax 2) (hrt : zrt (zx ax 1) = none) (h3 : zx ax 3 < 8) (hroom : zroom y (zx ax 1) = true) (hcall : ∀ z as g q, call z as g = some q → z < 165 → z ≠ 164 → zMet l D cy b bs Ln xs z as g q)
    (hs : zstep call (zal.getD y (0, 0)) (e0, .invokespecial i, 3, ax) pc k sl L st g = some out) (kk : zTo p l e R s m args below meth c Q D cy b bs Ln xs y out) : zG p l e R s m args below meth c Q b bs H locs k sl pc ls st := by
  have hz5 : zx ax 1 < 165 := by omega
  have hz4 : zx ax 1 ≠ 164 := by omega
  obtain ⟨⟨hx, hb, hml, hown, hret, hlocks, hname⟩, hts, hK, hN, hX, hfr, hlo, hal⟩ := C
  obtain ⟨m1, m2, m3, m4, m5, m6⟩ := zmisc_spec hz5
  obtain ⟨r1, r2⟩ := zroom_spec hroom
  simp only [zstep, h1] at hs
  unfold zr1 at hs
  split at hs
  · next o r hdr =>
    dsimp only at hs
    split at hs
    · next hl =>
      obtain ⟨c1, c2, c3, q, hq, rfl⟩ := zcal_spec hs
      have hMt := hcall _ _ _ _ hq hz5 hz4
      obtain ⟨h0, hn, hat⟩ := hA.2.1.at (i := o) (by omega)
      refine zsize hA hX.2.2 (fun hsz => ?_)
      have hins := zmeth_in hz5 hz4
      rw [if_neg (by rw [hst]; decide)] at hins
      have hnest := hN.2 _ (List.mem_of_getElem? hM)
      have hB := va_cnB (R := R) (Ts := zW) (rm := zrm (zx ax 1)) (znp.getD (zx ax 1) 0) hts (zGood hts hz5 hz4) rfl rfl rfl hnest (hts _ (zini_of hz5)) ⟨m2.1, m2.2, m4⟩ ⟨Nat.le_trans r1 hfr, Nat.le_trans r2 hlo⟩
      rw [hrt] at hB
      have e0 : Value.ref (bs + o) :: ((st.take (zx ax 2)).reverse).map (zv b bs) = (Value.ref o :: (st.take (zx ax 2)).reverse).map (zv b bs) := by
        show _ = Value.ref (zad b bs o) :: _
        rw [zad_pos h0]
      have hrun := va_runIN (p := p) (l := l) (e := e) (below := below) (meth := meth) (locs := locs) (cells := k) (slots := sl) (g := F0 m pc ls (st.map (zv b bs))) (b := bs + o) (As := ((st.take (zx ax 2)).reverse).map (zv b bs)) (rest := r.map (zv b bs)) (Ts := zW) ⟨hx, hb, hml, hown, hts⟩ hMt ⟨hB, hnm, hts _ hins⟩ ⟨zPre_blind, fun U hU hW => by rw [e0]; exact zpre_call (z := zx ax 1) hK hN hX hA.2.1 hA.2.2.1 hsz U hU hW⟩ rfl (by rw [List.length_map, List.length_reverse, List.length_take, hnp]; omega) hA.1.1 (by rw [← zad_pos (b := b) h0]; exact zdrop hdr) (zrest c3) hd ⟨Nat.le_trans c1 hal.1, Nat.le_trans c2 hal.2⟩
      exact zcont hrun hA.2.2.1 hsz (fun H1 locs1 g1 g2 g3 => zto_call hA kk H1 locs1 g1 g2 g3 c1 c2)
    · cases hs
  · cases hs
end zS5
