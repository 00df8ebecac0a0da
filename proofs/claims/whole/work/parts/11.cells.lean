/-! .. new cells, calls -/
section zS4
variable {p : Program} {l : Launch} {e : Env} {R : Room} {s : State} {m : MethodId} {args : Array Value} {below : List Frame} {meth : Method} {c : Code} {Q : State → Prop}
variable {D : va_G} {cy : Nat → ClassId} {b bs Ln : Nat} {xs : Nat → Int32} {y pc k sl : Nat} {H : Heap} {locs : List Loc} {ls : Array Slot} {L : zLc} {g : zSg} {st : List Value} {ax : List Nat}
theorem zws_len {cy : Nat → ClassId} {bs : Nat} {g : zSg} : (zws cy bs g).length = zN g - 1 := by simp [zws]
/-- a new cell's address is known -/
theorem zfresh {q sl' : Nat} {ev : va_E} {H1 : Heap} {locs1 : List Loc} {gf : JFrame} (hR : zRp D cy bs Ln xs g H) (hsz : s.heap.size + k = bs + zN g) (hP1 : va_P D vwCl (zws cy bs g ++ [(q, ev)]) H1) (hD1 : va_D (zAs bs) (zws cy bs g ++ [(q, ev)])) (kk : q = bs + zN g → W p l e R s m args below meth c H1 locs1 (k + 1) sl' Q gf) : W p l e R s m args below meth c H1 locs1 (k + 1) sl' Q gf := by
  intro T hT X
  have h1 := X.heapSize
  rw [hT] at h1
  have hlast : (zws cy bs g ++ [(q, ev)])[zN g - 1]? = some (q, ev) := by rw [List.getElem?_append_right (by rw [zws_len]; omega), zws_len]; simp
  have h2 : q < H1.size := (hP1 _ _ hlast).lt
  have h3 : bs < q := hD1.2 _ _ hlast
  have hN := hR.1
  have h4 : bs + zN g ≤ q := by
    rcases Nat.lt_or_ge q (bs + zN g) with z | z
    · exfalso
      have hi : (zws cy bs g ++ [(q, ev)])[q - bs - 1]? = some (bs + (q - bs), zce cy bs g (q - bs)) := by
        rw [List.getElem?_append_left (by rw [zws_len]; omega)]
        exact zws_at (by omega) (by omega)
      have := hD1.1 _ _ _ _ hi hlast (show bs + (q - bs) = q by omega)
      omega
    · exact z
  exact kk (by omega) T hT X
theorem zRp.push {g' : zSg} {ev : va_E} {H1 : Heap} (h : zRp D cy bs Ln xs g H) (hn : zN g' = zN g + 1) (he : zce cy bs g' (zN g) = ev) (ho : ∀ j, j ≠ zN g → zce cy bs g' j = zce cy bs g j) (hP : va_P D vwCl (zws cy bs g ++ [(bs + zN g, ev)]) H1) (hC : ∀ j, j ≠ zN g → zC g' j = zC g j) (hC2 : zC g' (zN g) ≤ 102) (hL0 : zLn g' 0 = zLn g 0) (hA0 : zA g' 0 = zA g 0) : zRp D cy bs Ln xs g' H1 := by
  rw [zws_push h.1 hn he ho] at hP
  have h1 := h.1
  refine ⟨by omega, hP, ⟨by rw [hC 0 (by omega)]; exact h.2.2.1.1, by rw [hL0]; exact h.2.2.1.2.1, by rw [hA0]; exact h.2.2.1.2.2⟩, fun j hj => by rw [hC j (by omega)]; exact h.2.2.2.1 j (by omega), fun j hj => ?_⟩
  by_cases hq : j = zN g
  · subst hq; omega
  · rw [hC j hq]; exact h.2.2.2.2 j hj
theorem zs_new {call : Nat → List Value → zSg → Option zRs} {e0 i : Nat} {out : zOut} (C : zCx p R s m args meth c D cy b bs Ln xs y) (hA : zAt s D cy b bs Ln xs y k sl H locs ls L g) (hd : decode (zby y) pc = .ok (.new i, 3)) (hF : zCT[zx ax 2]? = some (zon.getD y 0, i, zx ax 0)) (h8 : zx ax 0 < 8) (hnf : zx ax 1 = (zfk.getD (zx ax 0) []).length) (hs : zstep call (zal.getD y (0, 0)) (e0, .new i, 3, ax) pc k sl L st g = some out) (kk : zTo p l e R s m args below meth c Q D cy b bs Ln xs y out) : zG p l e R s m args below meth c Q b bs H locs k sl pc ls st := by
  obtain ⟨⟨hx, hb, hml, hown, hret, hlocks, hname⟩, hts, hK, hN, hX, hfr, hlo, hal⟩ := C
  obtain ⟨q1, q2, q3, q4, ty0, q5, q6⟩ := zcl_ok _ h8
  simp only [zstep] at hs
  split at hs
  · next hc =>
    cases hs
    have hN1 := hA.2.1.1
    have hcl : Cond.classLink (zow y) i (zcl (zx ax 0)).1 ∈ zW := zCT_in hF
    have hini : Cond.initialized (zcl (zx ax 0)).1 ∈ zW := by
      obtain ⟨e1, e2⟩ := zvc_ok _ h8
      rw [e1]
      exact zini_in e2
    refine va_new (fs := zfs bs (zN g + 1, va_up (zC g) (zN g) (zx ax 0), zLn g, va_up (zF g) (zN g) (fun _ => 0), va_up (zI g) (zN g) (fun _ => 0), zA g) (zx ax 0) (zN g)) hx hb hts q2 ty0 q5 hown (hts _ hcl) (hts _ (zinst_in h8)) (hts _ hini) hK hA.2.1.2.1 (zws_D cy bs g) hA.2.2.1 (fun q h => show bs < q from Nat.lt_of_lt_of_le hX.2.2 h) q1 (fun j hj => ?_) (Nat.le_trans hc.1 hal.1) (Nat.le_trans (by rw [q3, ← hnf]; exact hc.2) hal.2) hd (fun q H1 hP1 hD1 hS1 => ?_)
    · have h1 := zfs_at (bs := bs) (g := (zN g + 1, va_up (zC g) (zN g) (zx ax 0), zLn g, va_up (zF g) (zN g) (fun _ => 0), va_up (zI g) (zN g) (fun _ => 0), zA g)) (ci := zx ax 0) (i := zN g) (k := j) (by rw [← q3]; exact hj)
      unfold vp_V
      rw [List.getD_eq_getElem?_getD, h1]
      rcases q6 j hj with ⟨a1, a2⟩ | ⟨a1, a2⟩ | ⟨a1, ⟨C, a2⟩ | ⟨C, a2⟩⟩ <;> rw [a1, a2] <;> simp [defaultValue, zI, zF, va_up, zor, va_rf]
    · refine zfresh hA.2.1 hA.2.2.2.1 hP1 hD1 (fun hq => ?_)
      subst hq
      have e1 : zv b bs (.ref (zN g)) = .ref (bs + zN g) := by
        show Value.ref (zad b bs _) = _
        rw [zad_pos (by omega)]
      rw [← e1]
      rw [show sl + (zcl (zx ax 0)).2.2 = sl + zx ax 1 by rw [q3, hnf]]
      refine kk H1 locs ls ⟨hA.1, ?_, hS1, ?_⟩
      · refine hA.2.1.push rfl ?_ (fun j hj => zce_congr (va_up_ne _ _ hj) rfl rfl (va_up_ne _ _ hj) (va_up_ne _ _ hj)) hP1 (fun j hj => va_up_ne _ _ hj) (by simp [zC, va_up]; omega) rfl rfl
        rw [zce_obj (by simp [zC, va_up]; omega)]
        simp [zC, va_up]
      · exact ⟨by have := hA.2.2.2.1; show s.heap.size + (k + 1) = bs + (zN g + 1); omega, hc.1, hc.2⟩
  · cases hs
theorem ztb {n : Int32} (h : n.toNatClampNeg ≤ 1000) (w : Nat) (hw : w ≤ 4) : n.toNatClampNeg * w ≤ 536870912 := by
  have : n.toNatClampNeg * w ≤ 1000 * 4 := Nat.mul_le_mul h hw
  omega
theorem zs_newarray {call : Nat → List Value → zSg → Option zRs} {e0 : Nat} {t : ArrayType} {out : zOut} (C : zCx p R s m args meth c D cy b bs Ln xs y) (hA : zAt s D cy b bs Ln xs y k sl H locs ls L g) (hd : decode (zby y) pc = .ok (.newarray t, 2)) (ht : (t = .int ∧ zx ax 0 = 100) ∨ (t = .boolean ∧ zx ax 0 = 101)) (hs : zstep call (zal.getD y (0, 0)) (e0, .newarray t, 2, ax) pc k sl L st g = some out) (kk : zTo p l e R s m args below meth c Q D cy b bs Ln xs y out) : zG p l e R s m args below meth c Q b bs H locs k sl pc ls st := by
  obtain ⟨⟨hx, hb, hml, hown, hret, hlocks, hname⟩, hts, hK, hN, hX, hfr, hlo, hal⟩ := C
  simp only [zstep] at hs
  unfold zi1 at hs
  split at hs
  · next n r =>
    dsimp only at hs
    split at hs
    · next hc =>
      cases hs
      have hN1 := hA.2.1.1
      have fin : ∀ (tg : Nat) (ti : Nat) (cA : ClassId) (q : Nat) (H1 : Heap), zx ax 0 = tg → (tg = 100 ∧ ti = 0 ∨ tg = 101 ∧ ti = 1) → cA = cy ti → va_P D vwCl (zws cy bs g ++ [(q, .inl (cA, (n.toNatClampNeg, .inl (fun _ => 0))))]) H1 → va_D (zAs bs) (zws cy bs g ++ [(q, .inl (cA, (n.toNatClampNeg, .inl (fun _ => 0))))]) → va_S (zAs bs) s.heap H1 locs → W p l e R s m args below meth c H1 locs (k + 1) (sl + n.toNatClampNeg) Q (F0 m (pc + 2) ls (.ref q :: r.map (zv b bs))) := by
        intro tg ti cA q H1 htg hti hcA hP1 hD1 hS1
        refine zfresh hA.2.1 hA.2.2.2.1 hP1 hD1 (fun hq => ?_)
        subst hq
        subst hcA
        have e1 : zv b bs (.ref (zN g)) = .ref (bs + zN g) := by
          show Value.ref (zad b bs _) = _
          rw [zad_pos (by omega)]
        rw [← e1]
        refine kk H1 locs ls ⟨hA.1, ?_, hS1, ?_⟩
        · refine hA.2.1.push rfl ?_ (fun j hj => zce_congr (va_up_ne _ _ hj) (va_up_ne _ _ hj) (va_up_ne _ _ hj) rfl rfl) hP1 (fun j hj => va_up_ne _ _ hj) (by simp [zC, va_up]; omega) (va_up_ne _ _ (by omega)) (va_up_ne _ _ (by omega))
          rcases hti with ⟨h1, h2⟩ | ⟨h1, h2⟩
          · rw [zce_100 (by simp [zC, va_up]; omega), h2]
            simp [zA, zLn, va_up]
          · rw [zce_101 (by simp [zC, va_up]; omega), h2]
            simp [zA, zLn, va_up]
        · exact ⟨by have := hA.2.2.2.1; show s.heap.size + (k + 1) = bs + (zN g + 1); omega, hc.2.2.1, hc.2.2.2⟩
      rcases ht with ⟨rfl, h0⟩ | ⟨rfl, h0⟩
      · refine va_newa (atype := .int) (ty := .int) (a0 := (n.toNatClampNeg, .inl (fun _ => 0))) hx hb (hts _ (zspec_in (Cond.arrayClass .int) (by simp))) rfl hK hA.2.1.2.1 (zws_D cy bs g) hA.2.2.1 (fun q h => show bs < q from Nat.lt_of_lt_of_le hX.2.2 h) (fun cA => rfl) hc.1 rfl (ztb hc.2.1 4 (by omega)) (Nat.le_trans hc.2.2.1 hal.1) (Nat.le_trans hc.2.2.2 hal.2) hd (fun q cA H1 hK1 hP1 hD1 hS1 => ?_)
        refine fin 100 0 cA q H1 h0 (Or.inl ⟨rfl, rfl⟩) ?_ hP1 hD1 hS1
        have a1 := (hK1.2 3 (cA, .int) rfl).2
        have a2 := (hK.2 0 (cy 0, .int) rfl).2
        exact Option.some.inj (a1.symm.trans a2)
      · refine va_newa (atype := .boolean) (ty := .boolean) (a0 := (n.toNatClampNeg, .inl (fun _ => 0))) hx hb (hts _ (zspec_in (Cond.arrayClass .boolean) (by simp))) rfl hK hA.2.1.2.1 (zws_D cy bs g) hA.2.2.1 (fun q h => show bs < q from Nat.lt_of_lt_of_le hX.2.2 h) (fun cA => rfl) hc.1 rfl (ztb hc.2.1 1 (by omega)) (Nat.le_trans hc.2.2.1 hal.1) (Nat.le_trans hc.2.2.2 hal.2) hd (fun q cA H1 hK1 hP1 hD1 hS1 => ?_)
        refine fin 101 1 cA q H1 h0 (Or.inr ⟨rfl, rfl⟩) ?_ hP1 hD1 hS1
        have a1 := (hK1.2 3 (cA, .boolean) rfl).2
        have a2 := (hK.2 1 (cy 1, .boolean) rfl).2
        exact Option.some.inj (a1.symm.trans a2)
    · cases hs
  · cases hs
theorem zs_anewarray {call : Nat → List Value → zSg → Option zRs} {e0 i : Nat} {out : zOut} (C : zCx p R s m args meth c D cy b bs Ln xs y) (hA : zAt s D cy b bs Ln xs y k sl H locs ls L g) (hd : decode (zby y) pc = .ok (.anewarray i, 3)) (hF : zCT[zx ax 2]? = some (zon.getD y 0, i, 4)) (hs : zstep call (zal.getD y (0, 0)) (e0, .anewarray i, 3, ax) pc k sl L st g = some out) (kk : zTo p l e R s m args below meth c Q D cy b bs Ln xs y out) : zG p l e R s m args below meth c Q b bs H locs k sl pc ls st := by
  obtain ⟨⟨hx, hb, hml, hown, hret, hlocks, hname⟩, hts, hK, hN, hX, hfr, hlo, hal⟩ := C
  simp only [zstep] at hs
  unfold zi1 at hs
  split at hs
  · next n r =>
    dsimp only at hs
    split at hs
    · next hc =>
      cases hs
      have hN1 := hA.2.1.1
      have hcl : Cond.classLink (zow y) i RX4 ∈ zW := zCT_in hF
      refine va_newq (C := RX4) hx hb hown (hts _ hcl) hN.1 hK hA.2.1.2.1 (zws_D cy bs g) hA.2.2.1 (fun q h => show bs < q from Nat.lt_of_lt_of_le hX.2.2 h) hc.1 rfl (ztb hc.2.1 4 (by omega)) (Nat.le_trans hc.2.2.1 hal.1) (Nat.le_trans hc.2.2.2 hal.2) hd (fun q cA H1 hK1 hP1 hD1 hS1 => ?_)
      have hcA : cA = cy 2 := by
        obtain ⟨_, _, _, _, _, a1⟩ := (hK1.2 3 (cA, .object RX4) rfl).2
        obtain ⟨_, _, _, _, _, a2⟩ := (hK.2 2 (cy 2, .object RX4) rfl).2
        exact Option.some.inj (a1.symm.trans a2)
      subst hcA
      refine zfresh hA.2.1 hA.2.2.2.1 hP1 hD1 (fun hq => ?_)
      subst hq
      have e1 : zv b bs (.ref (zN g)) = .ref (bs + zN g) := by
        show Value.ref (zad b bs _) = _
        rw [zad_pos (by omega)]
      rw [← e1]
      refine kk H1 locs ls ⟨hA.1, ?_, hS1, ?_⟩
      · refine hA.2.1.push rfl ?_ (fun j hj => zce_congr (va_up_ne _ _ hj) (va_up_ne _ _ hj) rfl (va_up_ne _ _ hj) rfl) hP1 (fun j hj => va_up_ne _ _ hj) (by simp [zC, va_up]) (va_up_ne _ _ (by omega)) rfl
        rw [zce_102 (by simp [zC, va_up])]
        simp [zF, zLn, va_up, zor]
      · exact ⟨by have := hA.2.2.2.1; show s.heap.size + (k + 1) = bs + (zN g + 1); omega, hc.2.2.1, hc.2.2.2⟩
    · cases hs
  · cases hs
end zS4
