/-! every method by its steps; the law by its own -/
theorem zal_600 : ∀ z, z < 164 → (zal.getD z (0, 0)).1 ≠ 600000 := by decide +kernel
theorem zsound (l : Launch) (D : va_G) (cy : Nat → ClassId) (b bs Ln : Nat) (xs : Nat → Int32) : ∀ n z as g q, (zal0 as).length ≤ zml.getD z 0 → zex n z 0 0 0 (zpad (zml.getD z 0) (zal0 as)) [] g = some q → z < 165 → z ≠ 164 → zMet l D cy b bs Ln xs z as g q := by
  intro n
  induction n using Nat.strongRecOn with
  | ind n ih =>
    intro z as g q hlen h hz h4
    obtain ⟨m1, m2, m3, m4, m5, m6⟩ := zmisc_spec hz
    refine Met.ofW (cc := zby z) (maxL := zmx z) (ret := zrt z) m1 rfl ?_
    intro p e s m args below meth c s₁ B hml hP
    obtain ⟨rfl, hR, hsz, hK, hN, hX, hbb⟩ := hP
    have hts0 := atoms_spec (ws := zWs z) B.pre
    have hts : ∀ w ∈ zW, w.before ((as.map (zv b bs)).toArray) s = true := fun w hw => hts0 w (List.mem_cons_of_mem _ hw)
    have hown : s.vm.findClass (zow z) = some m.cls := by rw [← m3]; exact findClass_of_methodNamed B.named
    have hN1 := hR.1
    have hlocks := B.notSynchronized
    have hret := B.returns
    have hx := B.exec
    have hb := B.bytes
    rw [lg_entry_eq]
    rw [m6] at hlen h
    refine zs_run (n := n) (y := z) (r := q) (fun n' hn' z as g q hl hq hz h4 => ih n' hn' z as g q hl hq hz h4) ⟨⟨hx, hb, hml, hown, hret, hlocks, fun _ => (name_of_methodNamed B.named B.method).1⟩, hts, hK, hN, ⟨hX, hbb, by omega⟩, Nat.le_refl _, Nat.le_refl _, Nat.le_refl _, Nat.le_refl _⟩ ?_ n (Nat.le_refl n) 0 0 0 _ [] g s.heap [] _ ⟨zLH_entry b bs as hlen, hR, va_S.rf, by omega, Nat.zero_le _, Nat.zero_le _⟩ h
    intro pc k sl H locs ls hR' hS hk hsl hsz' hex hcase
    have hk6 := zal_600 z (by omega)
    have hex2 : k = (zal.getD z (0, 0)).1 := by
      rcases hex with h | h
      · exact h
      · exact absurd h hk6
    refine W.widen hk hsl ?_
    obtain ⟨q1, q2⟩ := q
    rcases hcase with ⟨v, e1, hd, hrt⟩ | ⟨v, e1, hd, hrt⟩ | ⟨e1, hd, hrt⟩
    · simp only at e1
      subst e1
      rcases hrt with hrt | ⟨hrt, hv⟩
      · exact W.iret (v := v) hx hb (hret.trans hrt) (fun t ht hW => ⟨⟨rfl, by rw [ht]; exact hR', by rw [← hex2]; exact hsz'⟩, hS.F ht⟩) hS.2.2 hd hlocks
      · exact W.zret (v := v) (ty := .boolean) hx hb (hret.trans hrt) (znar_b hv) (fun t ht hW => ⟨⟨rfl, by rw [ht]; exact hR', by rw [← hex2]; exact hsz'⟩, hS.F ht⟩) hS.2.2 hd hlocks
    · simp only at e1
      subst e1
      exact W.lret (v := v) hx hb (hret.trans hrt) (fun t ht hW => ⟨⟨rfl, by rw [ht]; exact hR', by rw [← hex2]; exact hsz'⟩, hS.F ht⟩) hS.2.2 hd hlocks
    · simp only at e1
      subst e1
      exact W.vret hx hb (hret.trans hrt) (fun t ht hW => ⟨⟨rfl, by rw [ht]; exact hR', by rw [← hex2]; exact hsz'⟩, hS.F ht⟩) hS.2.2 hd hlocks
/-- the state with which the law begins: the script is cell 0 -/
def zg0 (Ln : Nat) (xs : Nat → Int32) : zSg := (1, fun i => if i = 0 then 103 else 200, fun i => if i = 0 then Ln else 0, fun _ _ => 0, fun _ _ => 0, fun i => if i = 0 then xs else fun _ => 0)
