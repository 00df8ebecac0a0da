/-! the law's loop: every call, answered alike -/
theorem lg_self (x : Int64) : lg_cmp x x = 0 := by
  have h1 : ¬ lg_cmp x x < 0 := by rw [lgN]; omega
  have h2 : ¬ 0 < lg_cmp x x := by rw [lgP]; omega
  have h3 : ¬ (lg_cmp x x).toInt < 0 := fun q => h1 (zlt0.mpr q)
  have h4 : ¬ 0 < (lg_cmp x x).toInt := fun q => h2 (by rw [Int32.lt_iff_toInt_lt]; exact q)
  exact Int32.toInt_inj.mp (show (lg_cmp x x).toInt = 0 by omega)
theorem law_all {Ln : Nat} {xs : Nat → Int32} {I A : Nat → Nat → Int32} (hL : Ln ≤ 384) (hv : INV xs I A) : W_L_law_r0 Ln I A 0 (fun x _ _ => x = 1) := by
  unfold W_L_law_r0
  have hln : Int32.ofNat Ln - 6 = zi ((Ln : Int) - 6) := by
    show zi (Ln : Int) - zi 6 = _
    rw [zi_sub]
  refine zLoop.inv (fun i σ => σ.1 = zi ((6 * i : Nat) : Int) ∧ INV xs σ.2.1 σ.2.2) (Ln / 6) ⟨rfl, hv⟩ ?_ ?_
  · rintro i ⟨v3, I, A⟩ hi ⟨g1, hv⟩ K hk
    simp only at g1 hv
    subst g1
    have h6 : 6 * i + 6 ≤ Ln := by omega
    have hzz : ∀ (j : Nat) (y : Int32), y = zi (j : Int) → j ≤ 5 → zin (zi ((6 * i : Nat) : Int) + y) Ln = true := by
      rintro j y rfl hj
      rw [zi_add, show ((6 * i : Nat) : Int) + (j : Int) = ((6 * i + j : Nat) : Int) from by omega]
      exact zin_n (by omega) (by omega)
    have z0 : zin (zi ((6 * i : Nat) : Int)) Ln = true := zin_n (by omega) (by omega)
    have z1 := hzz 1 1 rfl (by decide)
    have z2 := hzz 2 2 rfl (by decide)
    have z3 := hzz 3 3 rfl (by decide)
    have z4 := hzz 4 4 rfl (by decide)
    have z5 := hzz 5 5 rfl (by decide)
    have hK : ∀ I2 A2 : Nat → Nat → Int32, INV xs I2 A2 → J_L_law_r0_1072 Ln I2 A2 (zi ((6 * i : Nat) : Int)) K (fun x _ _ => x = 1) := by
      intro I2 A2 h
      unfold J_L_law_r0_1072
      refine hk _ ⟨?_, h⟩
      dsimp only
      rw [zq6, zi_add]; rfl
    have hR : ∀ (u : Nat) (hu : u ≤ 1) (s3 : Int32), s3 = zi u → (∀ B : Nat → Nat → Int32, B 0 = A 0 → ((B 0 (zi ((6 * i : Nat) : Int) + 3).toNatClampNeg : Int32) = 0 → u = 0) ∧ (¬ (B 0 (zi ((6 * i : Nat) : Int) + 3).toNatClampNeg : Int32) = 0 → u = 1)) → ∀ s1 : Int32, s1 = A 0 (zi ((6 * i : Nat) : Int) + 1).toNatClampNeg → ∀ s2 : Int32, s2 = A 0 (zi ((6 * i : Nat) : Int) + 2).toNatClampNeg → J_L_law_r0_634_s4 Ln I A (zi ((6 * i : Nat) : Int)) s1 s2 s3 K (fun x _ _ => x = 1) := by
      rintro u hu s3 rfl hc s1 rfl s2 rfl
      unfold J_L_law_r0_634_s4
      refine OP_reading hu hv (fun x I1 A1 h0 hQ => ?_)
      obtain ⟨hc0, hc1⟩ := hc A1 h0
      refine ⟨z1, z2, z3, fun c x78 e78 x79 e79 => ?_, fun c x83 e83 x84 e84 => ?_⟩
      · have := hc0 c
        subst this
        rw [e78, e79, h0]
        unfold J_L_law_r0_661_s5
        exact hQ _ (fun I2 A2 h => ⟨fun _ => hK I2 A2 h, fun q => absurd rfl q⟩)
      · have := hc1 c
        subst this
        rw [e83, e84, h0]
        unfold J_L_law_r0_661_s5
        exact hQ _ (fun I2 A2 h => ⟨fun _ => hK I2 A2 h, fun q => absurd rfl q⟩)
    simp only [L_L_law_r0_18]
    refine ⟨fun _ => trivial, fun _ => ⟨z0, fun _ => ⟨z1, z2, z3, z4, OP_bank hv (fun x I1 A1 h0 hQ => ⟨z1, z2, z3, z4, by rw [h0]; exact hQ _ (fun I2 A2 h => ⟨fun _ => hK I2 A2 h, fun c => absurd rfl c⟩)⟩)⟩,
      fun _ => ⟨z1, z2, OP_ofShade hv (fun x hQ => ⟨z1, z2, hQ _ ⟨fun _ => hK I A hv, fun c => absurd rfl c⟩⟩)⟩,
      fun _ => ⟨z1, OP_law hv (fun x I1 A1 h0 hQ => ⟨z1, by rw [h0]; exact hQ _ (fun I2 h => ⟨fun _ => hK I2 A1 h, fun c => absurd rfl c⟩)⟩)⟩,
      fun _ => ⟨z1, z2, z3, OP_loan hv (fun x I1 A1 h0 hQ => ⟨z1, z2, z3, by rw [h0]; exact hQ _ (fun I2 A2 h => ⟨fun _ => hK I2 A2 h, fun c => absurd rfl c⟩)⟩)⟩,
      fun _ => ⟨z1, OP_undo hv (fun x I1 A1 h0 hQ => ⟨z1, by rw [h0]; exact hQ _ (fun I2 A2 h => ⟨fun _ => hK I2 A2 h, fun c => absurd rfl c⟩)⟩)⟩,
      fun _ => ⟨z1, OP_over hv (fun x hQ => ⟨z1, hQ _ (fun I2 A2 h => ⟨fun _ => hK I2 A2 h, fun c => absurd rfl c⟩)⟩)⟩,
      fun _ => ⟨z1, OP_overBy hv (fun x hQ => ⟨z1, hQ _ (fun I2 A2 h => ⟨fun _ => hK I2 A2 h, fun c => absurd rfl c⟩)⟩)⟩,
      fun _ => ⟨z1, OP_rower hv (fun x hQ => ⟨z1, hQ _ (fun I2 A2 h => ⟨fun _ => hK I2 A2 h, fun c => absurd rfl c⟩)⟩)⟩,
      fun _ => ⟨z1, OP_sits hv (fun x hQ => ⟨z1, hQ _ (fun I2 A2 h => ⟨fun _ => hK I2 A2 h, fun c => absurd rfl c⟩)⟩)⟩,
      fun _ => ⟨z1, OP_waits hv (fun x hQ => ⟨z1, hQ _ (fun I2 A2 h => ⟨fun _ => hK I2 A2 h, fun c => absurd rfl c⟩)⟩)⟩,
      fun _ => OP_allWait hv (fun x hQ => hQ _ (fun I2 A2 h => ⟨fun _ => hK I2 A2 h, fun c => absurd rfl c⟩)),
      fun _ => ⟨z1, z2, z3, z4, OP_crossings hv (fun x I1 hQ => ⟨z1, z2, z3, z4, hQ _ (fun I2 h => ⟨fun _ => hK I2 A h, fun c => absurd rfl c⟩)⟩)⟩,
      fun _ => OP_least hv (fun x A1 h0 hQ => hQ _ (fun A2 h => ⟨fun _ => hK I A2 h, fun c => absurd rfl c⟩)),
      fun _ => ⟨z1, OP_laws hv (fun x A1 h0 hQ => ⟨z1, by rw [h0]; exact hQ _ (fun I2 A2 h => ⟨fun _ => hK I2 A2 h, fun c => absurd rfl c⟩)⟩)⟩,
      fun _ => ⟨z1, OP_gain hv (fun x A1 h0 hQ => ⟨z1, by rw [h0]; exact hQ _ (fun I2 A2 h => ⟨fun _ => hK I2 A2 h, fun c => absurd rfl c⟩)⟩)⟩,
      fun _ => ⟨z1, OP_favours hv (fun x A1 h0 hQ => ⟨z1, by rw [h0]; exact hQ _ (fun I2 A2 h => ⟨fun _ => hK I2 A2 h, fun c => absurd rfl c⟩)⟩)⟩,
      fun _ => ⟨z1, z2, z3, fun c x73 e73 x74 e74 => hR 0 (by decide) _ rfl (fun B hB => by rw [hB]; exact ⟨fun _ => rfl, fun q => absurd c q⟩) x73 e73 x74 e74, fun c x85 e85 x86 e86 => hR 1 (by decide) _ rfl (fun B hB => by rw [hB]; exact ⟨fun q => absurd q c, fun _ => rfl⟩) x85 e85 x86 e86⟩,
      fun _ => ⟨z1, OP_back hv (fun x I1 hQ => ⟨z1, hQ _ (fun I2 h => ⟨fun _ => hK I2 A h, fun c => absurd rfl c⟩)⟩)⟩,
      fun _ => ⟨z1, OP_payers hv (fun x A1 h0 hQ => ⟨z1, by rw [h0]; exact hQ _ (fun I2 A2 h => ⟨fun _ => hK I2 A2 h, fun c => absurd rfl c⟩)⟩)⟩,
      fun _ => OP_rules hv (fun x A1 h0 hQ => hQ _ (fun I2 A2 h => ⟨fun _ => hK I2 A2 h, fun c => absurd rfl c⟩)),
      fun _ => ⟨z1, z2, z3, OP_sheet hv (fun x I1 A1 h0 hQ => ⟨z1, z2, z3, by rw [h0]; exact hQ _ (fun I2 A2 h => ⟨fun _ => hK I2 A2 h, fun c => absurd rfl c⟩)⟩)⟩,
      fun _ => ⟨z1, OP_lose hv (fun x I1 hQ => ⟨z1, hQ _ (fun A2 h => ⟨fun _ => hK I1 A2 h, fun c => absurd rfl c⟩)⟩)⟩,
      fun _ => ⟨z1, z2, z3, OP_put hv (fun x I1 A1 h0 hQ => ⟨z1, z2, z3, by rw [h0]; exact hQ _ (fun I2 A2 h => ⟨fun _ => hK I2 A2 h, fun c => absurd rfl c⟩)⟩)⟩,
      fun _ => ⟨z1, z2, z3, OP_cell hv (fun x I1 hQ => ⟨z1, z2, z3, hQ _ (fun I2 h => ⟨fun _ => hK I2 A h, fun c => absurd (lg_self x) c⟩)⟩)⟩,
      fun _ => ⟨z1, z2, z3, z4, z5, OP_copy hv (fun x I1 A1 h0 hQ => ⟨z1, z2, z3, z4, z5, by rw [h0]; exact hQ _ (fun I2 A2 h => ⟨fun _ => hK I2 A2 h, fun c => absurd rfl c⟩)⟩)⟩,
      fun _ => ⟨z1, OP_tell hv (fun x I1 hQ => ⟨z1, hQ _ (fun I2 h => ⟨fun _ => hK I2 A h, fun c => absurd rfl c⟩)⟩)⟩,
      fun _ => ⟨z1, OP_hail hv (fun x I1 hQ => ⟨z1, hQ _ (fun I2 h => ⟨fun _ => hK I2 A h, fun c => absurd rfl c⟩)⟩)⟩,
      fun _ => ⟨z1, z2, OP_as hv (fun x I1 hQ => ⟨z1, z2, hQ _ (fun I2 h => ⟨fun _ => hK I2 A h, fun c => absurd rfl c⟩)⟩)⟩,
      fun _ => OP_trace hv (fun x hQ => hQ _ ⟨fun _ => hK I A hv, fun c => absurd rfl c⟩),
      fun _ => OP_fault hv (fun x hQ => hQ _ ⟨fun _ => hK I A hv, fun c => absurd rfl c⟩),
      fun _ => ⟨z1, OP_many hv (fun x hQ => ⟨z1, hQ _ ⟨fun _ => hK I A hv, fun c => absurd rfl c⟩⟩)⟩, fun _ _ _ _ _ _ _ _ _ _ _ _ _ _ _ _ _ _ _ _ _ _ _ _ _ _ _ _ _ _ _ => hK I A hv⟩⟩
  · rintro ⟨v3, I, A⟩ ⟨g1, hv⟩ K
    simp only at g1 hv
    subst g1
    simp only [L_L_law_r0_18]
    refine ⟨fun _ => trivial, fun c => absurd ?_ c⟩
    rw [hln, zi_lt (by omega) (by omega) (by omega) (by omega)]
    omega
