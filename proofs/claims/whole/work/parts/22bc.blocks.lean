/-! blocks, by program (wip/whole/gen_blk.py): 22b.sheet 2 -/
set_option maxRecDepth 100000 in
theorem B_X5_kindOf_32 (Ln : Nat) (I A : Nat → Nat → Int32) (v0 : Int32)   : zEv 31 32 0 0 [some (.int v0)] [] (zGs Ln I A) (some (.int 0), zGs Ln (I) (A)) := 
  zEv.lift 1 (fun _ => by with_unfolding_all rfl) (show zEv 31 33 0 0 [some (.int v0)] [.int 0] (zGs Ln I A) (some (.int 0), zGs Ln (I) (A)) from zEv.ret rfl)
set_option maxRecDepth 100000 in
theorem B_X5_mayStandInHead_0 (Ln : Nat) (I A : Nat → Nat → Int32) (v0 : Int32) (v1 : Int32) (v2 : Int32) {r : zRs}  (k0 : (v0 : Int32).toInt = 0 → zEv 28 32 0 0 [some (.int v0), some (.int v1), some (.int v2)] [] (zGs Ln I A) r) (k1 : (v0 : Int32).toInt = 1 → zEv 28 70 0 0 [some (.int v0), some (.int v1), some (.int v2)] [] (zGs Ln I A) r) (k2 : (v0 : Int32).toInt = 2 → zEv 28 44 0 0 [some (.int v0), some (.int v1), some (.int v2)] [] (zGs Ln I A) r) (k3 : (v0 : Int32).toInt = 3 → zEv 28 52 0 0 [some (.int v0), some (.int v1), some (.int v2)] [] (zGs Ln I A) r) (kd : ¬ (v0 : Int32).toInt = 0 → ¬ (v0 : Int32).toInt = 1 → ¬ (v0 : Int32).toInt = 2 → ¬ (v0 : Int32).toInt = 3 → zEv 28 70 0 0 [some (.int v0), some (.int v1), some (.int v2)] [] (zGs Ln I A) r) : zEv 28 0 0 0 [some (.int v0), some (.int v1), some (.int v2)] [] (zGs Ln I A) r := 
  zEv.lift 1 (fun _ => by with_unfolding_all rfl) (show zEv 28 1 0 0 [some (.int v0), some (.int v1), some (.int v2)] [.int v0] (zGs Ln I A) r from (by
    by_cases c0 : (v0 : Int32).toInt = 0
    · exact zEv.swt (off := 31) (tgt := 32) rfl (by simp [zsw, zkeys, c0]) rfl (k0 c0)
    · by_cases c1 : (v0 : Int32).toInt = 1
      · exact zEv.swt (off := 69) (tgt := 70) rfl (by simp [zsw, zkeys, c1]) rfl (k1 c1)
      · by_cases c2 : (v0 : Int32).toInt = 2
        · exact zEv.swt (off := 43) (tgt := 44) rfl (by simp [zsw, zkeys, c2]) rfl (k2 c2)
        · by_cases c3 : (v0 : Int32).toInt = 3
          · exact zEv.swt (off := 51) (tgt := 52) rfl (by simp [zsw, zkeys, c3]) rfl (k3 c3)
          · exact zEv.swt (off := 69) (tgt := 70) rfl (by simp [zsw, zkeys, c0, c1, c2, c3]) rfl (kd c0 c1 c2 c3)))
set_option maxRecDepth 100000 in
theorem B_X5_mayStandInHead_32 (Ln : Nat) (I A : Nat → Nat → Int32) (v0 : Int32) (v1 : Int32) (v2 : Int32) {r : zRs}  (kt : v1 ≠ 114 → zEv 28 42 0 0 [some (.int v0), some (.int v1), some (.int v2)] [] (zGs Ln I A) r) (kf : ¬ (v1 ≠ 114) → zEv 28 38 0 0 [some (.int v0), some (.int v1), some (.int v2)] [] (zGs Ln I A) r) : zEv 28 32 0 0 [some (.int v0), some (.int v1), some (.int v2)] [] (zGs Ln I A) r := 
  zEv.lift 2 (fun _ => by with_unfolding_all rfl) (show zEv 28 35 0 0 [some (.int v0), some (.int v1), some (.int v2)] [.int 114, .int v1] (zGs Ln I A) r from zEv.br (tgt := 42) rfl rfl (fun h => kt (of_decide_eq_true h)) (fun h => kf (of_decide_eq_false h)))
set_option maxRecDepth 100000 in
theorem B_X5_mayStandInHead_38 (Ln : Nat) (I A : Nat → Nat → Int32) (v0 : Int32) (v1 : Int32) (v2 : Int32) {r : zRs}  (hk : zEv 28 43 0 0 [some (.int v0), some (.int v1), some (.int v2)] [.int 1] (zGs Ln I A) r) : zEv 28 38 0 0 [some (.int v0), some (.int v1), some (.int v2)] [] (zGs Ln I A) r := 
  zEv.lift 2 (fun _ => by with_unfolding_all rfl) (show zEv 28 43 0 0 [some (.int v0), some (.int v1), some (.int v2)] [.int 1] (zGs Ln I A) r from hk)
set_option maxRecDepth 100000 in
theorem B_X5_mayStandInHead_42 (Ln : Nat) (I A : Nat → Nat → Int32) (v0 : Int32) (v1 : Int32) (v2 : Int32) {r : zRs}  (hk : zEv 28 43 0 0 [some (.int v0), some (.int v1), some (.int v2)] [.int 0] (zGs Ln I A) r) : zEv 28 42 0 0 [some (.int v0), some (.int v1), some (.int v2)] [] (zGs Ln I A) r := 
  zEv.lift 1 (fun _ => by with_unfolding_all rfl) (show zEv 28 43 0 0 [some (.int v0), some (.int v1), some (.int v2)] [.int 0] (zGs Ln I A) r from hk)
set_option maxRecDepth 100000 in
theorem B_X5_mayStandInHead_43_s1 (Ln : Nat) (I A : Nat → Nat → Int32) (v0 : Int32) (v1 : Int32) (v2 : Int32) (s0 : Int32) (hb : s0 = 0 ∨ s0 = 1)  : zEv 28 43 0 0 [some (.int v0), some (.int v1), some (.int v2)] [.int s0] (zGs Ln I A) (some (.int s0), zGs Ln (I) (A)) := 
  (by rcases hb with hb | hb <;> rw [hb] <;> exact zEv.ret rfl)
set_option maxRecDepth 100000 in
theorem B_X5_mayStandInHead_44 (Ln : Nat) (I A : Nat → Nat → Int32) (v0 : Int32) (v1 : Int32) (v2 : Int32) {r : zRs}  {q : zRs} (hc : zEv 30 0 0 0 [some (.int v1), some (.int 0), some (.int 9)] [] (zGs Ln I A) q) {w : Int32} (hn : q.1 = some (.int w)) (hk : zEv 28 51 0 0 [some (.int v0), some (.int v1), some (.int v2)] (.int w :: []) q.2 r) : zEv 28 44 0 0 [some (.int v0), some (.int v1), some (.int v2)] [] (zGs Ln I A) r := 
  zEv.lift 3 (fun _ => by with_unfolding_all rfl) (show zEv 28 48 0 0 [some (.int v0), some (.int v1), some (.int v2)] [.int 9, .int 0, .int v1] (zGs Ln I A) r from zEv.call (as := [.int v1, .int 0, .int 9]) rfl (fun _ => rfl) (Nat.le_of_ble_eq_true rfl) hc (by rw [hn]; exact hk))
set_option maxRecDepth 100000 in
theorem B_X5_mayStandInHead_51_s1 (Ln : Nat) (I A : Nat → Nat → Int32) (v0 : Int32) (v1 : Int32) (v2 : Int32) (s0 : Int32) (hb : s0 = 0 ∨ s0 = 1)  : zEv 28 51 0 0 [some (.int v0), some (.int v1), some (.int v2)] [.int s0] (zGs Ln I A) (some (.int s0), zGs Ln (I) (A)) := 
  (by rcases hb with hb | hb <;> rw [hb] <;> exact zEv.ret rfl)
set_option maxRecDepth 100000 in
theorem B_X5_mayStandInHead_52 (Ln : Nat) (I A : Nat → Nat → Int32) (v0 : Int32) (v1 : Int32) (v2 : Int32) {r : zRs}  (kt : v2 ≠ 48 → zEv 28 63 0 0 [some (.int v0), some (.int v1), some (.int v2)] [.int v1] (zGs Ln I A) r) (kf : ¬ (v2 ≠ 48) → zEv 28 59 0 0 [some (.int v0), some (.int v1), some (.int v2)] [.int v1] (zGs Ln I A) r) : zEv 28 52 0 0 [some (.int v0), some (.int v1), some (.int v2)] [] (zGs Ln I A) r := 
  zEv.lift 3 (fun _ => by with_unfolding_all rfl) (show zEv 28 56 0 0 [some (.int v0), some (.int v1), some (.int v2)] [.int 48, .int v2, .int v1] (zGs Ln I A) r from zEv.br (tgt := 63) rfl rfl (fun h => kt (of_decide_eq_true h)) (fun h => kf (of_decide_eq_false h)))
set_option maxRecDepth 100000 in
theorem B_X5_mayStandInHead_59_s1 (Ln : Nat) (I A : Nat → Nat → Int32) (v0 : Int32) (v1 : Int32) (v2 : Int32) (s0 : Int32) {r : zRs}  (hk : zEv 28 64 0 0 [some (.int v0), some (.int v1), some (.int v2)] [.int 1, .int s0] (zGs Ln I A) r) : zEv 28 59 0 0 [some (.int v0), some (.int v1), some (.int v2)] [.int s0] (zGs Ln I A) r := 
  zEv.lift 2 (fun _ => by with_unfolding_all rfl) (show zEv 28 64 0 0 [some (.int v0), some (.int v1), some (.int v2)] [.int 1, .int s0] (zGs Ln I A) r from hk)
set_option maxRecDepth 100000 in
theorem B_X5_mayStandInHead_63_s1 (Ln : Nat) (I A : Nat → Nat → Int32) (v0 : Int32) (v1 : Int32) (v2 : Int32) (s0 : Int32) {r : zRs}  (hk : zEv 28 64 0 0 [some (.int v0), some (.int v1), some (.int v2)] [.int 0, .int s0] (zGs Ln I A) r) : zEv 28 63 0 0 [some (.int v0), some (.int v1), some (.int v2)] [.int s0] (zGs Ln I A) r := 
  zEv.lift 1 (fun _ => by with_unfolding_all rfl) (show zEv 28 64 0 0 [some (.int v0), some (.int v1), some (.int v2)] [.int 0, .int s0] (zGs Ln I A) r from hk)
set_option maxRecDepth 100000 in
theorem B_X5_mayStandInHead_64_s2 (Ln : Nat) (I A : Nat → Nat → Int32) (v0 : Int32) (v1 : Int32) (v2 : Int32) (s0 : Int32) (s1 : Int32) {r : zRs}  {q : zRs} (hc : zEv 30 0 0 0 [some (.int s0), some (.int s1), some (.int 9)] [] (zGs Ln I A) q) {w : Int32} (hn : q.1 = some (.int w)) (hk : zEv 28 69 0 0 [some (.int v0), some (.int v1), some (.int v2)] (.int w :: []) q.2 r) : zEv 28 64 0 0 [some (.int v0), some (.int v1), some (.int v2)] [.int s1, .int s0] (zGs Ln I A) r := 
  zEv.lift 1 (fun _ => by with_unfolding_all rfl) (show zEv 28 66 0 0 [some (.int v0), some (.int v1), some (.int v2)] [.int 9, .int s1, .int s0] (zGs Ln I A) r from zEv.call (as := [.int s0, .int s1, .int 9]) rfl (fun _ => rfl) (Nat.le_of_ble_eq_true rfl) hc (by rw [hn]; exact hk))
set_option maxRecDepth 100000 in
theorem B_X5_mayStandInHead_69_s1 (Ln : Nat) (I A : Nat → Nat → Int32) (v0 : Int32) (v1 : Int32) (v2 : Int32) (s0 : Int32) (hb : s0 = 0 ∨ s0 = 1)  : zEv 28 69 0 0 [some (.int v0), some (.int v1), some (.int v2)] [.int s0] (zGs Ln I A) (some (.int s0), zGs Ln (I) (A)) := 
  (by rcases hb with hb | hb <;> rw [hb] <;> exact zEv.ret rfl)
set_option maxRecDepth 100000 in
theorem B_X5_mayStandInHead_70 (Ln : Nat) (I A : Nat → Nat → Int32) (v0 : Int32) (v1 : Int32) (v2 : Int32) {r : zRs}  {q : zRs} (hc : zEv 30 0 0 0 [some (.int v1), some (.int 1), some (.int 4)] [] (zGs Ln I A) q) {w : Int32} (hn : q.1 = some (.int w)) (hk : zEv 28 76 0 0 [some (.int v0), some (.int v1), some (.int v2)] (.int w :: []) q.2 r) : zEv 28 70 0 0 [some (.int v0), some (.int v1), some (.int v2)] [] (zGs Ln I A) r := 
  zEv.lift 3 (fun _ => by with_unfolding_all rfl) (show zEv 28 73 0 0 [some (.int v0), some (.int v1), some (.int v2)] [.int 4, .int 1, .int v1] (zGs Ln I A) r from zEv.call (as := [.int v1, .int 1, .int 4]) rfl (fun _ => rfl) (Nat.le_of_ble_eq_true rfl) hc (by rw [hn]; exact hk))
set_option maxRecDepth 100000 in
theorem B_X5_mayStandInHead_76_s1 (Ln : Nat) (I A : Nat → Nat → Int32) (v0 : Int32) (v1 : Int32) (v2 : Int32) (s0 : Int32) (hb : s0 = 0 ∨ s0 = 1)  : zEv 28 76 0 0 [some (.int v0), some (.int v1), some (.int v2)] [.int s0] (zGs Ln I A) (some (.int s0), zGs Ln (I) (A)) := 
  (by rcases hb with hb | hb <;> rw [hb] <;> exact zEv.ret rfl)
set_option maxRecDepth 100000 in
theorem B_X5_mayStandInPart_0 (Ln : Nat) (I A : Nat → Nat → Int32) (v0 : Int32) (v1 : Int32) {r : zRs}  (k0 : (v0 : Int32).toInt = 0 → zEv 29 36 0 0 [some (.int v0), some (.int v1)] [] (zGs Ln I A) r) (k1 : (v0 : Int32).toInt = 1 → zEv 29 48 0 0 [some (.int v0), some (.int v1)] [] (zGs Ln I A) r) (k2 : (v0 : Int32).toInt = 2 → zEv 29 72 0 0 [some (.int v0), some (.int v1)] [] (zGs Ln I A) r) (k3 : (v0 : Int32).toInt = 3 → zEv 29 79 0 0 [some (.int v0), some (.int v1)] [] (zGs Ln I A) r) (k4 : (v0 : Int32).toInt = 4 → zEv 29 87 0 0 [some (.int v0), some (.int v1)] [] (zGs Ln I A) r) (kd : ¬ (v0 : Int32).toInt = 0 → ¬ (v0 : Int32).toInt = 1 → ¬ (v0 : Int32).toInt = 2 → ¬ (v0 : Int32).toInt = 3 → ¬ (v0 : Int32).toInt = 4 → zEv 29 94 0 0 [some (.int v0), some (.int v1)] [] (zGs Ln I A) r) : zEv 29 0 0 0 [some (.int v0), some (.int v1)] [] (zGs Ln I A) r := 
  zEv.lift 1 (fun _ => by with_unfolding_all rfl) (show zEv 29 1 0 0 [some (.int v0), some (.int v1)] [.int v0] (zGs Ln I A) r from (by
    by_cases c0 : (v0 : Int32).toInt = 0
    · exact zEv.swt (off := 35) (tgt := 36) rfl (by simp [zsw, zkeys, c0]) rfl (k0 c0)
    · by_cases c1 : (v0 : Int32).toInt = 1
      · exact zEv.swt (off := 47) (tgt := 48) rfl (by simp [zsw, zkeys, c1]) rfl (k1 c1)
      · by_cases c2 : (v0 : Int32).toInt = 2
        · exact zEv.swt (off := 71) (tgt := 72) rfl (by simp [zsw, zkeys, c2]) rfl (k2 c2)
        · by_cases c3 : (v0 : Int32).toInt = 3
          · exact zEv.swt (off := 78) (tgt := 79) rfl (by simp [zsw, zkeys, c3]) rfl (k3 c3)
          · by_cases c4 : (v0 : Int32).toInt = 4
            · exact zEv.swt (off := 86) (tgt := 87) rfl (by simp [zsw, zkeys, c4]) rfl (k4 c4)
            · exact zEv.swt (off := 93) (tgt := 94) rfl (by simp [zsw, zkeys, c0, c1, c2, c3, c4]) rfl (kd c0 c1 c2 c3 c4)))
set_option maxRecDepth 100000 in
theorem B_X5_mayStandInPart_36 (Ln : Nat) (I A : Nat → Nat → Int32) (v0 : Int32) (v1 : Int32) {r : zRs}  (kt : v1 ≠ 59 → zEv 29 46 0 0 [some (.int v0), some (.int v1)] [] (zGs Ln I A) r) (kf : ¬ (v1 ≠ 59) → zEv 29 42 0 0 [some (.int v0), some (.int v1)] [] (zGs Ln I A) r) : zEv 29 36 0 0 [some (.int v0), some (.int v1)] [] (zGs Ln I A) r := 
  zEv.lift 2 (fun _ => by with_unfolding_all rfl) (show zEv 29 39 0 0 [some (.int v0), some (.int v1)] [.int 59, .int v1] (zGs Ln I A) r from zEv.br (tgt := 46) rfl rfl (fun h => kt (of_decide_eq_true h)) (fun h => kf (of_decide_eq_false h)))
set_option maxRecDepth 100000 in
theorem B_X5_mayStandInPart_42 (Ln : Nat) (I A : Nat → Nat → Int32) (v0 : Int32) (v1 : Int32) {r : zRs}  (hk : zEv 29 47 0 0 [some (.int v0), some (.int v1)] [.int 1] (zGs Ln I A) r) : zEv 29 42 0 0 [some (.int v0), some (.int v1)] [] (zGs Ln I A) r := 
  zEv.lift 2 (fun _ => by with_unfolding_all rfl) (show zEv 29 47 0 0 [some (.int v0), some (.int v1)] [.int 1] (zGs Ln I A) r from hk)
set_option maxRecDepth 100000 in
theorem B_X5_mayStandInPart_46 (Ln : Nat) (I A : Nat → Nat → Int32) (v0 : Int32) (v1 : Int32) {r : zRs}  (hk : zEv 29 47 0 0 [some (.int v0), some (.int v1)] [.int 0] (zGs Ln I A) r) : zEv 29 46 0 0 [some (.int v0), some (.int v1)] [] (zGs Ln I A) r := 
  zEv.lift 1 (fun _ => by with_unfolding_all rfl) (show zEv 29 47 0 0 [some (.int v0), some (.int v1)] [.int 0] (zGs Ln I A) r from hk)
set_option maxRecDepth 100000 in
theorem B_X5_mayStandInPart_47_s1 (Ln : Nat) (I A : Nat → Nat → Int32) (v0 : Int32) (v1 : Int32) (s0 : Int32) (hb : s0 = 0 ∨ s0 = 1)  : zEv 29 47 0 0 [some (.int v0), some (.int v1)] [.int s0] (zGs Ln I A) (some (.int s0), zGs Ln (I) (A)) := 
  (by rcases hb with hb | hb <;> rw [hb] <;> exact zEv.ret rfl)
set_option maxRecDepth 100000 in
theorem B_X5_mayStandInPart_48 (Ln : Nat) (I A : Nat → Nat → Int32) (v0 : Int32) (v1 : Int32) {r : zRs}  (kt : v1 = 115 → zEv 29 66 0 0 [some (.int v0), some (.int v1)] [] (zGs Ln I A) r) (kf : ¬ (v1 = 115) → zEv 29 54 0 0 [some (.int v0), some (.int v1)] [] (zGs Ln I A) r) : zEv 29 48 0 0 [some (.int v0), some (.int v1)] [] (zGs Ln I A) r := 
  zEv.lift 2 (fun _ => by with_unfolding_all rfl) (show zEv 29 51 0 0 [some (.int v0), some (.int v1)] [.int 115, .int v1] (zGs Ln I A) r from zEv.br (tgt := 66) rfl rfl (fun h => kt (of_decide_eq_true h)) (fun h => kf (of_decide_eq_false h)))
set_option maxRecDepth 100000 in
theorem B_X5_mayStandInPart_54 (Ln : Nat) (I A : Nat → Nat → Int32) (v0 : Int32) (v1 : Int32) {r : zRs}  (kt : v1 = 100 → zEv 29 66 0 0 [some (.int v0), some (.int v1)] [] (zGs Ln I A) r) (kf : ¬ (v1 = 100) → zEv 29 60 0 0 [some (.int v0), some (.int v1)] [] (zGs Ln I A) r) : zEv 29 54 0 0 [some (.int v0), some (.int v1)] [] (zGs Ln I A) r := 
  zEv.lift 2 (fun _ => by with_unfolding_all rfl) (show zEv 29 57 0 0 [some (.int v0), some (.int v1)] [.int 100, .int v1] (zGs Ln I A) r from zEv.br (tgt := 66) rfl rfl (fun h => kt (of_decide_eq_true h)) (fun h => kf (of_decide_eq_false h)))
set_option maxRecDepth 100000 in
theorem B_X5_mayStandInPart_60 (Ln : Nat) (I A : Nat → Nat → Int32) (v0 : Int32) (v1 : Int32) {r : zRs}  (kt : v1 ≠ 108 → zEv 29 70 0 0 [some (.int v0), some (.int v1)] [] (zGs Ln I A) r) (kf : ¬ (v1 ≠ 108) → zEv 29 66 0 0 [some (.int v0), some (.int v1)] [] (zGs Ln I A) r) : zEv 29 60 0 0 [some (.int v0), some (.int v1)] [] (zGs Ln I A) r := 
  zEv.lift 2 (fun _ => by with_unfolding_all rfl) (show zEv 29 63 0 0 [some (.int v0), some (.int v1)] [.int 108, .int v1] (zGs Ln I A) r from zEv.br (tgt := 70) rfl rfl (fun h => kt (of_decide_eq_true h)) (fun h => kf (of_decide_eq_false h)))
set_option maxRecDepth 100000 in
theorem B_X5_mayStandInPart_66 (Ln : Nat) (I A : Nat → Nat → Int32) (v0 : Int32) (v1 : Int32) {r : zRs}  (hk : zEv 29 71 0 0 [some (.int v0), some (.int v1)] [.int 1] (zGs Ln I A) r) : zEv 29 66 0 0 [some (.int v0), some (.int v1)] [] (zGs Ln I A) r := 
  zEv.lift 2 (fun _ => by with_unfolding_all rfl) (show zEv 29 71 0 0 [some (.int v0), some (.int v1)] [.int 1] (zGs Ln I A) r from hk)
set_option maxRecDepth 100000 in
theorem B_X5_mayStandInPart_70 (Ln : Nat) (I A : Nat → Nat → Int32) (v0 : Int32) (v1 : Int32) {r : zRs}  (hk : zEv 29 71 0 0 [some (.int v0), some (.int v1)] [.int 0] (zGs Ln I A) r) : zEv 29 70 0 0 [some (.int v0), some (.int v1)] [] (zGs Ln I A) r := 
  zEv.lift 1 (fun _ => by with_unfolding_all rfl) (show zEv 29 71 0 0 [some (.int v0), some (.int v1)] [.int 0] (zGs Ln I A) r from hk)
set_option maxRecDepth 100000 in
theorem B_X5_mayStandInPart_71_s1 (Ln : Nat) (I A : Nat → Nat → Int32) (v0 : Int32) (v1 : Int32) (s0 : Int32) (hb : s0 = 0 ∨ s0 = 1)  : zEv 29 71 0 0 [some (.int v0), some (.int v1)] [.int s0] (zGs Ln I A) (some (.int s0), zGs Ln (I) (A)) := 
  (by rcases hb with hb | hb <;> rw [hb] <;> exact zEv.ret rfl)
set_option maxRecDepth 100000 in
theorem B_X5_mayStandInPart_72 (Ln : Nat) (I A : Nat → Nat → Int32) (v0 : Int32) (v1 : Int32) {r : zRs}  {q : zRs} (hc : zEv 30 0 0 0 [some (.int v1), some (.int 0), some (.int 3)] [] (zGs Ln I A) q) {w : Int32} (hn : q.1 = some (.int w)) (hk : zEv 29 78 0 0 [some (.int v0), some (.int v1)] (.int w :: []) q.2 r) : zEv 29 72 0 0 [some (.int v0), some (.int v1)] [] (zGs Ln I A) r := 
  zEv.lift 3 (fun _ => by with_unfolding_all rfl) (show zEv 29 75 0 0 [some (.int v0), some (.int v1)] [.int 3, .int 0, .int v1] (zGs Ln I A) r from zEv.call (as := [.int v1, .int 0, .int 3]) rfl (fun _ => rfl) (Nat.le_of_ble_eq_true rfl) hc (by rw [hn]; exact hk))
set_option maxRecDepth 100000 in
theorem B_X5_mayStandInPart_78_s1 (Ln : Nat) (I A : Nat → Nat → Int32) (v0 : Int32) (v1 : Int32) (s0 : Int32) (hb : s0 = 0 ∨ s0 = 1)  : zEv 29 78 0 0 [some (.int v0), some (.int v1)] [.int s0] (zGs Ln I A) (some (.int s0), zGs Ln (I) (A)) := 
  (by rcases hb with hb | hb <;> rw [hb] <;> exact zEv.ret rfl)
set_option maxRecDepth 100000 in
theorem B_X5_mayStandInPart_79 (Ln : Nat) (I A : Nat → Nat → Int32) (v0 : Int32) (v1 : Int32) {r : zRs}  {q : zRs} (hc : zEv 30 0 0 0 [some (.int v1), some (.int 1), some (.int 9)] [] (zGs Ln I A) q) {w : Int32} (hn : q.1 = some (.int w)) (hk : zEv 29 86 0 0 [some (.int v0), some (.int v1)] (.int w :: []) q.2 r) : zEv 29 79 0 0 [some (.int v0), some (.int v1)] [] (zGs Ln I A) r := 
  zEv.lift 3 (fun _ => by with_unfolding_all rfl) (show zEv 29 83 0 0 [some (.int v0), some (.int v1)] [.int 9, .int 1, .int v1] (zGs Ln I A) r from zEv.call (as := [.int v1, .int 1, .int 9]) rfl (fun _ => rfl) (Nat.le_of_ble_eq_true rfl) hc (by rw [hn]; exact hk))
set_option maxRecDepth 100000 in
theorem B_X5_mayStandInPart_86_s1 (Ln : Nat) (I A : Nat → Nat → Int32) (v0 : Int32) (v1 : Int32) (s0 : Int32) (hb : s0 = 0 ∨ s0 = 1)  : zEv 29 86 0 0 [some (.int v0), some (.int v1)] [.int s0] (zGs Ln I A) (some (.int s0), zGs Ln (I) (A)) := 
  (by rcases hb with hb | hb <;> rw [hb] <;> exact zEv.ret rfl)
set_option maxRecDepth 100000 in
theorem B_X5_mayStandInPart_87 (Ln : Nat) (I A : Nat → Nat → Int32) (v0 : Int32) (v1 : Int32) {r : zRs}  {q : zRs} (hc : zEv 30 0 0 0 [some (.int v1), some (.int 0), some (.int 2)] [] (zGs Ln I A) q) {w : Int32} (hn : q.1 = some (.int w)) (hk : zEv 29 93 0 0 [some (.int v0), some (.int v1)] (.int w :: []) q.2 r) : zEv 29 87 0 0 [some (.int v0), some (.int v1)] [] (zGs Ln I A) r := 
  zEv.lift 3 (fun _ => by with_unfolding_all rfl) (show zEv 29 90 0 0 [some (.int v0), some (.int v1)] [.int 2, .int 0, .int v1] (zGs Ln I A) r from zEv.call (as := [.int v1, .int 0, .int 2]) rfl (fun _ => rfl) (Nat.le_of_ble_eq_true rfl) hc (by rw [hn]; exact hk))
set_option maxRecDepth 100000 in
theorem B_X5_mayStandInPart_93_s1 (Ln : Nat) (I A : Nat → Nat → Int32) (v0 : Int32) (v1 : Int32) (s0 : Int32) (hb : s0 = 0 ∨ s0 = 1)  : zEv 29 93 0 0 [some (.int v0), some (.int v1)] [.int s0] (zGs Ln I A) (some (.int s0), zGs Ln (I) (A)) := 
  (by rcases hb with hb | hb <;> rw [hb] <;> exact zEv.ret rfl)
set_option maxRecDepth 100000 in
theorem B_X5_mayStandInPart_94 (Ln : Nat) (I A : Nat → Nat → Int32) (v0 : Int32) (v1 : Int32) {r : zRs}  {q : zRs} (hc : zEv 30 0 0 0 [some (.int v1), some (.int 0), some (.int 9)] [] (zGs Ln I A) q) {w : Int32} (hn : q.1 = some (.int w)) (hk : zEv 29 101 0 0 [some (.int v0), some (.int v1)] (.int w :: []) q.2 r) : zEv 29 94 0 0 [some (.int v0), some (.int v1)] [] (zGs Ln I A) r := 
  zEv.lift 3 (fun _ => by with_unfolding_all rfl) (show zEv 29 98 0 0 [some (.int v0), some (.int v1)] [.int 9, .int 0, .int v1] (zGs Ln I A) r from zEv.call (as := [.int v1, .int 0, .int 9]) rfl (fun _ => rfl) (Nat.le_of_ble_eq_true rfl) hc (by rw [hn]; exact hk))
set_option maxRecDepth 100000 in
theorem B_X5_mayStandInPart_101_s1 (Ln : Nat) (I A : Nat → Nat → Int32) (v0 : Int32) (v1 : Int32) (s0 : Int32) (hb : s0 = 0 ∨ s0 = 1)  : zEv 29 101 0 0 [some (.int v0), some (.int v1)] [.int s0] (zGs Ln I A) (some (.int s0), zGs Ln (I) (A)) := 
  (by rcases hb with hb | hb <;> rw [hb] <;> exact zEv.ret rfl)
set_option maxRecDepth 100000 in
theorem B_X5_isDigit_0 (Ln : Nat) (I A : Nat → Nat → Int32) (v0 : Int32) (v1 : Int32) (v2 : Int32) {r : zRs}  (kt : v0 < (48 + v1) → zEv 30 20 0 0 [some (.int v0), some (.int v1), some (.int v2)] [] (zGs Ln I A) r) (kf : ¬ (v0 < (48 + v1)) → zEv 30 8 0 0 [some (.int v0), some (.int v1), some (.int v2)] [] (zGs Ln I A) r) : zEv 30 0 0 0 [some (.int v0), some (.int v1), some (.int v2)] [] (zGs Ln I A) r := 
  zEv.lift 4 (fun _ => by with_unfolding_all rfl) (show zEv 30 5 0 0 [some (.int v0), some (.int v1), some (.int v2)] [.int (48 + v1), .int v0] (zGs Ln I A) r from zEv.br (tgt := 20) rfl rfl (fun h => kt (of_decide_eq_true h)) (fun h => kf (of_decide_eq_false h)))
set_option maxRecDepth 100000 in
theorem B_X5_isDigit_8 (Ln : Nat) (I A : Nat → Nat → Int32) (v0 : Int32) (v1 : Int32) (v2 : Int32) {r : zRs}  (kt : (48 + v2) < v0 → zEv 30 20 0 0 [some (.int v0), some (.int v1), some (.int v2)] [] (zGs Ln I A) r) (kf : ¬ ((48 + v2) < v0) → zEv 30 16 0 0 [some (.int v0), some (.int v1), some (.int v2)] [] (zGs Ln I A) r) : zEv 30 8 0 0 [some (.int v0), some (.int v1), some (.int v2)] [] (zGs Ln I A) r := 
  zEv.lift 4 (fun _ => by with_unfolding_all rfl) (show zEv 30 13 0 0 [some (.int v0), some (.int v1), some (.int v2)] [.int (48 + v2), .int v0] (zGs Ln I A) r from zEv.br (tgt := 20) rfl rfl (fun h => kt (of_decide_eq_true h)) (fun h => kf (of_decide_eq_false h)))
set_option maxRecDepth 100000 in
theorem B_X5_isDigit_16 (Ln : Nat) (I A : Nat → Nat → Int32) (v0 : Int32) (v1 : Int32) (v2 : Int32) {r : zRs}  (hk : zEv 30 21 0 0 [some (.int v0), some (.int v1), some (.int v2)] [.int 1] (zGs Ln I A) r) : zEv 30 16 0 0 [some (.int v0), some (.int v1), some (.int v2)] [] (zGs Ln I A) r := 
  zEv.lift 2 (fun _ => by with_unfolding_all rfl) (show zEv 30 21 0 0 [some (.int v0), some (.int v1), some (.int v2)] [.int 1] (zGs Ln I A) r from hk)
set_option maxRecDepth 100000 in
theorem B_X5_isDigit_20 (Ln : Nat) (I A : Nat → Nat → Int32) (v0 : Int32) (v1 : Int32) (v2 : Int32) {r : zRs}  (hk : zEv 30 21 0 0 [some (.int v0), some (.int v1), some (.int v2)] [.int 0] (zGs Ln I A) r) : zEv 30 20 0 0 [some (.int v0), some (.int v1), some (.int v2)] [] (zGs Ln I A) r := 
  zEv.lift 1 (fun _ => by with_unfolding_all rfl) (show zEv 30 21 0 0 [some (.int v0), some (.int v1), some (.int v2)] [.int 0] (zGs Ln I A) r from hk)
set_option maxRecDepth 100000 in
theorem B_X5_isDigit_21_s1 (Ln : Nat) (I A : Nat → Nat → Int32) (v0 : Int32) (v1 : Int32) (v2 : Int32) (s0 : Int32) (hb : s0 = 0 ∨ s0 = 1)  : zEv 30 21 0 0 [some (.int v0), some (.int v1), some (.int v2)] [.int s0] (zGs Ln I A) (some (.int s0), zGs Ln (I) (A)) := 
  (by rcases hb with hb | hb <;> rw [hb] <;> exact zEv.ret rfl)
