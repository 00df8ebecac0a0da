/-! blocks, by program (wip/whole/gen_blk.py): 22b.sheet 1 -/
set_option maxRecDepth 100000 in
theorem B_X5_firstFault_r10_15 (Ln : Nat) (I A : Nat → Nat → Int32) (v1 : Int32) (v2 : Int32) (v3 : Int32) (j4 : Option Int32) {r : zRs} (h1 : zin ((v1 + v3) - 1) 60 = true) (hk : zEv 26 22 0 0 [some (.ref 10), some (.int v1), some (.int v2), some (.int v3), (Option.map Value.int j4)] [.int (A 10 ((v1 + v3) - 1).toNatClampNeg)] (zGs Ln I A) r) : zEv 26 15 0 0 [some (.ref 10), some (.int v1), some (.int v2), some (.int v3), (Option.map Value.int j4)] [] (zGs Ln I A) r := 
  zEv.lift 6 (fun _ => by with_unfolding_all rfl) (show zEv 26 21 0 0 [some (.ref 10), some (.int v1), some (.int v2), some (.int v3), (Option.map Value.int j4)] [.int ((v1 + v3) - 1), .ref 10] (zGs Ln I A) r from zEv.iald rfl (Or.inl rfl) h1 (show zEv 26 22 0 0 [some (.ref 10), some (.int v1), some (.int v2), some (.int v3), (Option.map Value.int j4)] [.int (A 10 ((v1 + v3) - 1).toNatClampNeg)] (zGs Ln I A) r from hk))
set_option maxRecDepth 100000 in
theorem B_X5_firstFault_r10_22_s1 (Ln : Nat) (I A : Nat → Nat → Int32) (v1 : Int32) (v2 : Int32) (v3 : Int32) (j4 : Option Int32) (s0 : Int32) {r : zRs} (h1 : zin (v1 + v3) 60 = true) {q : zRs} (hc : zEv 27 0 0 0 [some (.int v3), some (.int (A 10 (v1 + v3).toNatClampNeg)), some (.int s0)] [] (zGs Ln I A) q) {w : Int32} (hn : q.1 = some (.int w)) (hk : zEv 26 35 0 0 [some (.ref 10), some (.int v1), some (.int v2), some (.int v3), some (.int s0)] (.int w :: []) q.2 r) : zEv 26 22 0 0 [some (.ref 10), some (.int v1), some (.int v2), some (.int v3), (Option.map Value.int j4)] [.int s0] (zGs Ln I A) r := 
  zEv.lift 6 (fun _ => by with_unfolding_all rfl) (show zEv 26 29 0 0 [some (.ref 10), some (.int v1), some (.int v2), some (.int v3), some (.int s0)] [.int (v1 + v3), .ref 10, .int v3] (zGs Ln I A) r from zEv.iald rfl (Or.inl rfl) h1 (show zEv 26 30 0 0 [some (.ref 10), some (.int v1), some (.int v2), some (.int v3), some (.int s0)] [.int (A 10 (v1 + v3).toNatClampNeg), .int v3] (zGs Ln I A) r from zEv.lift 1 (fun _ => by with_unfolding_all rfl) (show zEv 26 32 0 0 [some (.ref 10), some (.int v1), some (.int v2), some (.int v3), some (.int s0)] [.int s0, .int (A 10 (v1 + v3).toNatClampNeg), .int v3] (zGs Ln I A) r from zEv.call (as := [.int v3, .int (A 10 (v1 + v3).toNatClampNeg), .int s0]) rfl (fun _ => rfl) (Nat.le_of_ble_eq_true rfl) hc (by rw [hn]; exact hk))))
set_option maxRecDepth 100000 in
theorem B_X5_firstFault_r10_35_s1 (Ln : Nat) (I A : Nat → Nat → Int32) (v1 : Int32) (v2 : Int32) (v3 : Int32) (v4 : Int32) (s0 : Int32) {r : zRs}  (kt : s0 ≠ 0 → zEv 26 40 0 0 [some (.ref 10), some (.int v1), some (.int v2), some (.int v3), some (.int v4)] [] (zGs Ln I A) r) (kf : ¬ (s0 ≠ 0) → zEv 26 38 0 0 [some (.ref 10), some (.int v1), some (.int v2), some (.int v3), some (.int v4)] [] (zGs Ln I A) r) : zEv 26 35 0 0 [some (.ref 10), some (.int v1), some (.int v2), some (.int v3), some (.int v4)] [.int s0] (zGs Ln I A) r := 
  zEv.br0 (tgt := 40) rfl rfl (fun h => kt (of_decide_eq_true h)) (fun h => kf (of_decide_eq_false h))
set_option maxRecDepth 100000 in
theorem B_X5_firstFault_r10_38 (Ln : Nat) (I A : Nat → Nat → Int32) (v1 : Int32) (v2 : Int32) (v3 : Int32) (v4 : Int32)   : zEv 26 38 0 0 [some (.ref 10), some (.int v1), some (.int v2), some (.int v3), some (.int v4)] [] (zGs Ln I A) (some (.int v3), zGs Ln (I) (A)) := 
  zEv.lift 1 (fun _ => by with_unfolding_all rfl) (show zEv 26 39 0 0 [some (.ref 10), some (.int v1), some (.int v2), some (.int v3), some (.int v4)] [.int v3] (zGs Ln I A) (some (.int v3), zGs Ln (I) (A)) from zEv.ret rfl)
set_option maxRecDepth 100000 in
theorem B_X5_firstFault_r10_40 (Ln : Nat) (I A : Nat → Nat → Int32) (v1 : Int32) (v2 : Int32) (v3 : Int32) (v4 : Int32) {r : zRs}  (hk : zEv 26 2 0 0 [some (.ref 10), some (.int v1), some (.int v2), some (.int (v3 + 1)), some (.int v4)] [] (zGs Ln I A) r) : zEv 26 40 0 0 [some (.ref 10), some (.int v1), some (.int v2), some (.int v3), some (.int v4)] [] (zGs Ln I A) r := 
  zEv.lift 2 (fun _ => by with_unfolding_all rfl) (show zEv 26 2 0 0 [some (.ref 10), some (.int v1), some (.int v2), some (.int (v3 + 1)), some (.int v4)] [] (zGs Ln I A) r from hk)
set_option maxRecDepth 100000 in
theorem B_X5_firstFault_r10_46 (Ln : Nat) (I A : Nat → Nat → Int32) (v1 : Int32) (v2 : Int32) (v3 : Int32) (j4 : Option Int32) {r : zRs}  (kt : v2 ≤ 5 → zEv 26 64 0 0 [some (.ref 10), some (.int v1), some (.int v2), some (.int v3), (Option.map Value.int j4)] [] (zGs Ln I A) r) (kf : ¬ (v2 ≤ 5) → zEv 26 51 0 0 [some (.ref 10), some (.int v1), some (.int v2), some (.int v3), (Option.map Value.int j4)] [] (zGs Ln I A) r) : zEv 26 46 0 0 [some (.ref 10), some (.int v1), some (.int v2), some (.int v3), (Option.map Value.int j4)] [] (zGs Ln I A) r := 
  zEv.lift 2 (fun _ => by with_unfolding_all rfl) (show zEv 26 48 0 0 [some (.ref 10), some (.int v1), some (.int v2), some (.int v3), (Option.map Value.int j4)] [.int 5, .int v2] (zGs Ln I A) r from zEv.br (tgt := 64) rfl rfl (fun h => kt (of_decide_eq_true h)) (fun h => kf (of_decide_eq_false h)))
set_option maxRecDepth 100000 in
theorem B_X5_firstFault_r10_51 (Ln : Nat) (I A : Nat → Nat → Int32) (v1 : Int32) (v2 : Int32) (v3 : Int32) (j4 : Option Int32) {r : zRs}  (kt : ((v2 - 5) - (v2 - 5) / 6 * 6) ≠ 0 → zEv 26 64 0 0 [some (.ref 10), some (.int v1), some (.int v2), some (.int v3), (Option.map Value.int j4)] [] (zGs Ln I A) r) (kf : ¬ (((v2 - 5) - (v2 - 5) / 6 * 6) ≠ 0) → zEv 26 60 0 0 [some (.ref 10), some (.int v1), some (.int v2), some (.int v3), (Option.map Value.int j4)] [] (zGs Ln I A) r) : zEv 26 51 0 0 [some (.ref 10), some (.int v1), some (.int v2), some (.int v3), (Option.map Value.int j4)] [] (zGs Ln I A) r := 
  zEv.lift 5 (fun _ => by with_unfolding_all rfl) (show zEv 26 57 0 0 [some (.ref 10), some (.int v1), some (.int v2), some (.int v3), (Option.map Value.int j4)] [.int ((v2 - 5) - (v2 - 5) / 6 * 6)] (zGs Ln I A) r from zEv.br0 (tgt := 64) rfl rfl (fun h => kt (of_decide_eq_true h)) (fun h => kf (of_decide_eq_false h)))
set_option maxRecDepth 100000 in
theorem B_X5_firstFault_r10_60 (Ln : Nat) (I A : Nat → Nat → Int32) (v1 : Int32) (v2 : Int32) (v3 : Int32) (j4 : Option Int32) {r : zRs}  (hk : zEv 26 65 0 0 [some (.ref 10), some (.int v1), some (.int v2), some (.int v3), (Option.map Value.int j4)] [.int ((-1))] (zGs Ln I A) r) : zEv 26 60 0 0 [some (.ref 10), some (.int v1), some (.int v2), some (.int v3), (Option.map Value.int j4)] [] (zGs Ln I A) r := 
  zEv.lift 2 (fun _ => by with_unfolding_all rfl) (show zEv 26 65 0 0 [some (.ref 10), some (.int v1), some (.int v2), some (.int v3), (Option.map Value.int j4)] [.int ((-1))] (zGs Ln I A) r from hk)
set_option maxRecDepth 100000 in
theorem B_X5_firstFault_r10_64 (Ln : Nat) (I A : Nat → Nat → Int32) (v1 : Int32) (v2 : Int32) (v3 : Int32) (j4 : Option Int32) {r : zRs}  (hk : zEv 26 65 0 0 [some (.ref 10), some (.int v1), some (.int v2), some (.int v3), (Option.map Value.int j4)] [.int v2] (zGs Ln I A) r) : zEv 26 64 0 0 [some (.ref 10), some (.int v1), some (.int v2), some (.int v3), (Option.map Value.int j4)] [] (zGs Ln I A) r := 
  zEv.lift 1 (fun _ => by with_unfolding_all rfl) (show zEv 26 65 0 0 [some (.ref 10), some (.int v1), some (.int v2), some (.int v3), (Option.map Value.int j4)] [.int v2] (zGs Ln I A) r from hk)
set_option maxRecDepth 100000 in
theorem B_X5_firstFault_r10_65_s1 (Ln : Nat) (I A : Nat → Nat → Int32) (v1 : Int32) (v2 : Int32) (v3 : Int32) (j4 : Option Int32) (s0 : Int32)   : zEv 26 65 0 0 [some (.ref 10), some (.int v1), some (.int v2), some (.int v3), (Option.map Value.int j4)] [.int s0] (zGs Ln I A) (some (.int s0), zGs Ln (I) (A)) := 
  zEv.ret rfl
set_option maxRecDepth 100000 in
theorem B_X4_renew_r3_0 (Ln : Nat) (I A : Nat → Nat → Int32) (v1 : Int32) (v2 : Int32) {r : zRs}  {q : zRs} (hc : zEv 163 0 0 0 [some (.ref 4), some (.int 0), none, none] [] (zGs Ln (zp (zp (zp I 3 1 1) 3 2 v1) 3 3 v2) A) q) (hn : q.1 = none) (hk : zEv 22 23 0 0 [some (.ref 3), some (.int v1), some (.int v2)] [] q.2 r) : zEv 22 0 0 0 [some (.ref 3), some (.int v1), some (.int v2)] [] (zGs Ln I A) r := 
  zEv.lift 12 (fun _ => by with_unfolding_all rfl) (show zEv 22 20 0 0 [some (.ref 3), some (.int v1), some (.int v2)] [.int 0, .ref 4] (zGs Ln (zp (zp (zp I 3 1 1) 3 2 v1) 3 3 v2) A) r from zEv.call (as := [.ref 4, .int 0]) rfl (fun _ => rfl) (Nat.le_of_ble_eq_true rfl) hc (by rw [hn]; exact hk))
set_option maxRecDepth 100000 in
theorem B_X4_renew_r3_23 (Ln : Nat) (I A : Nat → Nat → Int32) (v1 : Int32) (v2 : Int32)   : zEv 22 23 0 0 [some (.ref 3), some (.int v1), some (.int v2)] [] (zGs Ln I A) (none, zGs Ln (I) (A)) := 
  zEv.ret rfl
set_option maxRecDepth 100000 in
theorem B_X4_renew_r5_0 (Ln : Nat) (I A : Nat → Nat → Int32) (v1 : Int32) (v2 : Int32) {r : zRs}  {q : zRs} (hc : zEv 163 0 0 0 [some (.ref 6), some (.int 0), none, none] [] (zGs Ln (zp (zp (zp I 5 1 1) 5 2 v1) 5 3 v2) A) q) (hn : q.1 = none) (hk : zEv 22 23 0 0 [some (.ref 5), some (.int v1), some (.int v2)] [] q.2 r) : zEv 22 0 0 0 [some (.ref 5), some (.int v1), some (.int v2)] [] (zGs Ln I A) r := 
  zEv.lift 12 (fun _ => by with_unfolding_all rfl) (show zEv 22 20 0 0 [some (.ref 5), some (.int v1), some (.int v2)] [.int 0, .ref 6] (zGs Ln (zp (zp (zp I 5 1 1) 5 2 v1) 5 3 v2) A) r from zEv.call (as := [.ref 6, .int 0]) rfl (fun _ => rfl) (Nat.le_of_ble_eq_true rfl) hc (by rw [hn]; exact hk))
set_option maxRecDepth 100000 in
theorem B_X4_renew_r5_23 (Ln : Nat) (I A : Nat → Nat → Int32) (v1 : Int32) (v2 : Int32)   : zEv 22 23 0 0 [some (.ref 5), some (.int v1), some (.int v2)] [] (zGs Ln I A) (none, zGs Ln (I) (A)) := 
  zEv.ret rfl
set_option maxRecDepth 100000 in
theorem B_X4_renew_r7_0 (Ln : Nat) (I A : Nat → Nat → Int32) (v1 : Int32) (v2 : Int32) {r : zRs}  {q : zRs} (hc : zEv 163 0 0 0 [some (.ref 8), some (.int 0), none, none] [] (zGs Ln (zp (zp (zp I 7 1 1) 7 2 v1) 7 3 v2) A) q) (hn : q.1 = none) (hk : zEv 22 23 0 0 [some (.ref 7), some (.int v1), some (.int v2)] [] q.2 r) : zEv 22 0 0 0 [some (.ref 7), some (.int v1), some (.int v2)] [] (zGs Ln I A) r := 
  zEv.lift 12 (fun _ => by with_unfolding_all rfl) (show zEv 22 20 0 0 [some (.ref 7), some (.int v1), some (.int v2)] [.int 0, .ref 8] (zGs Ln (zp (zp (zp I 7 1 1) 7 2 v1) 7 3 v2) A) r from zEv.call (as := [.ref 8, .int 0]) rfl (fun _ => rfl) (Nat.le_of_ble_eq_true rfl) hc (by rw [hn]; exact hk))
set_option maxRecDepth 100000 in
theorem B_X4_renew_r7_23 (Ln : Nat) (I A : Nat → Nat → Int32) (v1 : Int32) (v2 : Int32)   : zEv 22 23 0 0 [some (.ref 7), some (.int v1), some (.int v2)] [] (zGs Ln I A) (none, zGs Ln (I) (A)) := 
  zEv.ret rfl
set_option maxRecDepth 100000 in
theorem B_X4_renew_r9_0 (Ln : Nat) (I A : Nat → Nat → Int32) (v1 : Int32) (v2 : Int32) {r : zRs}  {q : zRs} (hc : zEv 163 0 0 0 [some (.ref 10), some (.int 0), none, none] [] (zGs Ln (zp (zp (zp I 9 1 1) 9 2 v1) 9 3 v2) A) q) (hn : q.1 = none) (hk : zEv 22 23 0 0 [some (.ref 9), some (.int v1), some (.int v2)] [] q.2 r) : zEv 22 0 0 0 [some (.ref 9), some (.int v1), some (.int v2)] [] (zGs Ln I A) r := 
  zEv.lift 12 (fun _ => by with_unfolding_all rfl) (show zEv 22 20 0 0 [some (.ref 9), some (.int v1), some (.int v2)] [.int 0, .ref 10] (zGs Ln (zp (zp (zp I 9 1 1) 9 2 v1) 9 3 v2) A) r from zEv.call (as := [.ref 10, .int 0]) rfl (fun _ => rfl) (Nat.le_of_ble_eq_true rfl) hc (by rw [hn]; exact hk))
set_option maxRecDepth 100000 in
theorem B_X4_renew_r9_23 (Ln : Nat) (I A : Nat → Nat → Int32) (v1 : Int32) (v2 : Int32)   : zEv 22 23 0 0 [some (.ref 9), some (.int v1), some (.int v2)] [] (zGs Ln I A) (none, zGs Ln (I) (A)) := 
  zEv.ret rfl
set_option maxRecDepth 100000 in
theorem B_X4_write_r3_0 (Ln : Nat) (I A : Nat → Nat → Int32) (v1 : Int32) (v2 : Int32) {r : zRs}  (k0 : (I 3 2 : Int32).toInt = 0 → zEv 25 32 0 0 [some (.ref 3), some (.int v1), some (.int v2)] [] (zGs Ln I A) r) (k1 : (I 3 2 : Int32).toInt = 1 → zEv 25 43 0 0 [some (.ref 3), some (.int v1), some (.int v2)] [] (zGs Ln I A) r) (kd : ¬ (I 3 2 : Int32).toInt = 0 → ¬ (I 3 2 : Int32).toInt = 1 → zEv 25 54 0 0 [some (.ref 3), some (.int v1), some (.int v2)] [] (zGs Ln I A) r) : zEv 25 0 0 0 [some (.ref 3), some (.int v1), some (.int v2)] [] (zGs Ln I A) r := 
  zEv.lift 2 (fun _ => by with_unfolding_all rfl) (show zEv 25 4 0 0 [some (.ref 3), some (.int v1), some (.int v2)] [.int (I 3 2)] (zGs Ln I A) r from (by
    by_cases c0 : (I 3 2 : Int32).toInt = 0
    · exact zEv.swl (off := 28) (tgt := 32) rfl (by simp [zsw, zkeys, c0]) rfl (k0 c0)
    · by_cases c1 : (I 3 2 : Int32).toInt = 1
      · exact zEv.swl (off := 39) (tgt := 43) rfl (by simp [zsw, zkeys, c1]) rfl (k1 c1)
      · exact zEv.swl (off := 50) (tgt := 54) rfl (by simp [zsw, zkeys, c0, c1]) rfl (kd c0 c1)))
set_option maxRecDepth 100000 in
theorem B_X4_write_r3_32 (Ln : Nat) (I A : Nat → Nat → Int32) (v1 : Int32) (v2 : Int32) {r : zRs} (h1 : zin v1 60 = true) (hk : zEv 25 61 0 0 [some (.ref 3), some (.int v1), some (.int v2)] [] (zGs Ln I (zw A 4 ((v1).toNatClampNeg) ((Int32.toInt8 v2).toInt32))) r) : zEv 25 32 0 0 [some (.ref 3), some (.int v1), some (.int v2)] [] (zGs Ln I A) r := 
  zEv.lift 5 (fun _ => by with_unfolding_all rfl) (show zEv 25 39 0 0 [some (.ref 3), some (.int v1), some (.int v2)] [.int ((Int32.toInt8 v2).toInt32), .int v1, .ref 4] (zGs Ln I A) r from zEv.iast rfl rfl h1 (show zEv 25 40 0 0 [some (.ref 3), some (.int v1), some (.int v2)] [] (zGs Ln I (zw A 4 ((v1).toNatClampNeg) ((Int32.toInt8 v2).toInt32))) r from zEv.lift 1 (fun _ => by with_unfolding_all rfl) (show zEv 25 61 0 0 [some (.ref 3), some (.int v1), some (.int v2)] [] (zGs Ln I (zw A 4 ((v1).toNatClampNeg) ((Int32.toInt8 v2).toInt32))) r from hk)))
set_option maxRecDepth 100000 in
theorem B_X4_write_r3_43 (Ln : Nat) (I A : Nat → Nat → Int32) (v1 : Int32) (v2 : Int32) {r : zRs} (h1 : zin v1 60 = true) (hk : zEv 25 61 0 0 [some (.ref 3), some (.int v1), some (.int v2)] [] (zGs Ln I (zw A 4 ((v1).toNatClampNeg) ((Int32.toInt16 v2).toInt32))) r) : zEv 25 43 0 0 [some (.ref 3), some (.int v1), some (.int v2)] [] (zGs Ln I A) r := 
  zEv.lift 5 (fun _ => by with_unfolding_all rfl) (show zEv 25 50 0 0 [some (.ref 3), some (.int v1), some (.int v2)] [.int ((Int32.toInt16 v2).toInt32), .int v1, .ref 4] (zGs Ln I A) r from zEv.iast rfl rfl h1 (show zEv 25 51 0 0 [some (.ref 3), some (.int v1), some (.int v2)] [] (zGs Ln I (zw A 4 ((v1).toNatClampNeg) ((Int32.toInt16 v2).toInt32))) r from zEv.lift 1 (fun _ => by with_unfolding_all rfl) (show zEv 25 61 0 0 [some (.ref 3), some (.int v1), some (.int v2)] [] (zGs Ln I (zw A 4 ((v1).toNatClampNeg) ((Int32.toInt16 v2).toInt32))) r from hk)))
set_option maxRecDepth 100000 in
theorem B_X4_write_r3_54 (Ln : Nat) (I A : Nat → Nat → Int32) (v1 : Int32) (v2 : Int32) {r : zRs} (h1 : zin v1 60 = true) (hk : zEv 25 61 0 0 [some (.ref 3), some (.int v1), some (.int v2)] [] (zGs Ln I (zw A 4 ((v1).toNatClampNeg) v2)) r) : zEv 25 54 0 0 [some (.ref 3), some (.int v1), some (.int v2)] [] (zGs Ln I A) r := 
  zEv.lift 4 (fun _ => by with_unfolding_all rfl) (show zEv 25 60 0 0 [some (.ref 3), some (.int v1), some (.int v2)] [.int v2, .int v1, .ref 4] (zGs Ln I A) r from zEv.iast rfl rfl h1 (show zEv 25 61 0 0 [some (.ref 3), some (.int v1), some (.int v2)] [] (zGs Ln I (zw A 4 ((v1).toNatClampNeg) v2)) r from hk))
set_option maxRecDepth 100000 in
theorem B_X4_write_r3_61 (Ln : Nat) (I A : Nat → Nat → Int32) (v1 : Int32) (v2 : Int32)   : zEv 25 61 0 0 [some (.ref 3), some (.int v1), some (.int v2)] [] (zGs Ln I A) (none, zGs Ln (I) (A)) := 
  zEv.ret rfl
set_option maxRecDepth 100000 in
theorem B_X4_write_r5_0 (Ln : Nat) (I A : Nat → Nat → Int32) (v1 : Int32) (v2 : Int32) {r : zRs}  (k0 : (I 5 2 : Int32).toInt = 0 → zEv 25 32 0 0 [some (.ref 5), some (.int v1), some (.int v2)] [] (zGs Ln I A) r) (k1 : (I 5 2 : Int32).toInt = 1 → zEv 25 43 0 0 [some (.ref 5), some (.int v1), some (.int v2)] [] (zGs Ln I A) r) (kd : ¬ (I 5 2 : Int32).toInt = 0 → ¬ (I 5 2 : Int32).toInt = 1 → zEv 25 54 0 0 [some (.ref 5), some (.int v1), some (.int v2)] [] (zGs Ln I A) r) : zEv 25 0 0 0 [some (.ref 5), some (.int v1), some (.int v2)] [] (zGs Ln I A) r := 
  zEv.lift 2 (fun _ => by with_unfolding_all rfl) (show zEv 25 4 0 0 [some (.ref 5), some (.int v1), some (.int v2)] [.int (I 5 2)] (zGs Ln I A) r from (by
    by_cases c0 : (I 5 2 : Int32).toInt = 0
    · exact zEv.swl (off := 28) (tgt := 32) rfl (by simp [zsw, zkeys, c0]) rfl (k0 c0)
    · by_cases c1 : (I 5 2 : Int32).toInt = 1
      · exact zEv.swl (off := 39) (tgt := 43) rfl (by simp [zsw, zkeys, c1]) rfl (k1 c1)
      · exact zEv.swl (off := 50) (tgt := 54) rfl (by simp [zsw, zkeys, c0, c1]) rfl (kd c0 c1)))
set_option maxRecDepth 100000 in
theorem B_X4_write_r5_32 (Ln : Nat) (I A : Nat → Nat → Int32) (v1 : Int32) (v2 : Int32) {r : zRs} (h1 : zin v1 60 = true) (hk : zEv 25 61 0 0 [some (.ref 5), some (.int v1), some (.int v2)] [] (zGs Ln I (zw A 6 ((v1).toNatClampNeg) ((Int32.toInt8 v2).toInt32))) r) : zEv 25 32 0 0 [some (.ref 5), some (.int v1), some (.int v2)] [] (zGs Ln I A) r := 
  zEv.lift 5 (fun _ => by with_unfolding_all rfl) (show zEv 25 39 0 0 [some (.ref 5), some (.int v1), some (.int v2)] [.int ((Int32.toInt8 v2).toInt32), .int v1, .ref 6] (zGs Ln I A) r from zEv.iast rfl rfl h1 (show zEv 25 40 0 0 [some (.ref 5), some (.int v1), some (.int v2)] [] (zGs Ln I (zw A 6 ((v1).toNatClampNeg) ((Int32.toInt8 v2).toInt32))) r from zEv.lift 1 (fun _ => by with_unfolding_all rfl) (show zEv 25 61 0 0 [some (.ref 5), some (.int v1), some (.int v2)] [] (zGs Ln I (zw A 6 ((v1).toNatClampNeg) ((Int32.toInt8 v2).toInt32))) r from hk)))
set_option maxRecDepth 100000 in
theorem B_X4_write_r5_43 (Ln : Nat) (I A : Nat → Nat → Int32) (v1 : Int32) (v2 : Int32) {r : zRs} (h1 : zin v1 60 = true) (hk : zEv 25 61 0 0 [some (.ref 5), some (.int v1), some (.int v2)] [] (zGs Ln I (zw A 6 ((v1).toNatClampNeg) ((Int32.toInt16 v2).toInt32))) r) : zEv 25 43 0 0 [some (.ref 5), some (.int v1), some (.int v2)] [] (zGs Ln I A) r := 
  zEv.lift 5 (fun _ => by with_unfolding_all rfl) (show zEv 25 50 0 0 [some (.ref 5), some (.int v1), some (.int v2)] [.int ((Int32.toInt16 v2).toInt32), .int v1, .ref 6] (zGs Ln I A) r from zEv.iast rfl rfl h1 (show zEv 25 51 0 0 [some (.ref 5), some (.int v1), some (.int v2)] [] (zGs Ln I (zw A 6 ((v1).toNatClampNeg) ((Int32.toInt16 v2).toInt32))) r from zEv.lift 1 (fun _ => by with_unfolding_all rfl) (show zEv 25 61 0 0 [some (.ref 5), some (.int v1), some (.int v2)] [] (zGs Ln I (zw A 6 ((v1).toNatClampNeg) ((Int32.toInt16 v2).toInt32))) r from hk)))
set_option maxRecDepth 100000 in
theorem B_X4_write_r5_54 (Ln : Nat) (I A : Nat → Nat → Int32) (v1 : Int32) (v2 : Int32) {r : zRs} (h1 : zin v1 60 = true) (hk : zEv 25 61 0 0 [some (.ref 5), some (.int v1), some (.int v2)] [] (zGs Ln I (zw A 6 ((v1).toNatClampNeg) v2)) r) : zEv 25 54 0 0 [some (.ref 5), some (.int v1), some (.int v2)] [] (zGs Ln I A) r := 
  zEv.lift 4 (fun _ => by with_unfolding_all rfl) (show zEv 25 60 0 0 [some (.ref 5), some (.int v1), some (.int v2)] [.int v2, .int v1, .ref 6] (zGs Ln I A) r from zEv.iast rfl rfl h1 (show zEv 25 61 0 0 [some (.ref 5), some (.int v1), some (.int v2)] [] (zGs Ln I (zw A 6 ((v1).toNatClampNeg) v2)) r from hk))
set_option maxRecDepth 100000 in
theorem B_X4_write_r5_61 (Ln : Nat) (I A : Nat → Nat → Int32) (v1 : Int32) (v2 : Int32)   : zEv 25 61 0 0 [some (.ref 5), some (.int v1), some (.int v2)] [] (zGs Ln I A) (none, zGs Ln (I) (A)) := 
  zEv.ret rfl
set_option maxRecDepth 100000 in
theorem B_X4_write_r7_0 (Ln : Nat) (I A : Nat → Nat → Int32) (v1 : Int32) (v2 : Int32) {r : zRs}  (k0 : (I 7 2 : Int32).toInt = 0 → zEv 25 32 0 0 [some (.ref 7), some (.int v1), some (.int v2)] [] (zGs Ln I A) r) (k1 : (I 7 2 : Int32).toInt = 1 → zEv 25 43 0 0 [some (.ref 7), some (.int v1), some (.int v2)] [] (zGs Ln I A) r) (kd : ¬ (I 7 2 : Int32).toInt = 0 → ¬ (I 7 2 : Int32).toInt = 1 → zEv 25 54 0 0 [some (.ref 7), some (.int v1), some (.int v2)] [] (zGs Ln I A) r) : zEv 25 0 0 0 [some (.ref 7), some (.int v1), some (.int v2)] [] (zGs Ln I A) r := 
  zEv.lift 2 (fun _ => by with_unfolding_all rfl) (show zEv 25 4 0 0 [some (.ref 7), some (.int v1), some (.int v2)] [.int (I 7 2)] (zGs Ln I A) r from (by
    by_cases c0 : (I 7 2 : Int32).toInt = 0
    · exact zEv.swl (off := 28) (tgt := 32) rfl (by simp [zsw, zkeys, c0]) rfl (k0 c0)
    · by_cases c1 : (I 7 2 : Int32).toInt = 1
      · exact zEv.swl (off := 39) (tgt := 43) rfl (by simp [zsw, zkeys, c1]) rfl (k1 c1)
      · exact zEv.swl (off := 50) (tgt := 54) rfl (by simp [zsw, zkeys, c0, c1]) rfl (kd c0 c1)))
set_option maxRecDepth 100000 in
theorem B_X4_write_r7_32 (Ln : Nat) (I A : Nat → Nat → Int32) (v1 : Int32) (v2 : Int32) {r : zRs} (h1 : zin v1 60 = true) (hk : zEv 25 61 0 0 [some (.ref 7), some (.int v1), some (.int v2)] [] (zGs Ln I (zw A 8 ((v1).toNatClampNeg) ((Int32.toInt8 v2).toInt32))) r) : zEv 25 32 0 0 [some (.ref 7), some (.int v1), some (.int v2)] [] (zGs Ln I A) r := 
  zEv.lift 5 (fun _ => by with_unfolding_all rfl) (show zEv 25 39 0 0 [some (.ref 7), some (.int v1), some (.int v2)] [.int ((Int32.toInt8 v2).toInt32), .int v1, .ref 8] (zGs Ln I A) r from zEv.iast rfl rfl h1 (show zEv 25 40 0 0 [some (.ref 7), some (.int v1), some (.int v2)] [] (zGs Ln I (zw A 8 ((v1).toNatClampNeg) ((Int32.toInt8 v2).toInt32))) r from zEv.lift 1 (fun _ => by with_unfolding_all rfl) (show zEv 25 61 0 0 [some (.ref 7), some (.int v1), some (.int v2)] [] (zGs Ln I (zw A 8 ((v1).toNatClampNeg) ((Int32.toInt8 v2).toInt32))) r from hk)))
set_option maxRecDepth 100000 in
theorem B_X4_write_r7_43 (Ln : Nat) (I A : Nat → Nat → Int32) (v1 : Int32) (v2 : Int32) {r : zRs} (h1 : zin v1 60 = true) (hk : zEv 25 61 0 0 [some (.ref 7), some (.int v1), some (.int v2)] [] (zGs Ln I (zw A 8 ((v1).toNatClampNeg) ((Int32.toInt16 v2).toInt32))) r) : zEv 25 43 0 0 [some (.ref 7), some (.int v1), some (.int v2)] [] (zGs Ln I A) r := 
  zEv.lift 5 (fun _ => by with_unfolding_all rfl) (show zEv 25 50 0 0 [some (.ref 7), some (.int v1), some (.int v2)] [.int ((Int32.toInt16 v2).toInt32), .int v1, .ref 8] (zGs Ln I A) r from zEv.iast rfl rfl h1 (show zEv 25 51 0 0 [some (.ref 7), some (.int v1), some (.int v2)] [] (zGs Ln I (zw A 8 ((v1).toNatClampNeg) ((Int32.toInt16 v2).toInt32))) r from zEv.lift 1 (fun _ => by with_unfolding_all rfl) (show zEv 25 61 0 0 [some (.ref 7), some (.int v1), some (.int v2)] [] (zGs Ln I (zw A 8 ((v1).toNatClampNeg) ((Int32.toInt16 v2).toInt32))) r from hk)))
set_option maxRecDepth 100000 in
theorem B_X4_write_r7_54 (Ln : Nat) (I A : Nat → Nat → Int32) (v1 : Int32) (v2 : Int32) {r : zRs} (h1 : zin v1 60 = true) (hk : zEv 25 61 0 0 [some (.ref 7), some (.int v1), some (.int v2)] [] (zGs Ln I (zw A 8 ((v1).toNatClampNeg) v2)) r) : zEv 25 54 0 0 [some (.ref 7), some (.int v1), some (.int v2)] [] (zGs Ln I A) r := 
  zEv.lift 4 (fun _ => by with_unfolding_all rfl) (show zEv 25 60 0 0 [some (.ref 7), some (.int v1), some (.int v2)] [.int v2, .int v1, .ref 8] (zGs Ln I A) r from zEv.iast rfl rfl h1 (show zEv 25 61 0 0 [some (.ref 7), some (.int v1), some (.int v2)] [] (zGs Ln I (zw A 8 ((v1).toNatClampNeg) v2)) r from hk))
set_option maxRecDepth 100000 in
theorem B_X4_write_r7_61 (Ln : Nat) (I A : Nat → Nat → Int32) (v1 : Int32) (v2 : Int32)   : zEv 25 61 0 0 [some (.ref 7), some (.int v1), some (.int v2)] [] (zGs Ln I A) (none, zGs Ln (I) (A)) := 
  zEv.ret rfl
set_option maxRecDepth 100000 in
theorem B_X4_write_r9_0 (Ln : Nat) (I A : Nat → Nat → Int32) (v1 : Int32) (v2 : Int32) {r : zRs}  (k0 : (I 9 2 : Int32).toInt = 0 → zEv 25 32 0 0 [some (.ref 9), some (.int v1), some (.int v2)] [] (zGs Ln I A) r) (k1 : (I 9 2 : Int32).toInt = 1 → zEv 25 43 0 0 [some (.ref 9), some (.int v1), some (.int v2)] [] (zGs Ln I A) r) (kd : ¬ (I 9 2 : Int32).toInt = 0 → ¬ (I 9 2 : Int32).toInt = 1 → zEv 25 54 0 0 [some (.ref 9), some (.int v1), some (.int v2)] [] (zGs Ln I A) r) : zEv 25 0 0 0 [some (.ref 9), some (.int v1), some (.int v2)] [] (zGs Ln I A) r := 
  zEv.lift 2 (fun _ => by with_unfolding_all rfl) (show zEv 25 4 0 0 [some (.ref 9), some (.int v1), some (.int v2)] [.int (I 9 2)] (zGs Ln I A) r from (by
    by_cases c0 : (I 9 2 : Int32).toInt = 0
    · exact zEv.swl (off := 28) (tgt := 32) rfl (by simp [zsw, zkeys, c0]) rfl (k0 c0)
    · by_cases c1 : (I 9 2 : Int32).toInt = 1
      · exact zEv.swl (off := 39) (tgt := 43) rfl (by simp [zsw, zkeys, c1]) rfl (k1 c1)
      · exact zEv.swl (off := 50) (tgt := 54) rfl (by simp [zsw, zkeys, c0, c1]) rfl (kd c0 c1)))
set_option maxRecDepth 100000 in
theorem B_X4_write_r9_32 (Ln : Nat) (I A : Nat → Nat → Int32) (v1 : Int32) (v2 : Int32) {r : zRs} (h1 : zin v1 60 = true) (hk : zEv 25 61 0 0 [some (.ref 9), some (.int v1), some (.int v2)] [] (zGs Ln I (zw A 10 ((v1).toNatClampNeg) ((Int32.toInt8 v2).toInt32))) r) : zEv 25 32 0 0 [some (.ref 9), some (.int v1), some (.int v2)] [] (zGs Ln I A) r := 
  zEv.lift 5 (fun _ => by with_unfolding_all rfl) (show zEv 25 39 0 0 [some (.ref 9), some (.int v1), some (.int v2)] [.int ((Int32.toInt8 v2).toInt32), .int v1, .ref 10] (zGs Ln I A) r from zEv.iast rfl rfl h1 (show zEv 25 40 0 0 [some (.ref 9), some (.int v1), some (.int v2)] [] (zGs Ln I (zw A 10 ((v1).toNatClampNeg) ((Int32.toInt8 v2).toInt32))) r from zEv.lift 1 (fun _ => by with_unfolding_all rfl) (show zEv 25 61 0 0 [some (.ref 9), some (.int v1), some (.int v2)] [] (zGs Ln I (zw A 10 ((v1).toNatClampNeg) ((Int32.toInt8 v2).toInt32))) r from hk)))
set_option maxRecDepth 100000 in
theorem B_X4_write_r9_43 (Ln : Nat) (I A : Nat → Nat → Int32) (v1 : Int32) (v2 : Int32) {r : zRs} (h1 : zin v1 60 = true) (hk : zEv 25 61 0 0 [some (.ref 9), some (.int v1), some (.int v2)] [] (zGs Ln I (zw A 10 ((v1).toNatClampNeg) ((Int32.toInt16 v2).toInt32))) r) : zEv 25 43 0 0 [some (.ref 9), some (.int v1), some (.int v2)] [] (zGs Ln I A) r := 
  zEv.lift 5 (fun _ => by with_unfolding_all rfl) (show zEv 25 50 0 0 [some (.ref 9), some (.int v1), some (.int v2)] [.int ((Int32.toInt16 v2).toInt32), .int v1, .ref 10] (zGs Ln I A) r from zEv.iast rfl rfl h1 (show zEv 25 51 0 0 [some (.ref 9), some (.int v1), some (.int v2)] [] (zGs Ln I (zw A 10 ((v1).toNatClampNeg) ((Int32.toInt16 v2).toInt32))) r from zEv.lift 1 (fun _ => by with_unfolding_all rfl) (show zEv 25 61 0 0 [some (.ref 9), some (.int v1), some (.int v2)] [] (zGs Ln I (zw A 10 ((v1).toNatClampNeg) ((Int32.toInt16 v2).toInt32))) r from hk)))
set_option maxRecDepth 100000 in
theorem B_X4_write_r9_54 (Ln : Nat) (I A : Nat → Nat → Int32) (v1 : Int32) (v2 : Int32) {r : zRs} (h1 : zin v1 60 = true) (hk : zEv 25 61 0 0 [some (.ref 9), some (.int v1), some (.int v2)] [] (zGs Ln I (zw A 10 ((v1).toNatClampNeg) v2)) r) : zEv 25 54 0 0 [some (.ref 9), some (.int v1), some (.int v2)] [] (zGs Ln I A) r := 
  zEv.lift 4 (fun _ => by with_unfolding_all rfl) (show zEv 25 60 0 0 [some (.ref 9), some (.int v1), some (.int v2)] [.int v2, .int v1, .ref 10] (zGs Ln I A) r from zEv.iast rfl rfl h1 (show zEv 25 61 0 0 [some (.ref 9), some (.int v1), some (.int v2)] [] (zGs Ln I (zw A 10 ((v1).toNatClampNeg) v2)) r from hk))
set_option maxRecDepth 100000 in
theorem B_X4_write_r9_61 (Ln : Nat) (I A : Nat → Nat → Int32) (v1 : Int32) (v2 : Int32)   : zEv 25 61 0 0 [some (.ref 9), some (.int v1), some (.int v2)] [] (zGs Ln I A) (none, zGs Ln (I) (A)) := 
  zEv.ret rfl
set_option maxRecDepth 100000 in
theorem B_X4_holds_r3_0 (Ln : Nat) (I A : Nat → Nat → Int32) (v1 : Int32) (v2 : Int32) {r : zRs}  (kt : v1 < 0 → zEv 23 26 0 0 [some (.ref 3), some (.int v1), some (.int v2)] [] (zGs Ln I A) r) (kf : ¬ (v1 < 0) → zEv 23 4 0 0 [some (.ref 3), some (.int v1), some (.int v2)] [] (zGs Ln I A) r) : zEv 23 0 0 0 [some (.ref 3), some (.int v1), some (.int v2)] [] (zGs Ln I A) r := 
  zEv.lift 1 (fun _ => by with_unfolding_all rfl) (show zEv 23 1 0 0 [some (.ref 3), some (.int v1), some (.int v2)] [.int v1] (zGs Ln I A) r from zEv.br0 (tgt := 26) rfl rfl (fun h => kt (of_decide_eq_true h)) (fun h => kf (of_decide_eq_false h)))
set_option maxRecDepth 100000 in
theorem B_X4_holds_r3_4 (Ln : Nat) (I A : Nat → Nat → Int32) (v1 : Int32) (v2 : Int32) {r : zRs}  (kt : (I 3 3) < v1 → zEv 23 26 0 0 [some (.ref 3), some (.int v1), some (.int v2)] [] (zGs Ln I A) r) (kf : ¬ ((I 3 3) < v1) → zEv 23 12 0 0 [some (.ref 3), some (.int v1), some (.int v2)] [] (zGs Ln I A) r) : zEv 23 4 0 0 [some (.ref 3), some (.int v1), some (.int v2)] [] (zGs Ln I A) r := 
  zEv.lift 3 (fun _ => by with_unfolding_all rfl) (show zEv 23 9 0 0 [some (.ref 3), some (.int v1), some (.int v2)] [.int (I 3 3), .int v1] (zGs Ln I A) r from zEv.br (tgt := 26) rfl rfl (fun h => kt (of_decide_eq_true h)) (fun h => kf (of_decide_eq_false h)))
set_option maxRecDepth 100000 in
theorem B_X4_holds_r3_12 (Ln : Nat) (I A : Nat → Nat → Int32) (v1 : Int32) (v2 : Int32) {r : zRs}  (kt : ((I 3 3) - v1) < v2 → zEv 23 26 0 0 [some (.ref 3), some (.int v1), some (.int v2)] [] (zGs Ln I A) r) (kf : ¬ (((I 3 3) - v1) < v2) → zEv 23 22 0 0 [some (.ref 3), some (.int v1), some (.int v2)] [] (zGs Ln I A) r) : zEv 23 12 0 0 [some (.ref 3), some (.int v1), some (.int v2)] [] (zGs Ln I A) r := 
  zEv.lift 5 (fun _ => by with_unfolding_all rfl) (show zEv 23 19 0 0 [some (.ref 3), some (.int v1), some (.int v2)] [.int ((I 3 3) - v1), .int v2] (zGs Ln I A) r from zEv.br (tgt := 26) rfl rfl (fun h => kt (of_decide_eq_true h)) (fun h => kf (of_decide_eq_false h)))
set_option maxRecDepth 100000 in
theorem B_X4_holds_r3_22 (Ln : Nat) (I A : Nat → Nat → Int32) (v1 : Int32) (v2 : Int32) {r : zRs}  (hk : zEv 23 27 0 0 [some (.ref 3), some (.int v1), some (.int v2)] [.int 1] (zGs Ln I A) r) : zEv 23 22 0 0 [some (.ref 3), some (.int v1), some (.int v2)] [] (zGs Ln I A) r := 
  zEv.lift 2 (fun _ => by with_unfolding_all rfl) (show zEv 23 27 0 0 [some (.ref 3), some (.int v1), some (.int v2)] [.int 1] (zGs Ln I A) r from hk)
set_option maxRecDepth 100000 in
theorem B_X4_holds_r3_26 (Ln : Nat) (I A : Nat → Nat → Int32) (v1 : Int32) (v2 : Int32) {r : zRs}  (hk : zEv 23 27 0 0 [some (.ref 3), some (.int v1), some (.int v2)] [.int 0] (zGs Ln I A) r) : zEv 23 26 0 0 [some (.ref 3), some (.int v1), some (.int v2)] [] (zGs Ln I A) r := 
  zEv.lift 1 (fun _ => by with_unfolding_all rfl) (show zEv 23 27 0 0 [some (.ref 3), some (.int v1), some (.int v2)] [.int 0] (zGs Ln I A) r from hk)
set_option maxRecDepth 100000 in
theorem B_X4_holds_r3_27_s1 (Ln : Nat) (I A : Nat → Nat → Int32) (v1 : Int32) (v2 : Int32) (s0 : Int32) (hb : s0 = 0 ∨ s0 = 1)  : zEv 23 27 0 0 [some (.ref 3), some (.int v1), some (.int v2)] [.int s0] (zGs Ln I A) (some (.int s0), zGs Ln (I) (A)) := 
  (by rcases hb with hb | hb <;> rw [hb] <;> exact zEv.ret rfl)
set_option maxRecDepth 100000 in
theorem B_X4_holds_r5_0 (Ln : Nat) (I A : Nat → Nat → Int32) (v1 : Int32) (v2 : Int32) {r : zRs}  (kt : v1 < 0 → zEv 23 26 0 0 [some (.ref 5), some (.int v1), some (.int v2)] [] (zGs Ln I A) r) (kf : ¬ (v1 < 0) → zEv 23 4 0 0 [some (.ref 5), some (.int v1), some (.int v2)] [] (zGs Ln I A) r) : zEv 23 0 0 0 [some (.ref 5), some (.int v1), some (.int v2)] [] (zGs Ln I A) r := 
  zEv.lift 1 (fun _ => by with_unfolding_all rfl) (show zEv 23 1 0 0 [some (.ref 5), some (.int v1), some (.int v2)] [.int v1] (zGs Ln I A) r from zEv.br0 (tgt := 26) rfl rfl (fun h => kt (of_decide_eq_true h)) (fun h => kf (of_decide_eq_false h)))
set_option maxRecDepth 100000 in
theorem B_X4_holds_r5_4 (Ln : Nat) (I A : Nat → Nat → Int32) (v1 : Int32) (v2 : Int32) {r : zRs}  (kt : (I 5 3) < v1 → zEv 23 26 0 0 [some (.ref 5), some (.int v1), some (.int v2)] [] (zGs Ln I A) r) (kf : ¬ ((I 5 3) < v1) → zEv 23 12 0 0 [some (.ref 5), some (.int v1), some (.int v2)] [] (zGs Ln I A) r) : zEv 23 4 0 0 [some (.ref 5), some (.int v1), some (.int v2)] [] (zGs Ln I A) r := 
  zEv.lift 3 (fun _ => by with_unfolding_all rfl) (show zEv 23 9 0 0 [some (.ref 5), some (.int v1), some (.int v2)] [.int (I 5 3), .int v1] (zGs Ln I A) r from zEv.br (tgt := 26) rfl rfl (fun h => kt (of_decide_eq_true h)) (fun h => kf (of_decide_eq_false h)))
set_option maxRecDepth 100000 in
theorem B_X4_holds_r5_12 (Ln : Nat) (I A : Nat → Nat → Int32) (v1 : Int32) (v2 : Int32) {r : zRs}  (kt : ((I 5 3) - v1) < v2 → zEv 23 26 0 0 [some (.ref 5), some (.int v1), some (.int v2)] [] (zGs Ln I A) r) (kf : ¬ (((I 5 3) - v1) < v2) → zEv 23 22 0 0 [some (.ref 5), some (.int v1), some (.int v2)] [] (zGs Ln I A) r) : zEv 23 12 0 0 [some (.ref 5), some (.int v1), some (.int v2)] [] (zGs Ln I A) r := 
  zEv.lift 5 (fun _ => by with_unfolding_all rfl) (show zEv 23 19 0 0 [some (.ref 5), some (.int v1), some (.int v2)] [.int ((I 5 3) - v1), .int v2] (zGs Ln I A) r from zEv.br (tgt := 26) rfl rfl (fun h => kt (of_decide_eq_true h)) (fun h => kf (of_decide_eq_false h)))
set_option maxRecDepth 100000 in
theorem B_X4_holds_r5_22 (Ln : Nat) (I A : Nat → Nat → Int32) (v1 : Int32) (v2 : Int32) {r : zRs}  (hk : zEv 23 27 0 0 [some (.ref 5), some (.int v1), some (.int v2)] [.int 1] (zGs Ln I A) r) : zEv 23 22 0 0 [some (.ref 5), some (.int v1), some (.int v2)] [] (zGs Ln I A) r := 
  zEv.lift 2 (fun _ => by with_unfolding_all rfl) (show zEv 23 27 0 0 [some (.ref 5), some (.int v1), some (.int v2)] [.int 1] (zGs Ln I A) r from hk)
set_option maxRecDepth 100000 in
theorem B_X4_holds_r5_26 (Ln : Nat) (I A : Nat → Nat → Int32) (v1 : Int32) (v2 : Int32) {r : zRs}  (hk : zEv 23 27 0 0 [some (.ref 5), some (.int v1), some (.int v2)] [.int 0] (zGs Ln I A) r) : zEv 23 26 0 0 [some (.ref 5), some (.int v1), some (.int v2)] [] (zGs Ln I A) r := 
  zEv.lift 1 (fun _ => by with_unfolding_all rfl) (show zEv 23 27 0 0 [some (.ref 5), some (.int v1), some (.int v2)] [.int 0] (zGs Ln I A) r from hk)
set_option maxRecDepth 100000 in
theorem B_X4_holds_r5_27_s1 (Ln : Nat) (I A : Nat → Nat → Int32) (v1 : Int32) (v2 : Int32) (s0 : Int32) (hb : s0 = 0 ∨ s0 = 1)  : zEv 23 27 0 0 [some (.ref 5), some (.int v1), some (.int v2)] [.int s0] (zGs Ln I A) (some (.int s0), zGs Ln (I) (A)) := 
  (by rcases hb with hb | hb <;> rw [hb] <;> exact zEv.ret rfl)
set_option maxRecDepth 100000 in
theorem B_X4_holds_r7_0 (Ln : Nat) (I A : Nat → Nat → Int32) (v1 : Int32) (v2 : Int32) {r : zRs}  (kt : v1 < 0 → zEv 23 26 0 0 [some (.ref 7), some (.int v1), some (.int v2)] [] (zGs Ln I A) r) (kf : ¬ (v1 < 0) → zEv 23 4 0 0 [some (.ref 7), some (.int v1), some (.int v2)] [] (zGs Ln I A) r) : zEv 23 0 0 0 [some (.ref 7), some (.int v1), some (.int v2)] [] (zGs Ln I A) r := 
  zEv.lift 1 (fun _ => by with_unfolding_all rfl) (show zEv 23 1 0 0 [some (.ref 7), some (.int v1), some (.int v2)] [.int v1] (zGs Ln I A) r from zEv.br0 (tgt := 26) rfl rfl (fun h => kt (of_decide_eq_true h)) (fun h => kf (of_decide_eq_false h)))
set_option maxRecDepth 100000 in
theorem B_X4_holds_r7_4 (Ln : Nat) (I A : Nat → Nat → Int32) (v1 : Int32) (v2 : Int32) {r : zRs}  (kt : (I 7 3) < v1 → zEv 23 26 0 0 [some (.ref 7), some (.int v1), some (.int v2)] [] (zGs Ln I A) r) (kf : ¬ ((I 7 3) < v1) → zEv 23 12 0 0 [some (.ref 7), some (.int v1), some (.int v2)] [] (zGs Ln I A) r) : zEv 23 4 0 0 [some (.ref 7), some (.int v1), some (.int v2)] [] (zGs Ln I A) r := 
  zEv.lift 3 (fun _ => by with_unfolding_all rfl) (show zEv 23 9 0 0 [some (.ref 7), some (.int v1), some (.int v2)] [.int (I 7 3), .int v1] (zGs Ln I A) r from zEv.br (tgt := 26) rfl rfl (fun h => kt (of_decide_eq_true h)) (fun h => kf (of_decide_eq_false h)))
set_option maxRecDepth 100000 in
theorem B_X4_holds_r7_12 (Ln : Nat) (I A : Nat → Nat → Int32) (v1 : Int32) (v2 : Int32) {r : zRs}  (kt : ((I 7 3) - v1) < v2 → zEv 23 26 0 0 [some (.ref 7), some (.int v1), some (.int v2)] [] (zGs Ln I A) r) (kf : ¬ (((I 7 3) - v1) < v2) → zEv 23 22 0 0 [some (.ref 7), some (.int v1), some (.int v2)] [] (zGs Ln I A) r) : zEv 23 12 0 0 [some (.ref 7), some (.int v1), some (.int v2)] [] (zGs Ln I A) r := 
  zEv.lift 5 (fun _ => by with_unfolding_all rfl) (show zEv 23 19 0 0 [some (.ref 7), some (.int v1), some (.int v2)] [.int ((I 7 3) - v1), .int v2] (zGs Ln I A) r from zEv.br (tgt := 26) rfl rfl (fun h => kt (of_decide_eq_true h)) (fun h => kf (of_decide_eq_false h)))
set_option maxRecDepth 100000 in
theorem B_X4_holds_r7_22 (Ln : Nat) (I A : Nat → Nat → Int32) (v1 : Int32) (v2 : Int32) {r : zRs}  (hk : zEv 23 27 0 0 [some (.ref 7), some (.int v1), some (.int v2)] [.int 1] (zGs Ln I A) r) : zEv 23 22 0 0 [some (.ref 7), some (.int v1), some (.int v2)] [] (zGs Ln I A) r := 
  zEv.lift 2 (fun _ => by with_unfolding_all rfl) (show zEv 23 27 0 0 [some (.ref 7), some (.int v1), some (.int v2)] [.int 1] (zGs Ln I A) r from hk)
set_option maxRecDepth 100000 in
theorem B_X4_holds_r7_26 (Ln : Nat) (I A : Nat → Nat → Int32) (v1 : Int32) (v2 : Int32) {r : zRs}  (hk : zEv 23 27 0 0 [some (.ref 7), some (.int v1), some (.int v2)] [.int 0] (zGs Ln I A) r) : zEv 23 26 0 0 [some (.ref 7), some (.int v1), some (.int v2)] [] (zGs Ln I A) r := 
  zEv.lift 1 (fun _ => by with_unfolding_all rfl) (show zEv 23 27 0 0 [some (.ref 7), some (.int v1), some (.int v2)] [.int 0] (zGs Ln I A) r from hk)
set_option maxRecDepth 100000 in
theorem B_X4_holds_r7_27_s1 (Ln : Nat) (I A : Nat → Nat → Int32) (v1 : Int32) (v2 : Int32) (s0 : Int32) (hb : s0 = 0 ∨ s0 = 1)  : zEv 23 27 0 0 [some (.ref 7), some (.int v1), some (.int v2)] [.int s0] (zGs Ln I A) (some (.int s0), zGs Ln (I) (A)) := 
  (by rcases hb with hb | hb <;> rw [hb] <;> exact zEv.ret rfl)
set_option maxRecDepth 100000 in
theorem B_X4_holds_r9_0 (Ln : Nat) (I A : Nat → Nat → Int32) (v1 : Int32) (v2 : Int32) {r : zRs}  (kt : v1 < 0 → zEv 23 26 0 0 [some (.ref 9), some (.int v1), some (.int v2)] [] (zGs Ln I A) r) (kf : ¬ (v1 < 0) → zEv 23 4 0 0 [some (.ref 9), some (.int v1), some (.int v2)] [] (zGs Ln I A) r) : zEv 23 0 0 0 [some (.ref 9), some (.int v1), some (.int v2)] [] (zGs Ln I A) r := 
  zEv.lift 1 (fun _ => by with_unfolding_all rfl) (show zEv 23 1 0 0 [some (.ref 9), some (.int v1), some (.int v2)] [.int v1] (zGs Ln I A) r from zEv.br0 (tgt := 26) rfl rfl (fun h => kt (of_decide_eq_true h)) (fun h => kf (of_decide_eq_false h)))
set_option maxRecDepth 100000 in
theorem B_X4_holds_r9_4 (Ln : Nat) (I A : Nat → Nat → Int32) (v1 : Int32) (v2 : Int32) {r : zRs}  (kt : (I 9 3) < v1 → zEv 23 26 0 0 [some (.ref 9), some (.int v1), some (.int v2)] [] (zGs Ln I A) r) (kf : ¬ ((I 9 3) < v1) → zEv 23 12 0 0 [some (.ref 9), some (.int v1), some (.int v2)] [] (zGs Ln I A) r) : zEv 23 4 0 0 [some (.ref 9), some (.int v1), some (.int v2)] [] (zGs Ln I A) r := 
  zEv.lift 3 (fun _ => by with_unfolding_all rfl) (show zEv 23 9 0 0 [some (.ref 9), some (.int v1), some (.int v2)] [.int (I 9 3), .int v1] (zGs Ln I A) r from zEv.br (tgt := 26) rfl rfl (fun h => kt (of_decide_eq_true h)) (fun h => kf (of_decide_eq_false h)))
set_option maxRecDepth 100000 in
theorem B_X4_holds_r9_12 (Ln : Nat) (I A : Nat → Nat → Int32) (v1 : Int32) (v2 : Int32) {r : zRs}  (kt : ((I 9 3) - v1) < v2 → zEv 23 26 0 0 [some (.ref 9), some (.int v1), some (.int v2)] [] (zGs Ln I A) r) (kf : ¬ (((I 9 3) - v1) < v2) → zEv 23 22 0 0 [some (.ref 9), some (.int v1), some (.int v2)] [] (zGs Ln I A) r) : zEv 23 12 0 0 [some (.ref 9), some (.int v1), some (.int v2)] [] (zGs Ln I A) r := 
  zEv.lift 5 (fun _ => by with_unfolding_all rfl) (show zEv 23 19 0 0 [some (.ref 9), some (.int v1), some (.int v2)] [.int ((I 9 3) - v1), .int v2] (zGs Ln I A) r from zEv.br (tgt := 26) rfl rfl (fun h => kt (of_decide_eq_true h)) (fun h => kf (of_decide_eq_false h)))
set_option maxRecDepth 100000 in
theorem B_X4_holds_r9_22 (Ln : Nat) (I A : Nat → Nat → Int32) (v1 : Int32) (v2 : Int32) {r : zRs}  (hk : zEv 23 27 0 0 [some (.ref 9), some (.int v1), some (.int v2)] [.int 1] (zGs Ln I A) r) : zEv 23 22 0 0 [some (.ref 9), some (.int v1), some (.int v2)] [] (zGs Ln I A) r := 
  zEv.lift 2 (fun _ => by with_unfolding_all rfl) (show zEv 23 27 0 0 [some (.ref 9), some (.int v1), some (.int v2)] [.int 1] (zGs Ln I A) r from hk)
set_option maxRecDepth 100000 in
theorem B_X4_holds_r9_26 (Ln : Nat) (I A : Nat → Nat → Int32) (v1 : Int32) (v2 : Int32) {r : zRs}  (hk : zEv 23 27 0 0 [some (.ref 9), some (.int v1), some (.int v2)] [.int 0] (zGs Ln I A) r) : zEv 23 26 0 0 [some (.ref 9), some (.int v1), some (.int v2)] [] (zGs Ln I A) r := 
  zEv.lift 1 (fun _ => by with_unfolding_all rfl) (show zEv 23 27 0 0 [some (.ref 9), some (.int v1), some (.int v2)] [.int 0] (zGs Ln I A) r from hk)
set_option maxRecDepth 100000 in
theorem B_X4_holds_r9_27_s1 (Ln : Nat) (I A : Nat → Nat → Int32) (v1 : Int32) (v2 : Int32) (s0 : Int32) (hb : s0 = 0 ∨ s0 = 1)  : zEv 23 27 0 0 [some (.ref 9), some (.int v1), some (.int v2)] [.int s0] (zGs Ln I A) (some (.int s0), zGs Ln (I) (A)) := 
  (by rcases hb with hb | hb <;> rw [hb] <;> exact zEv.ret rfl)
set_option maxRecDepth 100000 in
theorem B_X5_mayStand_0 (Ln : Nat) (I A : Nat → Nat → Int32) (v0 : Int32) (v1 : Int32) (v2 : Int32) {r : zRs}  (kt : 5 ≤ v0 → zEv 27 12 0 0 [some (.int v0), some (.int v1), some (.int v2)] [] (zGs Ln I A) r) (kf : ¬ (5 ≤ v0) → zEv 27 5 0 0 [some (.int v0), some (.int v1), some (.int v2)] [] (zGs Ln I A) r) : zEv 27 0 0 0 [some (.int v0), some (.int v1), some (.int v2)] [] (zGs Ln I A) r := 
  zEv.lift 2 (fun _ => by with_unfolding_all rfl) (show zEv 27 2 0 0 [some (.int v0), some (.int v1), some (.int v2)] [.int 5, .int v0] (zGs Ln I A) r from zEv.br (tgt := 12) rfl rfl (fun h => kt (of_decide_eq_true h)) (fun h => kf (of_decide_eq_false h)))
set_option maxRecDepth 100000 in
theorem B_X5_mayStand_5 (Ln : Nat) (I A : Nat → Nat → Int32) (v0 : Int32) (v1 : Int32) (v2 : Int32) {r : zRs}  {q : zRs} (hc : zEv 28 0 0 0 [some (.int v0), some (.int v1), some (.int v2)] [] (zGs Ln I A) q) {w : Int32} (hn : q.1 = some (.int w)) (hk : zEv 27 11 0 0 [some (.int v0), some (.int v1), some (.int v2)] (.int w :: []) q.2 r) : zEv 27 5 0 0 [some (.int v0), some (.int v1), some (.int v2)] [] (zGs Ln I A) r := 
  zEv.lift 3 (fun _ => by with_unfolding_all rfl) (show zEv 27 8 0 0 [some (.int v0), some (.int v1), some (.int v2)] [.int v2, .int v1, .int v0] (zGs Ln I A) r from zEv.call (as := [.int v0, .int v1, .int v2]) rfl (fun _ => rfl) (Nat.le_of_ble_eq_true rfl) hc (by rw [hn]; exact hk))
set_option maxRecDepth 100000 in
theorem B_X5_mayStand_11_s1 (Ln : Nat) (I A : Nat → Nat → Int32) (v0 : Int32) (v1 : Int32) (v2 : Int32) (s0 : Int32) (hb : s0 = 0 ∨ s0 = 1)  : zEv 27 11 0 0 [some (.int v0), some (.int v1), some (.int v2)] [.int s0] (zGs Ln I A) (some (.int s0), zGs Ln (I) (A)) := 
  (by rcases hb with hb | hb <;> rw [hb] <;> exact zEv.ret rfl)
set_option maxRecDepth 100000 in
theorem B_X5_mayStand_12 (Ln : Nat) (I A : Nat → Nat → Int32) (v0 : Int32) (v1 : Int32) (v2 : Int32) {r : zRs}  (kt : 41 ≤ v0 → zEv 27 35 0 0 [some (.int v0), some (.int v1), some (.int v2)] [] (zGs Ln I A) r) (kf : ¬ (41 ≤ v0) → zEv 27 18 0 0 [some (.int v0), some (.int v1), some (.int v2)] [] (zGs Ln I A) r) : zEv 27 12 0 0 [some (.int v0), some (.int v1), some (.int v2)] [] (zGs Ln I A) r := 
  zEv.lift 2 (fun _ => by with_unfolding_all rfl) (show zEv 27 15 0 0 [some (.int v0), some (.int v1), some (.int v2)] [.int 41, .int v0] (zGs Ln I A) r from zEv.br (tgt := 35) rfl rfl (fun h => kt (of_decide_eq_true h)) (fun h => kf (of_decide_eq_false h)))
set_option maxRecDepth 100000 in
theorem B_X5_mayStand_18 (Ln : Nat) (I A : Nat → Nat → Int32) (v0 : Int32) (v1 : Int32) (v2 : Int32) {r : zRs}  {q : zRs} (hc : zEv 29 0 0 0 [some (.int ((v0 - 5) - (v0 - 5) / 6 * 6)), some (.int v1)] [] (zGs Ln I A) q) {w : Int32} (hn : q.1 = some (.int w)) (hk : zEv 27 28 0 0 [some (.int v0), some (.int v1), some (.int v2)] (.int w :: []) q.2 r) : zEv 27 18 0 0 [some (.int v0), some (.int v1), some (.int v2)] [] (zGs Ln I A) r := 
  zEv.lift 6 (fun _ => by with_unfolding_all rfl) (show zEv 27 25 0 0 [some (.int v0), some (.int v1), some (.int v2)] [.int v1, .int ((v0 - 5) - (v0 - 5) / 6 * 6)] (zGs Ln I A) r from zEv.call (as := [.int ((v0 - 5) - (v0 - 5) / 6 * 6), .int v1]) rfl (fun _ => rfl) (Nat.le_of_ble_eq_true rfl) hc (by rw [hn]; exact hk))
set_option maxRecDepth 100000 in
theorem B_X5_mayStand_28_s1 (Ln : Nat) (I A : Nat → Nat → Int32) (v0 : Int32) (v1 : Int32) (v2 : Int32) (s0 : Int32) {r : zRs}  (kt : s0 = 0 → zEv 27 35 0 0 [some (.int v0), some (.int v1), some (.int v2)] [] (zGs Ln I A) r) (kf : ¬ (s0 = 0) → zEv 27 31 0 0 [some (.int v0), some (.int v1), some (.int v2)] [] (zGs Ln I A) r) : zEv 27 28 0 0 [some (.int v0), some (.int v1), some (.int v2)] [.int s0] (zGs Ln I A) r := 
  zEv.br0 (tgt := 35) rfl rfl (fun h => kt (of_decide_eq_true h)) (fun h => kf (of_decide_eq_false h))
set_option maxRecDepth 100000 in
theorem B_X5_mayStand_31 (Ln : Nat) (I A : Nat → Nat → Int32) (v0 : Int32) (v1 : Int32) (v2 : Int32) {r : zRs}  (hk : zEv 27 36 0 0 [some (.int v0), some (.int v1), some (.int v2)] [.int 1] (zGs Ln I A) r) : zEv 27 31 0 0 [some (.int v0), some (.int v1), some (.int v2)] [] (zGs Ln I A) r := 
  zEv.lift 2 (fun _ => by with_unfolding_all rfl) (show zEv 27 36 0 0 [some (.int v0), some (.int v1), some (.int v2)] [.int 1] (zGs Ln I A) r from hk)
set_option maxRecDepth 100000 in
theorem B_X5_mayStand_35 (Ln : Nat) (I A : Nat → Nat → Int32) (v0 : Int32) (v1 : Int32) (v2 : Int32) {r : zRs}  (hk : zEv 27 36 0 0 [some (.int v0), some (.int v1), some (.int v2)] [.int 0] (zGs Ln I A) r) : zEv 27 35 0 0 [some (.int v0), some (.int v1), some (.int v2)] [] (zGs Ln I A) r := 
  zEv.lift 1 (fun _ => by with_unfolding_all rfl) (show zEv 27 36 0 0 [some (.int v0), some (.int v1), some (.int v2)] [.int 0] (zGs Ln I A) r from hk)
set_option maxRecDepth 100000 in
theorem B_X5_mayStand_36_s1 (Ln : Nat) (I A : Nat → Nat → Int32) (v0 : Int32) (v1 : Int32) (v2 : Int32) (s0 : Int32) (hb : s0 = 0 ∨ s0 = 1)  : zEv 27 36 0 0 [some (.int v0), some (.int v1), some (.int v2)] [.int s0] (zGs Ln I A) (some (.int s0), zGs Ln (I) (A)) := 
  (by rcases hb with hb | hb <;> rw [hb] <;> exact zEv.ret rfl)
set_option maxRecDepth 100000 in
theorem B_X5_digit_r4_0 (Ln : Nat) (I A : Nat → Nat → Int32) (v1 : Int32) (h1 : zin v1 60 = true)  : zEv 32 0 0 0 [some (.ref 4), some (.int v1)] [] (zGs Ln I A) (some (.int ((A 4 (v1).toNatClampNeg) - 48)), zGs Ln (I) (A)) := 
  zEv.lift 2 (fun _ => by with_unfolding_all rfl) (show zEv 32 2 0 0 [some (.ref 4), some (.int v1)] [.int v1, .ref 4] (zGs Ln I A) (some (.int ((A 4 (v1).toNatClampNeg) - 48)), zGs Ln (I) (A)) from zEv.iald rfl (Or.inl rfl) h1 (show zEv 32 3 0 0 [some (.ref 4), some (.int v1)] [.int (A 4 (v1).toNatClampNeg)] (zGs Ln I A) (some (.int ((A 4 (v1).toNatClampNeg) - 48)), zGs Ln (I) (A)) from zEv.lift 2 (fun _ => by with_unfolding_all rfl) (show zEv 32 6 0 0 [some (.ref 4), some (.int v1)] [.int ((A 4 (v1).toNatClampNeg) - 48)] (zGs Ln I A) (some (.int ((A 4 (v1).toNatClampNeg) - 48)), zGs Ln (I) (A)) from zEv.ret rfl)))
set_option maxRecDepth 100000 in
theorem B_X5_digit_r6_0 (Ln : Nat) (I A : Nat → Nat → Int32) (v1 : Int32) (h1 : zin v1 60 = true)  : zEv 32 0 0 0 [some (.ref 6), some (.int v1)] [] (zGs Ln I A) (some (.int ((A 6 (v1).toNatClampNeg) - 48)), zGs Ln (I) (A)) := 
  zEv.lift 2 (fun _ => by with_unfolding_all rfl) (show zEv 32 2 0 0 [some (.ref 6), some (.int v1)] [.int v1, .ref 6] (zGs Ln I A) (some (.int ((A 6 (v1).toNatClampNeg) - 48)), zGs Ln (I) (A)) from zEv.iald rfl (Or.inl rfl) h1 (show zEv 32 3 0 0 [some (.ref 6), some (.int v1)] [.int (A 6 (v1).toNatClampNeg)] (zGs Ln I A) (some (.int ((A 6 (v1).toNatClampNeg) - 48)), zGs Ln (I) (A)) from zEv.lift 2 (fun _ => by with_unfolding_all rfl) (show zEv 32 6 0 0 [some (.ref 6), some (.int v1)] [.int ((A 6 (v1).toNatClampNeg) - 48)] (zGs Ln I A) (some (.int ((A 6 (v1).toNatClampNeg) - 48)), zGs Ln (I) (A)) from zEv.ret rfl)))
set_option maxRecDepth 100000 in
theorem B_X5_digit_r8_0 (Ln : Nat) (I A : Nat → Nat → Int32) (v1 : Int32) (h1 : zin v1 60 = true)  : zEv 32 0 0 0 [some (.ref 8), some (.int v1)] [] (zGs Ln I A) (some (.int ((A 8 (v1).toNatClampNeg) - 48)), zGs Ln (I) (A)) := 
  zEv.lift 2 (fun _ => by with_unfolding_all rfl) (show zEv 32 2 0 0 [some (.ref 8), some (.int v1)] [.int v1, .ref 8] (zGs Ln I A) (some (.int ((A 8 (v1).toNatClampNeg) - 48)), zGs Ln (I) (A)) from zEv.iald rfl (Or.inl rfl) h1 (show zEv 32 3 0 0 [some (.ref 8), some (.int v1)] [.int (A 8 (v1).toNatClampNeg)] (zGs Ln I A) (some (.int ((A 8 (v1).toNatClampNeg) - 48)), zGs Ln (I) (A)) from zEv.lift 2 (fun _ => by with_unfolding_all rfl) (show zEv 32 6 0 0 [some (.ref 8), some (.int v1)] [.int ((A 8 (v1).toNatClampNeg) - 48)] (zGs Ln I A) (some (.int ((A 8 (v1).toNatClampNeg) - 48)), zGs Ln (I) (A)) from zEv.ret rfl)))
set_option maxRecDepth 100000 in
theorem B_X5_digit_r10_0 (Ln : Nat) (I A : Nat → Nat → Int32) (v1 : Int32) (h1 : zin v1 60 = true)  : zEv 32 0 0 0 [some (.ref 10), some (.int v1)] [] (zGs Ln I A) (some (.int ((A 10 (v1).toNatClampNeg) - 48)), zGs Ln (I) (A)) := 
  zEv.lift 2 (fun _ => by with_unfolding_all rfl) (show zEv 32 2 0 0 [some (.ref 10), some (.int v1)] [.int v1, .ref 10] (zGs Ln I A) (some (.int ((A 10 (v1).toNatClampNeg) - 48)), zGs Ln (I) (A)) from zEv.iald rfl (Or.inl rfl) h1 (show zEv 32 3 0 0 [some (.ref 10), some (.int v1)] [.int (A 10 (v1).toNatClampNeg)] (zGs Ln I A) (some (.int ((A 10 (v1).toNatClampNeg) - 48)), zGs Ln (I) (A)) from zEv.lift 2 (fun _ => by with_unfolding_all rfl) (show zEv 32 6 0 0 [some (.ref 10), some (.int v1)] [.int ((A 10 (v1).toNatClampNeg) - 48)] (zGs Ln I A) (some (.int ((A 10 (v1).toNatClampNeg) - 48)), zGs Ln (I) (A)) from zEv.ret rfl)))
set_option maxRecDepth 100000 in
theorem B_X5_twoDigits_r4_0 (Ln : Nat) (I A : Nat → Nat → Int32) (v1 : Int32) {r : zRs}  {q : zRs} (hc : zEv 32 0 0 0 [some (.ref 4), some (.int v1)] [] (zGs Ln I A) q) {w : Int32} (hn : q.1 = some (.int w)) (hk : zEv 33 7 0 0 [some (.ref 4), some (.int v1)] (.int w :: [.int 10]) q.2 r) : zEv 33 0 0 0 [some (.ref 4), some (.int v1)] [] (zGs Ln I A) r := 
  zEv.lift 3 (fun _ => by with_unfolding_all rfl) (show zEv 33 4 0 0 [some (.ref 4), some (.int v1)] [.int v1, .ref 4, .int 10] (zGs Ln I A) r from zEv.call (as := [.ref 4, .int v1]) rfl (fun _ => rfl) (Nat.le_of_ble_eq_true rfl) hc (by rw [hn]; exact hk))
set_option maxRecDepth 100000 in
theorem B_X5_twoDigits_r4_7_s2 (Ln : Nat) (I A : Nat → Nat → Int32) (v1 : Int32) (s0 : Int32) (s1 : Int32) {r : zRs}  {q : zRs} (hc : zEv 32 0 0 0 [some (.ref 4), some (.int (v1 + 1))] [] (zGs Ln I A) q) {w : Int32} (hn : q.1 = some (.int w)) (hk : zEv 33 15 0 0 [some (.ref 4), some (.int v1)] (.int w :: [.int (s0 * s1)]) q.2 r) : zEv 33 7 0 0 [some (.ref 4), some (.int v1)] [.int s1, .int s0] (zGs Ln I A) r := 
  zEv.lift 5 (fun _ => by with_unfolding_all rfl) (show zEv 33 12 0 0 [some (.ref 4), some (.int v1)] [.int (v1 + 1), .ref 4, .int (s0 * s1)] (zGs Ln I A) r from zEv.call (as := [.ref 4, .int (v1 + 1)]) rfl (fun _ => rfl) (Nat.le_of_ble_eq_true rfl) hc (by rw [hn]; exact hk))
set_option maxRecDepth 100000 in
theorem B_X5_twoDigits_r4_15_s2 (Ln : Nat) (I A : Nat → Nat → Int32) (v1 : Int32) (s0 : Int32) (s1 : Int32)   : zEv 33 15 0 0 [some (.ref 4), some (.int v1)] [.int s1, .int s0] (zGs Ln I A) (some (.int (s0 + s1)), zGs Ln (I) (A)) := 
  zEv.lift 1 (fun _ => by with_unfolding_all rfl) (show zEv 33 16 0 0 [some (.ref 4), some (.int v1)] [.int (s0 + s1)] (zGs Ln I A) (some (.int (s0 + s1)), zGs Ln (I) (A)) from zEv.ret rfl)
set_option maxRecDepth 100000 in
theorem B_X5_twoDigits_r6_0 (Ln : Nat) (I A : Nat → Nat → Int32) (v1 : Int32) {r : zRs}  {q : zRs} (hc : zEv 32 0 0 0 [some (.ref 6), some (.int v1)] [] (zGs Ln I A) q) {w : Int32} (hn : q.1 = some (.int w)) (hk : zEv 33 7 0 0 [some (.ref 6), some (.int v1)] (.int w :: [.int 10]) q.2 r) : zEv 33 0 0 0 [some (.ref 6), some (.int v1)] [] (zGs Ln I A) r := 
  zEv.lift 3 (fun _ => by with_unfolding_all rfl) (show zEv 33 4 0 0 [some (.ref 6), some (.int v1)] [.int v1, .ref 6, .int 10] (zGs Ln I A) r from zEv.call (as := [.ref 6, .int v1]) rfl (fun _ => rfl) (Nat.le_of_ble_eq_true rfl) hc (by rw [hn]; exact hk))
set_option maxRecDepth 100000 in
theorem B_X5_twoDigits_r6_7_s2 (Ln : Nat) (I A : Nat → Nat → Int32) (v1 : Int32) (s0 : Int32) (s1 : Int32) {r : zRs}  {q : zRs} (hc : zEv 32 0 0 0 [some (.ref 6), some (.int (v1 + 1))] [] (zGs Ln I A) q) {w : Int32} (hn : q.1 = some (.int w)) (hk : zEv 33 15 0 0 [some (.ref 6), some (.int v1)] (.int w :: [.int (s0 * s1)]) q.2 r) : zEv 33 7 0 0 [some (.ref 6), some (.int v1)] [.int s1, .int s0] (zGs Ln I A) r := 
  zEv.lift 5 (fun _ => by with_unfolding_all rfl) (show zEv 33 12 0 0 [some (.ref 6), some (.int v1)] [.int (v1 + 1), .ref 6, .int (s0 * s1)] (zGs Ln I A) r from zEv.call (as := [.ref 6, .int (v1 + 1)]) rfl (fun _ => rfl) (Nat.le_of_ble_eq_true rfl) hc (by rw [hn]; exact hk))
set_option maxRecDepth 100000 in
theorem B_X5_twoDigits_r6_15_s2 (Ln : Nat) (I A : Nat → Nat → Int32) (v1 : Int32) (s0 : Int32) (s1 : Int32)   : zEv 33 15 0 0 [some (.ref 6), some (.int v1)] [.int s1, .int s0] (zGs Ln I A) (some (.int (s0 + s1)), zGs Ln (I) (A)) := 
  zEv.lift 1 (fun _ => by with_unfolding_all rfl) (show zEv 33 16 0 0 [some (.ref 6), some (.int v1)] [.int (s0 + s1)] (zGs Ln I A) (some (.int (s0 + s1)), zGs Ln (I) (A)) from zEv.ret rfl)
set_option maxRecDepth 100000 in
theorem B_X5_twoDigits_r8_0 (Ln : Nat) (I A : Nat → Nat → Int32) (v1 : Int32) {r : zRs}  {q : zRs} (hc : zEv 32 0 0 0 [some (.ref 8), some (.int v1)] [] (zGs Ln I A) q) {w : Int32} (hn : q.1 = some (.int w)) (hk : zEv 33 7 0 0 [some (.ref 8), some (.int v1)] (.int w :: [.int 10]) q.2 r) : zEv 33 0 0 0 [some (.ref 8), some (.int v1)] [] (zGs Ln I A) r := 
  zEv.lift 3 (fun _ => by with_unfolding_all rfl) (show zEv 33 4 0 0 [some (.ref 8), some (.int v1)] [.int v1, .ref 8, .int 10] (zGs Ln I A) r from zEv.call (as := [.ref 8, .int v1]) rfl (fun _ => rfl) (Nat.le_of_ble_eq_true rfl) hc (by rw [hn]; exact hk))
set_option maxRecDepth 100000 in
theorem B_X5_twoDigits_r8_7_s2 (Ln : Nat) (I A : Nat → Nat → Int32) (v1 : Int32) (s0 : Int32) (s1 : Int32) {r : zRs}  {q : zRs} (hc : zEv 32 0 0 0 [some (.ref 8), some (.int (v1 + 1))] [] (zGs Ln I A) q) {w : Int32} (hn : q.1 = some (.int w)) (hk : zEv 33 15 0 0 [some (.ref 8), some (.int v1)] (.int w :: [.int (s0 * s1)]) q.2 r) : zEv 33 7 0 0 [some (.ref 8), some (.int v1)] [.int s1, .int s0] (zGs Ln I A) r := 
  zEv.lift 5 (fun _ => by with_unfolding_all rfl) (show zEv 33 12 0 0 [some (.ref 8), some (.int v1)] [.int (v1 + 1), .ref 8, .int (s0 * s1)] (zGs Ln I A) r from zEv.call (as := [.ref 8, .int (v1 + 1)]) rfl (fun _ => rfl) (Nat.le_of_ble_eq_true rfl) hc (by rw [hn]; exact hk))
set_option maxRecDepth 100000 in
theorem B_X5_twoDigits_r8_15_s2 (Ln : Nat) (I A : Nat → Nat → Int32) (v1 : Int32) (s0 : Int32) (s1 : Int32)   : zEv 33 15 0 0 [some (.ref 8), some (.int v1)] [.int s1, .int s0] (zGs Ln I A) (some (.int (s0 + s1)), zGs Ln (I) (A)) := 
  zEv.lift 1 (fun _ => by with_unfolding_all rfl) (show zEv 33 16 0 0 [some (.ref 8), some (.int v1)] [.int (s0 + s1)] (zGs Ln I A) (some (.int (s0 + s1)), zGs Ln (I) (A)) from zEv.ret rfl)
set_option maxRecDepth 100000 in
theorem B_X5_twoDigits_r10_0 (Ln : Nat) (I A : Nat → Nat → Int32) (v1 : Int32) {r : zRs}  {q : zRs} (hc : zEv 32 0 0 0 [some (.ref 10), some (.int v1)] [] (zGs Ln I A) q) {w : Int32} (hn : q.1 = some (.int w)) (hk : zEv 33 7 0 0 [some (.ref 10), some (.int v1)] (.int w :: [.int 10]) q.2 r) : zEv 33 0 0 0 [some (.ref 10), some (.int v1)] [] (zGs Ln I A) r := 
  zEv.lift 3 (fun _ => by with_unfolding_all rfl) (show zEv 33 4 0 0 [some (.ref 10), some (.int v1)] [.int v1, .ref 10, .int 10] (zGs Ln I A) r from zEv.call (as := [.ref 10, .int v1]) rfl (fun _ => rfl) (Nat.le_of_ble_eq_true rfl) hc (by rw [hn]; exact hk))
set_option maxRecDepth 100000 in
theorem B_X5_twoDigits_r10_7_s2 (Ln : Nat) (I A : Nat → Nat → Int32) (v1 : Int32) (s0 : Int32) (s1 : Int32) {r : zRs}  {q : zRs} (hc : zEv 32 0 0 0 [some (.ref 10), some (.int (v1 + 1))] [] (zGs Ln I A) q) {w : Int32} (hn : q.1 = some (.int w)) (hk : zEv 33 15 0 0 [some (.ref 10), some (.int v1)] (.int w :: [.int (s0 * s1)]) q.2 r) : zEv 33 7 0 0 [some (.ref 10), some (.int v1)] [.int s1, .int s0] (zGs Ln I A) r := 
  zEv.lift 5 (fun _ => by with_unfolding_all rfl) (show zEv 33 12 0 0 [some (.ref 10), some (.int v1)] [.int (v1 + 1), .ref 10, .int (s0 * s1)] (zGs Ln I A) r from zEv.call (as := [.ref 10, .int (v1 + 1)]) rfl (fun _ => rfl) (Nat.le_of_ble_eq_true rfl) hc (by rw [hn]; exact hk))
set_option maxRecDepth 100000 in
theorem B_X5_twoDigits_r10_15_s2 (Ln : Nat) (I A : Nat → Nat → Int32) (v1 : Int32) (s0 : Int32) (s1 : Int32)   : zEv 33 15 0 0 [some (.ref 10), some (.int v1)] [.int s1, .int s0] (zGs Ln I A) (some (.int (s0 + s1)), zGs Ln (I) (A)) := 
  zEv.lift 1 (fun _ => by with_unfolding_all rfl) (show zEv 33 16 0 0 [some (.ref 10), some (.int v1)] [.int (s0 + s1)] (zGs Ln I A) (some (.int (s0 + s1)), zGs Ln (I) (A)) from zEv.ret rfl)
set_option maxRecDepth 100000 in
theorem B_X5_kindOf_0 (Ln : Nat) (I A : Nat → Nat → Int32) (v0 : Int32) {r : zRs}  (k0 : (v0 : Int32).toInt = 100 → zEv 31 30 0 0 [some (.int v0)] [] (zGs Ln I A) r) (k1 : (v0 : Int32).toInt = 108 → zEv 31 28 0 0 [some (.int v0)] [] (zGs Ln I A) r) (kd : ¬ (v0 : Int32).toInt = 100 → ¬ (v0 : Int32).toInt = 108 → zEv 31 32 0 0 [some (.int v0)] [] (zGs Ln I A) r) : zEv 31 0 0 0 [some (.int v0)] [] (zGs Ln I A) r := 
  zEv.lift 1 (fun _ => by with_unfolding_all rfl) (show zEv 31 1 0 0 [some (.int v0)] [.int v0] (zGs Ln I A) r from (by
    by_cases c0 : (v0 : Int32).toInt = 100
    · exact zEv.swl (off := 29) (tgt := 30) rfl (by simp [zsw, zkeys, c0]) rfl (k0 c0)
    · by_cases c1 : (v0 : Int32).toInt = 108
      · exact zEv.swl (off := 27) (tgt := 28) rfl (by simp [zsw, zkeys, c1]) rfl (k1 c1)
      · exact zEv.swl (off := 31) (tgt := 32) rfl (by simp [zsw, zkeys, c0, c1]) rfl (kd c0 c1)))
set_option maxRecDepth 100000 in
theorem B_X5_kindOf_28 (Ln : Nat) (I A : Nat → Nat → Int32) (v0 : Int32)   : zEv 31 28 0 0 [some (.int v0)] [] (zGs Ln I A) (some (.int 2), zGs Ln (I) (A)) := 
  zEv.lift 1 (fun _ => by with_unfolding_all rfl) (show zEv 31 29 0 0 [some (.int v0)] [.int 2] (zGs Ln I A) (some (.int 2), zGs Ln (I) (A)) from zEv.ret rfl)
set_option maxRecDepth 100000 in
theorem B_X5_kindOf_30 (Ln : Nat) (I A : Nat → Nat → Int32) (v0 : Int32)   : zEv 31 30 0 0 [some (.int v0)] [] (zGs Ln I A) (some (.int 1), zGs Ln (I) (A)) := 
  zEv.lift 1 (fun _ => by with_unfolding_all rfl) (show zEv 31 31 0 0 [some (.int v0)] [.int 1] (zGs Ln I A) (some (.int 1), zGs Ln (I) (A)) from zEv.ret rfl)
