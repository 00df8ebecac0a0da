/-! blocks, by program (wip/whole/gen_blk.py): 22d.front 1 -/
set_option maxRecDepth 100000 in
theorem B_X7_ofShade_r1_8 (Ln : Nat) (I A : Nat → Nat → Int32) (v1 : Int32) (v2 : Int32)   : zEv 47 8 0 0 [some (.ref 1), some (.int v1), some (.int v2)] [] (zGs Ln I A) (some (.int ((-1))), zGs Ln (I) (A)) := 
  zEv.lift 1 (fun _ => by with_unfolding_all rfl) (show zEv 47 9 0 0 [some (.ref 1), some (.int v1), some (.int v2)] [.int ((-1))] (zGs Ln I A) (some (.int ((-1))), zGs Ln (I) (A)) from zEv.ret rfl)
set_option maxRecDepth 100000 in
theorem B_X7_ofShade_r1_10 (Ln : Nat) (I A : Nat → Nat → Int32) (v1 : Int32) (v2 : Int32) {r : zRs}  (k0 : (v2 : Int32).toInt = 0 → zEv 47 52 0 0 [some (.ref 1), some (.int v1), some (.int v2)] [] (zGs Ln I A) r) (k1 : (v2 : Int32).toInt = 1 → zEv 47 62 0 0 [some (.ref 1), some (.int v1), some (.int v2)] [] (zGs Ln I A) r) (k2 : (v2 : Int32).toInt = 2 → zEv 47 72 0 0 [some (.ref 1), some (.int v1), some (.int v2)] [] (zGs Ln I A) r) (k3 : (v2 : Int32).toInt = 3 → zEv 47 82 0 0 [some (.ref 1), some (.int v1), some (.int v2)] [] (zGs Ln I A) r) (k4 : (v2 : Int32).toInt = 4 → zEv 47 92 0 0 [some (.ref 1), some (.int v1), some (.int v2)] [] (zGs Ln I A) r) (k5 : (v2 : Int32).toInt = 5 → zEv 47 101 0 0 [some (.ref 1), some (.int v1), some (.int v2)] [] (zGs Ln I A) r) (k6 : (v2 : Int32).toInt = 6 → zEv 47 110 0 0 [some (.ref 1), some (.int v1), some (.int v2)] [] (zGs Ln I A) r) (kd : ¬ (v2 : Int32).toInt = 0 → ¬ (v2 : Int32).toInt = 1 → ¬ (v2 : Int32).toInt = 2 → ¬ (v2 : Int32).toInt = 3 → ¬ (v2 : Int32).toInt = 4 → ¬ (v2 : Int32).toInt = 5 → ¬ (v2 : Int32).toInt = 6 → zEv 47 117 0 0 [some (.ref 1), some (.int v1), some (.int v2)] [] (zGs Ln I A) r) : zEv 47 10 0 0 [some (.ref 1), some (.int v1), some (.int v2)] [] (zGs Ln I A) r := 
  zEv.lift 1 (fun _ => by with_unfolding_all rfl) (show zEv 47 11 0 0 [some (.ref 1), some (.int v1), some (.int v2)] [.int v2] (zGs Ln I A) r from (by
    by_cases c0 : (v2 : Int32).toInt = 0
    · exact zEv.swt (off := 41) (tgt := 52) rfl (by simp [zsw, zkeys, c0]) rfl (k0 c0)
    · by_cases c1 : (v2 : Int32).toInt = 1
      · exact zEv.swt (off := 51) (tgt := 62) rfl (by simp [zsw, zkeys, c1]) rfl (k1 c1)
      · by_cases c2 : (v2 : Int32).toInt = 2
        · exact zEv.swt (off := 61) (tgt := 72) rfl (by simp [zsw, zkeys, c2]) rfl (k2 c2)
        · by_cases c3 : (v2 : Int32).toInt = 3
          · exact zEv.swt (off := 71) (tgt := 82) rfl (by simp [zsw, zkeys, c3]) rfl (k3 c3)
          · by_cases c4 : (v2 : Int32).toInt = 4
            · exact zEv.swt (off := 81) (tgt := 92) rfl (by simp [zsw, zkeys, c4]) rfl (k4 c4)
            · by_cases c5 : (v2 : Int32).toInt = 5
              · exact zEv.swt (off := 90) (tgt := 101) rfl (by simp [zsw, zkeys, c5]) rfl (k5 c5)
              · by_cases c6 : (v2 : Int32).toInt = 6
                · exact zEv.swt (off := 99) (tgt := 110) rfl (by simp [zsw, zkeys, c6]) rfl (k6 c6)
                · exact zEv.swt (off := 106) (tgt := 117) rfl (by simp [zsw, zkeys, c0, c1, c2, c3, c4, c5, c6]) rfl (kd c0 c1 c2 c3 c4 c5 c6)))
set_option maxRecDepth 100000 in
theorem B_X7_ofShade_r1_52 (Ln : Nat) (I A : Nat → Nat → Int32) (v1 : Int32) (v2 : Int32) (h1 : zin v1 6 = true)  : zEv 47 52 0 0 [some (.ref 1), some (.int v1), some (.int v2)] [] (zGs Ln I A) (some (.int (A 12 (v1).toNatClampNeg)), zGs Ln (I) (A)) := 
  zEv.lift 4 (fun _ => by with_unfolding_all rfl) (show zEv 47 60 0 0 [some (.ref 1), some (.int v1), some (.int v2)] [.int v1, .ref 12] (zGs Ln I A) (some (.int (A 12 (v1).toNatClampNeg)), zGs Ln (I) (A)) from zEv.iald rfl (Or.inl rfl) h1 (show zEv 47 61 0 0 [some (.ref 1), some (.int v1), some (.int v2)] [.int (A 12 (v1).toNatClampNeg)] (zGs Ln I A) (some (.int (A 12 (v1).toNatClampNeg)), zGs Ln (I) (A)) from zEv.ret rfl))
set_option maxRecDepth 100000 in
theorem B_X7_ofShade_r1_62 (Ln : Nat) (I A : Nat → Nat → Int32) (v1 : Int32) (v2 : Int32) (h1 : zin v1 6 = true)  : zEv 47 62 0 0 [some (.ref 1), some (.int v1), some (.int v2)] [] (zGs Ln I A) (some (.int (A 13 (v1).toNatClampNeg)), zGs Ln (I) (A)) := 
  zEv.lift 4 (fun _ => by with_unfolding_all rfl) (show zEv 47 70 0 0 [some (.ref 1), some (.int v1), some (.int v2)] [.int v1, .ref 13] (zGs Ln I A) (some (.int (A 13 (v1).toNatClampNeg)), zGs Ln (I) (A)) from zEv.iald rfl (Or.inl rfl) h1 (show zEv 47 71 0 0 [some (.ref 1), some (.int v1), some (.int v2)] [.int (A 13 (v1).toNatClampNeg)] (zGs Ln I A) (some (.int (A 13 (v1).toNatClampNeg)), zGs Ln (I) (A)) from zEv.ret rfl))
set_option maxRecDepth 100000 in
theorem B_X7_ofShade_r1_72 (Ln : Nat) (I A : Nat → Nat → Int32) (v1 : Int32) (v2 : Int32) (h1 : zin v1 6 = true)  : zEv 47 72 0 0 [some (.ref 1), some (.int v1), some (.int v2)] [] (zGs Ln I A) (some (.int (A 14 (v1).toNatClampNeg)), zGs Ln (I) (A)) := 
  zEv.lift 4 (fun _ => by with_unfolding_all rfl) (show zEv 47 80 0 0 [some (.ref 1), some (.int v1), some (.int v2)] [.int v1, .ref 14] (zGs Ln I A) (some (.int (A 14 (v1).toNatClampNeg)), zGs Ln (I) (A)) from zEv.iald rfl (Or.inl rfl) h1 (show zEv 47 81 0 0 [some (.ref 1), some (.int v1), some (.int v2)] [.int (A 14 (v1).toNatClampNeg)] (zGs Ln I A) (some (.int (A 14 (v1).toNatClampNeg)), zGs Ln (I) (A)) from zEv.ret rfl))
set_option maxRecDepth 100000 in
theorem B_X7_ofShade_r1_82 (Ln : Nat) (I A : Nat → Nat → Int32) (v1 : Int32) (v2 : Int32) (h1 : zin v1 6 = true)  : zEv 47 82 0 0 [some (.ref 1), some (.int v1), some (.int v2)] [] (zGs Ln I A) (some (.int (A 15 (v1).toNatClampNeg)), zGs Ln (I) (A)) := 
  zEv.lift 4 (fun _ => by with_unfolding_all rfl) (show zEv 47 90 0 0 [some (.ref 1), some (.int v1), some (.int v2)] [.int v1, .ref 15] (zGs Ln I A) (some (.int (A 15 (v1).toNatClampNeg)), zGs Ln (I) (A)) from zEv.iald rfl (Or.inl rfl) h1 (show zEv 47 91 0 0 [some (.ref 1), some (.int v1), some (.int v2)] [.int (A 15 (v1).toNatClampNeg)] (zGs Ln I A) (some (.int (A 15 (v1).toNatClampNeg)), zGs Ln (I) (A)) from zEv.ret rfl))
set_option maxRecDepth 100000 in
theorem B_X7_ofShade_r1_92 (Ln : Nat) (I A : Nat → Nat → Int32) (v1 : Int32) (v2 : Int32) {r : zRs}  {q : zRs} (hc : zEv 4 0 0 0 [some (.ref 11), some (.int v1)] [] (zGs Ln I A) q) {w : Int32} (hn : q.1 = some (.int w)) (hk : zEv 47 100 0 0 [some (.ref 1), some (.int v1), some (.int v2)] (.int w :: []) q.2 r) : zEv 47 92 0 0 [some (.ref 1), some (.int v1), some (.int v2)] [] (zGs Ln I A) r := 
  zEv.lift 3 (fun _ => by with_unfolding_all rfl) (show zEv 47 97 0 0 [some (.ref 1), some (.int v1), some (.int v2)] [.int v1, .ref 11] (zGs Ln I A) r from zEv.call (as := [.ref 11, .int v1]) rfl (fun _ => rfl) (Nat.le_of_ble_eq_true rfl) hc (by rw [hn]; exact hk))
set_option maxRecDepth 100000 in
theorem B_X7_ofShade_r1_100_s1 (Ln : Nat) (I A : Nat → Nat → Int32) (v1 : Int32) (v2 : Int32) (s0 : Int32)   : zEv 47 100 0 0 [some (.ref 1), some (.int v1), some (.int v2)] [.int s0] (zGs Ln I A) (some (.int s0), zGs Ln (I) (A)) := 
  zEv.ret rfl
set_option maxRecDepth 100000 in
theorem B_X7_ofShade_r1_101 (Ln : Nat) (I A : Nat → Nat → Int32) (v1 : Int32) (v2 : Int32) {r : zRs}  {q : zRs} (hc : zEv 5 0 0 0 [some (.ref 11), some (.int v1)] [] (zGs Ln I A) q) {w : Int32} (hn : q.1 = some (.int w)) (hk : zEv 47 109 0 0 [some (.ref 1), some (.int v1), some (.int v2)] (.int w :: []) q.2 r) : zEv 47 101 0 0 [some (.ref 1), some (.int v1), some (.int v2)] [] (zGs Ln I A) r := 
  zEv.lift 3 (fun _ => by with_unfolding_all rfl) (show zEv 47 106 0 0 [some (.ref 1), some (.int v1), some (.int v2)] [.int v1, .ref 11] (zGs Ln I A) r from zEv.call (as := [.ref 11, .int v1]) rfl (fun _ => rfl) (Nat.le_of_ble_eq_true rfl) hc (by rw [hn]; exact hk))
set_option maxRecDepth 100000 in
theorem B_X7_ofShade_r1_109_s1 (Ln : Nat) (I A : Nat → Nat → Int32) (v1 : Int32) (v2 : Int32) (s0 : Int32)   : zEv 47 109 0 0 [some (.ref 1), some (.int v1), some (.int v2)] [.int s0] (zGs Ln I A) (some (.int s0), zGs Ln (I) (A)) := 
  zEv.ret rfl
set_option maxRecDepth 100000 in
theorem B_X7_ofShade_r1_110 (Ln : Nat) (I A : Nat → Nat → Int32) (v1 : Int32) (v2 : Int32) (h1 : zin v1 6 = true)  : zEv 47 110 0 0 [some (.ref 1), some (.int v1), some (.int v2)] [] (zGs Ln I A) (some (.int (A 42 (v1).toNatClampNeg)), zGs Ln (I) (A)) := 
  zEv.lift 3 (fun _ => by with_unfolding_all rfl) (show zEv 47 115 0 0 [some (.ref 1), some (.int v1), some (.int v2)] [.int v1, .ref 42] (zGs Ln I A) (some (.int (A 42 (v1).toNatClampNeg)), zGs Ln (I) (A)) from zEv.iald rfl (Or.inl rfl) h1 (show zEv 47 116 0 0 [some (.ref 1), some (.int v1), some (.int v2)] [.int (A 42 (v1).toNatClampNeg)] (zGs Ln I A) (some (.int (A 42 (v1).toNatClampNeg)), zGs Ln (I) (A)) from zEv.ret rfl))
set_option maxRecDepth 100000 in
theorem B_X7_ofShade_r1_117 (Ln : Nat) (I A : Nat → Nat → Int32) (v1 : Int32) (v2 : Int32)   : zEv 47 117 0 0 [some (.ref 1), some (.int v1), some (.int v2)] [] (zGs Ln I A) (some (.int ((-2))), zGs Ln (I) (A)) := 
  zEv.lift 1 (fun _ => by with_unfolding_all rfl) (show zEv 47 119 0 0 [some (.ref 1), some (.int v1), some (.int v2)] [.int ((-2))] (zGs Ln I A) (some (.int ((-2))), zGs Ln (I) (A)) from zEv.ret rfl)
set_option maxRecDepth 100000 in
theorem B_X7_law_r1_0 (Ln : Nat) (I A : Nat → Nat → Int32) (v1 : Int32) {r : zRs}  (kt : v1 < 0 → zEv 48 9 0 0 [some (.ref 1), some (.int v1), none] [] (zGs Ln I A) r) (kf : ¬ (v1 < 0) → zEv 48 4 0 0 [some (.ref 1), some (.int v1), none] [] (zGs Ln I A) r) : zEv 48 0 0 0 [some (.ref 1), some (.int v1), none] [] (zGs Ln I A) r := 
  zEv.lift 1 (fun _ => by with_unfolding_all rfl) (show zEv 48 1 0 0 [some (.ref 1), some (.int v1), none] [.int v1] (zGs Ln I A) r from zEv.br0 (tgt := 9) rfl rfl (fun h => kt (of_decide_eq_true h)) (fun h => kf (of_decide_eq_false h)))
set_option maxRecDepth 100000 in
theorem B_X7_law_r1_4 (Ln : Nat) (I A : Nat → Nat → Int32) (v1 : Int32) {r : zRs}  (kt : v1 < 3 → zEv 48 12 0 0 [some (.ref 1), some (.int v1), none] [] (zGs Ln I A) r) (kf : ¬ (v1 < 3) → zEv 48 9 0 0 [some (.ref 1), some (.int v1), none] [] (zGs Ln I A) r) : zEv 48 4 0 0 [some (.ref 1), some (.int v1), none] [] (zGs Ln I A) r := 
  zEv.lift 2 (fun _ => by with_unfolding_all rfl) (show zEv 48 6 0 0 [some (.ref 1), some (.int v1), none] [.int 3, .int v1] (zGs Ln I A) r from zEv.br (tgt := 12) rfl rfl (fun h => kt (of_decide_eq_true h)) (fun h => kf (of_decide_eq_false h)))
set_option maxRecDepth 100000 in
theorem B_X7_law_r1_9 (Ln : Nat) (I A : Nat → Nat → Int32) (v1 : Int32)   : zEv 48 9 0 0 [some (.ref 1), some (.int v1), none] [] (zGs Ln I A) (some (.int ((-2))), zGs Ln (I) (A)) := 
  zEv.lift 1 (fun _ => by with_unfolding_all rfl) (show zEv 48 11 0 0 [some (.ref 1), some (.int v1), none] [.int ((-2))] (zGs Ln I A) (some (.int ((-2))), zGs Ln (I) (A)) from zEv.ret rfl)
set_option maxRecDepth 100000 in
theorem B_X7_law_r1_12 (Ln : Nat) (I A : Nat → Nat → Int32) (v1 : Int32) {r : zRs}  {q : zRs} (hc : zEv 77 0 0 0 [some (.ref 1)] [] (zGs Ln I A) q) {w : Int32} (hn : q.1 = some (.int w)) (hk : zEv 48 16 0 0 [some (.ref 1), some (.int v1), none] (.int w :: []) q.2 r) : zEv 48 12 0 0 [some (.ref 1), some (.int v1), none] [] (zGs Ln I A) r := 
  zEv.lift 1 (fun _ => by with_unfolding_all rfl) (show zEv 48 13 0 0 [some (.ref 1), some (.int v1), none] [.ref 1] (zGs Ln I A) r from zEv.call (as := [.ref 1]) rfl (fun _ => rfl) (Nat.le_of_ble_eq_true rfl) hc (by rw [hn]; exact hk))
set_option maxRecDepth 100000 in
theorem B_X7_law_r1_16_s1 (Ln : Nat) (I A : Nat → Nat → Int32) (v1 : Int32) (s0 : Int32) {r : zRs}  (kt : s0 = 0 → zEv 48 22 0 0 [some (.ref 1), some (.int v1), none] [] (zGs Ln I A) r) (kf : ¬ (s0 = 0) → zEv 48 19 0 0 [some (.ref 1), some (.int v1), none] [] (zGs Ln I A) r) : zEv 48 16 0 0 [some (.ref 1), some (.int v1), none] [.int s0] (zGs Ln I A) r := 
  zEv.br0 (tgt := 22) rfl rfl (fun h => kt (of_decide_eq_true h)) (fun h => kf (of_decide_eq_false h))
set_option maxRecDepth 100000 in
theorem B_X7_law_r1_19 (Ln : Nat) (I A : Nat → Nat → Int32) (v1 : Int32)   : zEv 48 19 0 0 [some (.ref 1), some (.int v1), none] [] (zGs Ln I A) (some (.int ((-3))), zGs Ln (I) (A)) := 
  zEv.lift 1 (fun _ => by with_unfolding_all rfl) (show zEv 48 21 0 0 [some (.ref 1), some (.int v1), none] [.int ((-3))] (zGs Ln I A) (some (.int ((-3))), zGs Ln (I) (A)) from zEv.ret rfl)
set_option maxRecDepth 100000 in
theorem B_X7_law_r1_22 (Ln : Nat) (I A : Nat → Nat → Int32) (v1 : Int32) {r : zRs}  {q : zRs} (hc : zEv 85 0 0 0 [some (.ref 1), none] [] (zGs Ln (zp I 1 9 v1) A) q) (hn : q.1 = none) (hk : zEv 48 36 0 0 [some (.ref 1), some (.int v1), some (.int (I 1 9))] [] q.2 r) : zEv 48 22 0 0 [some (.ref 1), some (.int v1), none] [] (zGs Ln I A) r := 
  zEv.lift 7 (fun _ => by with_unfolding_all rfl) (show zEv 48 33 0 0 [some (.ref 1), some (.int v1), some (.int (I 1 9))] [.ref 1] (zGs Ln (zp I 1 9 v1) A) r from zEv.call (as := [.ref 1]) rfl (fun _ => rfl) (Nat.le_of_ble_eq_true rfl) hc (by rw [hn]; exact hk))
set_option maxRecDepth 100000 in
theorem B_X7_law_r1_36 (Ln : Nat) (I A : Nat → Nat → Int32) (v1 : Int32) (v2 : Int32)   : zEv 48 36 0 0 [some (.ref 1), some (.int v1), some (.int v2)] [] (zGs Ln I A) (some (.int v2), zGs Ln (I) (A)) := 
  zEv.lift 1 (fun _ => by with_unfolding_all rfl) (show zEv 48 37 0 0 [some (.ref 1), some (.int v1), some (.int v2)] [.int v2] (zGs Ln I A) (some (.int v2), zGs Ln (I) (A)) from zEv.ret rfl)
set_option maxRecDepth 100000 in
theorem B_X7_loan_r1_0 (Ln : Nat) (I A : Nat → Nat → Int32) (v1 : Int32) (v2 : Int32) (v3 : Int32) {r : zRs}  {q : zRs} (hc : zEv 78 0 0 0 [some (.ref 1), some (.int v1)] [] (zGs Ln I A) q) {w : Int32} (hn : q.1 = some (.int w)) (hk : zEv 49 5 0 0 [some (.ref 1), some (.int v1), some (.int v2), some (.int v3), none] (.int w :: []) q.2 r) : zEv 49 0 0 0 [some (.ref 1), some (.int v1), some (.int v2), some (.int v3), none] [] (zGs Ln I A) r := 
  zEv.lift 2 (fun _ => by with_unfolding_all rfl) (show zEv 49 2 0 0 [some (.ref 1), some (.int v1), some (.int v2), some (.int v3), none] [.int v1, .ref 1] (zGs Ln I A) r from zEv.call (as := [.ref 1, .int v1]) rfl (fun _ => rfl) (Nat.le_of_ble_eq_true rfl) hc (by rw [hn]; exact hk))
set_option maxRecDepth 100000 in
theorem B_X7_loan_r1_5_s1 (Ln : Nat) (I A : Nat → Nat → Int32) (v1 : Int32) (v2 : Int32) (v3 : Int32) (s0 : Int32) {r : zRs}  (kt : s0 = 0 → zEv 49 21 0 0 [some (.ref 1), some (.int v1), some (.int v2), some (.int v3), none] [] (zGs Ln I A) r) (kf : ¬ (s0 = 0) → zEv 49 8 0 0 [some (.ref 1), some (.int v1), some (.int v2), some (.int v3), none] [] (zGs Ln I A) r) : zEv 49 5 0 0 [some (.ref 1), some (.int v1), some (.int v2), some (.int v3), none] [.int s0] (zGs Ln I A) r := 
  zEv.br0 (tgt := 21) rfl rfl (fun h => kt (of_decide_eq_true h)) (fun h => kf (of_decide_eq_false h))
set_option maxRecDepth 100000 in
theorem B_X7_loan_r1_8 (Ln : Nat) (I A : Nat → Nat → Int32) (v1 : Int32) (v2 : Int32) (v3 : Int32) {r : zRs}  {q : zRs} (hc : zEv 78 0 0 0 [some (.ref 1), some (.int v2)] [] (zGs Ln I A) q) {w : Int32} (hn : q.1 = some (.int w)) (hk : zEv 49 13 0 0 [some (.ref 1), some (.int v1), some (.int v2), some (.int v3), none] (.int w :: []) q.2 r) : zEv 49 8 0 0 [some (.ref 1), some (.int v1), some (.int v2), some (.int v3), none] [] (zGs Ln I A) r := 
  zEv.lift 2 (fun _ => by with_unfolding_all rfl) (show zEv 49 10 0 0 [some (.ref 1), some (.int v1), some (.int v2), some (.int v3), none] [.int v2, .ref 1] (zGs Ln I A) r from zEv.call (as := [.ref 1, .int v2]) rfl (fun _ => rfl) (Nat.le_of_ble_eq_true rfl) hc (by rw [hn]; exact hk))
set_option maxRecDepth 100000 in
theorem B_X7_loan_r1_13_s1 (Ln : Nat) (I A : Nat → Nat → Int32) (v1 : Int32) (v2 : Int32) (v3 : Int32) (s0 : Int32) {r : zRs}  (kt : s0 = 0 → zEv 49 21 0 0 [some (.ref 1), some (.int v1), some (.int v2), some (.int v3), none] [] (zGs Ln I A) r) (kf : ¬ (s0 = 0) → zEv 49 16 0 0 [some (.ref 1), some (.int v1), some (.int v2), some (.int v3), none] [] (zGs Ln I A) r) : zEv 49 13 0 0 [some (.ref 1), some (.int v1), some (.int v2), some (.int v3), none] [.int s0] (zGs Ln I A) r := 
  zEv.br0 (tgt := 21) rfl rfl (fun h => kt (of_decide_eq_true h)) (fun h => kf (of_decide_eq_false h))
set_option maxRecDepth 100000 in
theorem B_X7_loan_r1_16 (Ln : Nat) (I A : Nat → Nat → Int32) (v1 : Int32) (v2 : Int32) (v3 : Int32) {r : zRs}  (kt : v1 ≠ v2 → zEv 49 23 0 0 [some (.ref 1), some (.int v1), some (.int v2), some (.int v3), none] [] (zGs Ln I A) r) (kf : ¬ (v1 ≠ v2) → zEv 49 21 0 0 [some (.ref 1), some (.int v1), some (.int v2), some (.int v3), none] [] (zGs Ln I A) r) : zEv 49 16 0 0 [some (.ref 1), some (.int v1), some (.int v2), some (.int v3), none] [] (zGs Ln I A) r := 
  zEv.lift 2 (fun _ => by with_unfolding_all rfl) (show zEv 49 18 0 0 [some (.ref 1), some (.int v1), some (.int v2), some (.int v3), none] [.int v2, .int v1] (zGs Ln I A) r from zEv.br (tgt := 23) rfl rfl (fun h => kt (of_decide_eq_true h)) (fun h => kf (of_decide_eq_false h)))
set_option maxRecDepth 100000 in
theorem B_X7_loan_r1_21 (Ln : Nat) (I A : Nat → Nat → Int32) (v1 : Int32) (v2 : Int32) (v3 : Int32)   : zEv 49 21 0 0 [some (.ref 1), some (.int v1), some (.int v2), some (.int v3), none] [] (zGs Ln I A) (some (.int ((-1))), zGs Ln (I) (A)) := 
  zEv.lift 1 (fun _ => by with_unfolding_all rfl) (show zEv 49 22 0 0 [some (.ref 1), some (.int v1), some (.int v2), some (.int v3), none] [.int ((-1))] (zGs Ln I A) (some (.int ((-1))), zGs Ln (I) (A)) from zEv.ret rfl)
set_option maxRecDepth 100000 in
theorem B_X7_loan_r1_23 (Ln : Nat) (I A : Nat → Nat → Int32) (v1 : Int32) (v2 : Int32) (v3 : Int32) {r : zRs}  (kt : v3 < 1 → zEv 49 33 0 0 [some (.ref 1), some (.int v1), some (.int v2), some (.int v3), none] [] (zGs Ln I A) r) (kf : ¬ (v3 < 1) → zEv 49 28 0 0 [some (.ref 1), some (.int v1), some (.int v2), some (.int v3), none] [] (zGs Ln I A) r) : zEv 49 23 0 0 [some (.ref 1), some (.int v1), some (.int v2), some (.int v3), none] [] (zGs Ln I A) r := 
  zEv.lift 2 (fun _ => by with_unfolding_all rfl) (show zEv 49 25 0 0 [some (.ref 1), some (.int v1), some (.int v2), some (.int v3), none] [.int 1, .int v3] (zGs Ln I A) r from zEv.br (tgt := 33) rfl rfl (fun h => kt (of_decide_eq_true h)) (fun h => kf (of_decide_eq_false h)))
set_option maxRecDepth 100000 in
theorem B_X7_loan_r1_28 (Ln : Nat) (I A : Nat → Nat → Int32) (v1 : Int32) (v2 : Int32) (v3 : Int32) {r : zRs}  (kt : v3 ≤ 3 → zEv 49 36 0 0 [some (.ref 1), some (.int v1), some (.int v2), some (.int v3), none] [] (zGs Ln I A) r) (kf : ¬ (v3 ≤ 3) → zEv 49 33 0 0 [some (.ref 1), some (.int v1), some (.int v2), some (.int v3), none] [] (zGs Ln I A) r) : zEv 49 28 0 0 [some (.ref 1), some (.int v1), some (.int v2), some (.int v3), none] [] (zGs Ln I A) r := 
  zEv.lift 2 (fun _ => by with_unfolding_all rfl) (show zEv 49 30 0 0 [some (.ref 1), some (.int v1), some (.int v2), some (.int v3), none] [.int 3, .int v3] (zGs Ln I A) r from zEv.br (tgt := 36) rfl rfl (fun h => kt (of_decide_eq_true h)) (fun h => kf (of_decide_eq_false h)))
set_option maxRecDepth 100000 in
theorem B_X7_loan_r1_33 (Ln : Nat) (I A : Nat → Nat → Int32) (v1 : Int32) (v2 : Int32) (v3 : Int32)   : zEv 49 33 0 0 [some (.ref 1), some (.int v1), some (.int v2), some (.int v3), none] [] (zGs Ln I A) (some (.int ((-2))), zGs Ln (I) (A)) := 
  zEv.lift 1 (fun _ => by with_unfolding_all rfl) (show zEv 49 35 0 0 [some (.ref 1), some (.int v1), some (.int v2), some (.int v3), none] [.int ((-2))] (zGs Ln I A) (some (.int ((-2))), zGs Ln (I) (A)) from zEv.ret rfl)
set_option maxRecDepth 100000 in
theorem B_X7_loan_r1_36 (Ln : Nat) (I A : Nat → Nat → Int32) (v1 : Int32) (v2 : Int32) (v3 : Int32) {r : zRs} (h1 : zin v1 6 = true) (kt : v3 ≤ (A 42 (v1).toNatClampNeg) → zEv 49 49 0 0 [some (.ref 1), some (.int v1), some (.int v2), some (.int v3), none] [] (zGs Ln I A) r) (kf : ¬ (v3 ≤ (A 42 (v1).toNatClampNeg)) → zEv 49 46 0 0 [some (.ref 1), some (.int v1), some (.int v2), some (.int v3), none] [] (zGs Ln I A) r) : zEv 49 36 0 0 [some (.ref 1), some (.int v1), some (.int v2), some (.int v3), none] [] (zGs Ln I A) r := 
  zEv.lift 3 (fun _ => by with_unfolding_all rfl) (show zEv 49 41 0 0 [some (.ref 1), some (.int v1), some (.int v2), some (.int v3), none] [.int v1, .ref 42] (zGs Ln I A) r from zEv.iald rfl (Or.inl rfl) h1 (show zEv 49 42 0 0 [some (.ref 1), some (.int v1), some (.int v2), some (.int v3), none] [.int (A 42 (v1).toNatClampNeg)] (zGs Ln I A) r from zEv.lift 1 (fun _ => by with_unfolding_all rfl) (show zEv 49 43 0 0 [some (.ref 1), some (.int v1), some (.int v2), some (.int v3), none] [.int v3, .int (A 42 (v1).toNatClampNeg)] (zGs Ln I A) r from zEv.br (tgt := 49) rfl rfl (fun h => kt (of_decide_eq_true h)) (fun h => kf (of_decide_eq_false h)))))
set_option maxRecDepth 100000 in
theorem B_X7_loan_r1_46 (Ln : Nat) (I A : Nat → Nat → Int32) (v1 : Int32) (v2 : Int32) (v3 : Int32)   : zEv 49 46 0 0 [some (.ref 1), some (.int v1), some (.int v2), some (.int v3), none] [] (zGs Ln I A) (some (.int ((-3))), zGs Ln (I) (A)) := 
  zEv.lift 1 (fun _ => by with_unfolding_all rfl) (show zEv 49 48 0 0 [some (.ref 1), some (.int v1), some (.int v2), some (.int v3), none] [.int ((-3))] (zGs Ln I A) (some (.int ((-3))), zGs Ln (I) (A)) from zEv.ret rfl)
set_option maxRecDepth 100000 in
theorem B_X7_loan_r1_49 (Ln : Nat) (I A : Nat → Nat → Int32) (v1 : Int32) (v2 : Int32) (v3 : Int32) {r : zRs}  (kt : (I 18 3) ≠ 6 → zEv 49 64 0 0 [some (.ref 1), some (.int v1), some (.int v2), some (.int v3), none] [] (zGs Ln I A) r) (kf : ¬ ((I 18 3) ≠ 6) → zEv 49 61 0 0 [some (.ref 1), some (.int v1), some (.int v2), some (.int v3), none] [] (zGs Ln I A) r) : zEv 49 49 0 0 [some (.ref 1), some (.int v1), some (.int v2), some (.int v3), none] [] (zGs Ln I A) r := 
  zEv.lift 4 (fun _ => by with_unfolding_all rfl) (show zEv 49 58 0 0 [some (.ref 1), some (.int v1), some (.int v2), some (.int v3), none] [.int 6, .int (I 18 3)] (zGs Ln I A) r from zEv.br (tgt := 64) rfl rfl (fun h => kt (of_decide_eq_true h)) (fun h => kf (of_decide_eq_false h)))
set_option maxRecDepth 100000 in
theorem B_X7_loan_r1_61 (Ln : Nat) (I A : Nat → Nat → Int32) (v1 : Int32) (v2 : Int32) (v3 : Int32)   : zEv 49 61 0 0 [some (.ref 1), some (.int v1), some (.int v2), some (.int v3), none] [] (zGs Ln I A) (some (.int ((-4))), zGs Ln (I) (A)) := 
  zEv.lift 1 (fun _ => by with_unfolding_all rfl) (show zEv 49 63 0 0 [some (.ref 1), some (.int v1), some (.int v2), some (.int v3), none] [.int ((-4))] (zGs Ln I A) (some (.int ((-4))), zGs Ln (I) (A)) from zEv.ret rfl)
set_option maxRecDepth 100000 in
theorem B_X7_loan_r1_64 (Ln : Nat) (I A : Nat → Nat → Int32) (v1 : Int32) (v2 : Int32) (v3 : Int32) {r : zRs}  {q : zRs} (hc : zEv 14 0 0 0 [some (.ref 18), some (.int v1), some (.int v2), some (.int v3)] [] (zGs Ln I A) q) {w : Int32} (hn : q.1 = some (.int w)) (hk : zEv 49 74 0 0 [some (.ref 1), some (.int v1), some (.int v2), some (.int v3), none] (.int w :: []) q.2 r) : zEv 49 64 0 0 [some (.ref 1), some (.int v1), some (.int v2), some (.int v3), none] [] (zGs Ln I A) r := 
  zEv.lift 5 (fun _ => by with_unfolding_all rfl) (show zEv 49 71 0 0 [some (.ref 1), some (.int v1), some (.int v2), some (.int v3), none] [.int v3, .int v2, .int v1, .ref 18] (zGs Ln I A) r from zEv.call (as := [.ref 18, .int v1, .int v2, .int v3]) rfl (fun _ => rfl) (Nat.le_of_ble_eq_true rfl) hc (by rw [hn]; exact hk))
set_option maxRecDepth 100000 in
theorem B_X7_loan_r1_74_s1 (Ln : Nat) (I A : Nat → Nat → Int32) (v1 : Int32) (v2 : Int32) (v3 : Int32) (s0 : Int32) {r : zRs}  {q : zRs} (hc : zEv 85 0 0 0 [some (.ref 1), none] [] (zGs Ln I A) q) (hn : q.1 = none) (hk : zEv 49 80 0 0 [some (.ref 1), some (.int v1), some (.int v2), some (.int v3), some (.int s0)] [] q.2 r) : zEv 49 74 0 0 [some (.ref 1), some (.int v1), some (.int v2), some (.int v3), none] [.int s0] (zGs Ln I A) r := 
  zEv.lift 2 (fun _ => by with_unfolding_all rfl) (show zEv 49 77 0 0 [some (.ref 1), some (.int v1), some (.int v2), some (.int v3), some (.int s0)] [.ref 1] (zGs Ln I A) r from zEv.call (as := [.ref 1]) rfl (fun _ => rfl) (Nat.le_of_ble_eq_true rfl) hc (by rw [hn]; exact hk))
set_option maxRecDepth 100000 in
theorem B_X7_loan_r1_80 (Ln : Nat) (I A : Nat → Nat → Int32) (v1 : Int32) (v2 : Int32) (v3 : Int32) (v4 : Int32)   : zEv 49 80 0 0 [some (.ref 1), some (.int v1), some (.int v2), some (.int v3), some (.int v4)] [] (zGs Ln I A) (some (.int v4), zGs Ln (I) (A)) := 
  zEv.lift 1 (fun _ => by with_unfolding_all rfl) (show zEv 49 82 0 0 [some (.ref 1), some (.int v1), some (.int v2), some (.int v3), some (.int v4)] [.int v4] (zGs Ln I A) (some (.int v4), zGs Ln (I) (A)) from zEv.ret rfl)
set_option maxRecDepth 100000 in
theorem B_X7_undo_r1_0 (Ln : Nat) (I A : Nat → Nat → Int32) (v1 : Int32) {r : zRs}  (kt : v1 < 0 → zEv 50 15 0 0 [some (.ref 1), some (.int v1)] [] (zGs Ln I A) r) (kf : ¬ (v1 < 0) → zEv 50 4 0 0 [some (.ref 1), some (.int v1)] [] (zGs Ln I A) r) : zEv 50 0 0 0 [some (.ref 1), some (.int v1)] [] (zGs Ln I A) r := 
  zEv.lift 1 (fun _ => by with_unfolding_all rfl) (show zEv 50 1 0 0 [some (.ref 1), some (.int v1)] [.int v1] (zGs Ln I A) r from zEv.br0 (tgt := 15) rfl rfl (fun h => kt (of_decide_eq_true h)) (fun h => kf (of_decide_eq_false h)))
set_option maxRecDepth 100000 in
theorem B_X7_undo_r1_4 (Ln : Nat) (I A : Nat → Nat → Int32) (v1 : Int32) {r : zRs}  (kt : v1 ≤ (I 18 3) → zEv 50 18 0 0 [some (.ref 1), some (.int v1)] [] (zGs Ln I A) r) (kf : ¬ (v1 ≤ (I 18 3)) → zEv 50 15 0 0 [some (.ref 1), some (.int v1)] [] (zGs Ln I A) r) : zEv 50 4 0 0 [some (.ref 1), some (.int v1)] [] (zGs Ln I A) r := 
  zEv.lift 4 (fun _ => by with_unfolding_all rfl) (show zEv 50 12 0 0 [some (.ref 1), some (.int v1)] [.int (I 18 3), .int v1] (zGs Ln I A) r from zEv.br (tgt := 18) rfl rfl (fun h => kt (of_decide_eq_true h)) (fun h => kf (of_decide_eq_false h)))
set_option maxRecDepth 100000 in
theorem B_X7_undo_r1_15 (Ln : Nat) (I A : Nat → Nat → Int32) (v1 : Int32)   : zEv 50 15 0 0 [some (.ref 1), some (.int v1)] [] (zGs Ln I A) (some (.int ((-2))), zGs Ln (I) (A)) := 
  zEv.lift 1 (fun _ => by with_unfolding_all rfl) (show zEv 50 17 0 0 [some (.ref 1), some (.int v1)] [.int ((-2))] (zGs Ln I A) (some (.int ((-2))), zGs Ln (I) (A)) from zEv.ret rfl)
set_option maxRecDepth 100000 in
theorem B_X7_undo_r1_18 (Ln : Nat) (I A : Nat → Nat → Int32) (v1 : Int32) {r : zRs}  {q : zRs} (hc : zEv 85 0 0 0 [some (.ref 1), none] [] (zGs Ln (zp I 18 3 ((I 18 3) - v1)) A) q) (hn : q.1 = none) (hk : zEv 50 35 0 0 [some (.ref 1), some (.int v1)] [] q.2 r) : zEv 50 18 0 0 [some (.ref 1), some (.int v1)] [] (zGs Ln I A) r := 
  zEv.lift 8 (fun _ => by with_unfolding_all rfl) (show zEv 50 32 0 0 [some (.ref 1), some (.int v1)] [.ref 1] (zGs Ln (zp I 18 3 ((I 18 3) - v1)) A) r from zEv.call (as := [.ref 1]) rfl (fun _ => rfl) (Nat.le_of_ble_eq_true rfl) hc (by rw [hn]; exact hk))
set_option maxRecDepth 100000 in
theorem B_X7_undo_r1_35 (Ln : Nat) (I A : Nat → Nat → Int32) (v1 : Int32)   : zEv 50 35 0 0 [some (.ref 1), some (.int v1)] [] (zGs Ln I A) (some (.int (I 18 3)), zGs Ln (I) (A)) := 
  zEv.lift 3 (fun _ => by with_unfolding_all rfl) (show zEv 50 42 0 0 [some (.ref 1), some (.int v1)] [.int (I 18 3)] (zGs Ln I A) (some (.int (I 18 3)), zGs Ln (I) (A)) from zEv.ret rfl)
set_option maxRecDepth 100000 in
theorem B_X7_over_r1_0 (Ln : Nat) (I A : Nat → Nat → Int32) (v1 : Int32) {r : zRs}  {q : zRs} (hc : zEv 78 0 0 0 [some (.ref 1), some (.int v1)] [] (zGs Ln I A) q) {w : Int32} (hn : q.1 = some (.int w)) (hk : zEv 51 5 0 0 [some (.ref 1), some (.int v1)] (.int w :: []) q.2 r) : zEv 51 0 0 0 [some (.ref 1), some (.int v1)] [] (zGs Ln I A) r := 
  zEv.lift 2 (fun _ => by with_unfolding_all rfl) (show zEv 51 2 0 0 [some (.ref 1), some (.int v1)] [.int v1, .ref 1] (zGs Ln I A) r from zEv.call (as := [.ref 1, .int v1]) rfl (fun _ => rfl) (Nat.le_of_ble_eq_true rfl) hc (by rw [hn]; exact hk))
set_option maxRecDepth 100000 in
theorem B_X7_over_r1_5_s1 (Ln : Nat) (I A : Nat → Nat → Int32) (v1 : Int32) (s0 : Int32) {r : zRs}  (kt : s0 = 0 → zEv 51 20 0 0 [some (.ref 1), some (.int v1)] [] (zGs Ln I A) r) (kf : ¬ (s0 = 0) → zEv 51 8 0 0 [some (.ref 1), some (.int v1)] [] (zGs Ln I A) r) : zEv 51 5 0 0 [some (.ref 1), some (.int v1)] [.int s0] (zGs Ln I A) r := 
  zEv.br0 (tgt := 20) rfl rfl (fun h => kt (of_decide_eq_true h)) (fun h => kf (of_decide_eq_false h))
set_option maxRecDepth 100000 in
theorem B_X7_over_r1_8 (Ln : Nat) (I A : Nat → Nat → Int32) (v1 : Int32) {r : zRs} (h1 : zin v1 6 = true) (hk : zEv 51 21 0 0 [some (.ref 1), some (.int v1)] [.int (A 29 (v1).toNatClampNeg)] (zGs Ln I A) r) : zEv 51 8 0 0 [some (.ref 1), some (.int v1)] [] (zGs Ln I A) r := 
  zEv.lift 4 (fun _ => by with_unfolding_all rfl) (show zEv 51 16 0 0 [some (.ref 1), some (.int v1)] [.int v1, .ref 29] (zGs Ln I A) r from zEv.iald rfl (Or.inl rfl) h1 (show zEv 51 17 0 0 [some (.ref 1), some (.int v1)] [.int (A 29 (v1).toNatClampNeg)] (zGs Ln I A) r from zEv.lift 1 (fun _ => by with_unfolding_all rfl) (show zEv 51 21 0 0 [some (.ref 1), some (.int v1)] [.int (A 29 (v1).toNatClampNeg)] (zGs Ln I A) r from hk)))
set_option maxRecDepth 100000 in
theorem B_X7_over_r1_20 (Ln : Nat) (I A : Nat → Nat → Int32) (v1 : Int32) {r : zRs}  (hk : zEv 51 21 0 0 [some (.ref 1), some (.int v1)] [.int ((-1))] (zGs Ln I A) r) : zEv 51 20 0 0 [some (.ref 1), some (.int v1)] [] (zGs Ln I A) r := 
  zEv.lift 1 (fun _ => by with_unfolding_all rfl) (show zEv 51 21 0 0 [some (.ref 1), some (.int v1)] [.int ((-1))] (zGs Ln I A) r from hk)
set_option maxRecDepth 100000 in
theorem B_X7_over_r1_21_s1 (Ln : Nat) (I A : Nat → Nat → Int32) (v1 : Int32) (s0 : Int32)   : zEv 51 21 0 0 [some (.ref 1), some (.int v1)] [.int s0] (zGs Ln I A) (some (.int s0), zGs Ln (I) (A)) := 
  zEv.ret rfl
set_option maxRecDepth 100000 in
theorem B_X7_overBy_r1_0 (Ln : Nat) (I A : Nat → Nat → Int32) (v1 : Int32) {r : zRs}  {q : zRs} (hc : zEv 84 0 0 0 [some (.ref 1), some (.ref 32), some (.int v1)] [] (zGs Ln I A) q) {w : Int32} (hn : q.1 = some (.int w)) (hk : zEv 52 12 0 0 [some (.ref 1), some (.int v1)] (.int w :: []) q.2 r) : zEv 52 0 0 0 [some (.ref 1), some (.int v1)] [] (zGs Ln I A) r := 
  zEv.lift 5 (fun _ => by with_unfolding_all rfl) (show zEv 52 9 0 0 [some (.ref 1), some (.int v1)] [.int v1, .ref 32, .ref 1] (zGs Ln I A) r from zEv.call (as := [.ref 1, .ref 32, .int v1]) rfl (fun _ => rfl) (Nat.le_of_ble_eq_true rfl) hc (by rw [hn]; exact hk))
set_option maxRecDepth 100000 in
theorem B_X7_overBy_r1_12_s1 (Ln : Nat) (I A : Nat → Nat → Int32) (v1 : Int32) (s0 : Int32)   : zEv 52 12 0 0 [some (.ref 1), some (.int v1)] [.int s0] (zGs Ln I A) (some (.int s0), zGs Ln (I) (A)) := 
  zEv.ret rfl
set_option maxRecDepth 100000 in
theorem B_X7_rower_r1_0 (Ln : Nat) (I A : Nat → Nat → Int32) (v1 : Int32) {r : zRs}  {q : zRs} (hc : zEv 84 0 0 0 [some (.ref 1), some (.ref 30), some (.int v1)] [] (zGs Ln I A) q) {w : Int32} (hn : q.1 = some (.int w)) (hk : zEv 53 12 0 0 [some (.ref 1), some (.int v1)] (.int w :: []) q.2 r) : zEv 53 0 0 0 [some (.ref 1), some (.int v1)] [] (zGs Ln I A) r := 
  zEv.lift 5 (fun _ => by with_unfolding_all rfl) (show zEv 53 9 0 0 [some (.ref 1), some (.int v1)] [.int v1, .ref 30, .ref 1] (zGs Ln I A) r from zEv.call (as := [.ref 1, .ref 30, .int v1]) rfl (fun _ => rfl) (Nat.le_of_ble_eq_true rfl) hc (by rw [hn]; exact hk))
set_option maxRecDepth 100000 in
theorem B_X7_rower_r1_12_s1 (Ln : Nat) (I A : Nat → Nat → Int32) (v1 : Int32) (s0 : Int32)   : zEv 53 12 0 0 [some (.ref 1), some (.int v1)] [.int s0] (zGs Ln I A) (some (.int s0), zGs Ln (I) (A)) := 
  zEv.ret rfl
set_option maxRecDepth 100000 in
theorem B_X7_sits_r1_0 (Ln : Nat) (I A : Nat → Nat → Int32) (v1 : Int32) {r : zRs}  {q : zRs} (hc : zEv 84 0 0 0 [some (.ref 1), some (.ref 31), some (.int v1)] [] (zGs Ln I A) q) {w : Int32} (hn : q.1 = some (.int w)) (hk : zEv 54 12 0 0 [some (.ref 1), some (.int v1)] (.int w :: []) q.2 r) : zEv 54 0 0 0 [some (.ref 1), some (.int v1)] [] (zGs Ln I A) r := 
  zEv.lift 5 (fun _ => by with_unfolding_all rfl) (show zEv 54 9 0 0 [some (.ref 1), some (.int v1)] [.int v1, .ref 31, .ref 1] (zGs Ln I A) r from zEv.call (as := [.ref 1, .ref 31, .int v1]) rfl (fun _ => rfl) (Nat.le_of_ble_eq_true rfl) hc (by rw [hn]; exact hk))
set_option maxRecDepth 100000 in
theorem B_X7_sits_r1_12_s1 (Ln : Nat) (I A : Nat → Nat → Int32) (v1 : Int32) (s0 : Int32)   : zEv 54 12 0 0 [some (.ref 1), some (.int v1)] [.int s0] (zGs Ln I A) (some (.int s0), zGs Ln (I) (A)) := 
  zEv.ret rfl
set_option maxRecDepth 100000 in
theorem B_X7_waits_r1_0 (Ln : Nat) (I A : Nat → Nat → Int32) (v1 : Int32) {r : zRs}  {q : zRs} (hc : zEv 78 0 0 0 [some (.ref 1), some (.int v1)] [] (zGs Ln I A) q) {w : Int32} (hn : q.1 = some (.int w)) (hk : zEv 55 5 0 0 [some (.ref 1), some (.int v1)] (.int w :: []) q.2 r) : zEv 55 0 0 0 [some (.ref 1), some (.int v1)] [] (zGs Ln I A) r := 
  zEv.lift 2 (fun _ => by with_unfolding_all rfl) (show zEv 55 2 0 0 [some (.ref 1), some (.int v1)] [.int v1, .ref 1] (zGs Ln I A) r from zEv.call (as := [.ref 1, .int v1]) rfl (fun _ => rfl) (Nat.le_of_ble_eq_true rfl) hc (by rw [hn]; exact hk))
set_option maxRecDepth 100000 in
theorem B_X7_waits_r1_5_s1 (Ln : Nat) (I A : Nat → Nat → Int32) (v1 : Int32) (s0 : Int32) {r : zRs}  (kt : s0 = 0 → zEv 55 19 0 0 [some (.ref 1), some (.int v1)] [] (zGs Ln I A) r) (kf : ¬ (s0 = 0) → zEv 55 8 0 0 [some (.ref 1), some (.int v1)] [] (zGs Ln I A) r) : zEv 55 5 0 0 [some (.ref 1), some (.int v1)] [.int s0] (zGs Ln I A) r := 
  zEv.br0 (tgt := 19) rfl rfl (fun h => kt (of_decide_eq_true h)) (fun h => kf (of_decide_eq_false h))
set_option maxRecDepth 100000 in
theorem B_X7_waits_r1_8 (Ln : Nat) (I A : Nat → Nat → Int32) (v1 : Int32) {r : zRs}  {q : zRs} (hc : zEv 42 0 0 0 [some (.ref 28), some (.int v1), none] [] (zGs Ln I A) q) {w : Int32} (hn : q.1 = some (.int w)) (hk : zEv 55 16 0 0 [some (.ref 1), some (.int v1)] (.int w :: []) q.2 r) : zEv 55 8 0 0 [some (.ref 1), some (.int v1)] [] (zGs Ln I A) r := 
  zEv.lift 3 (fun _ => by with_unfolding_all rfl) (show zEv 55 13 0 0 [some (.ref 1), some (.int v1)] [.int v1, .ref 28] (zGs Ln I A) r from zEv.call (as := [.ref 28, .int v1]) rfl (fun _ => rfl) (Nat.le_of_ble_eq_true rfl) hc (by rw [hn]; exact hk))
set_option maxRecDepth 100000 in
theorem B_X7_waits_r1_16_s1 (Ln : Nat) (I A : Nat → Nat → Int32) (v1 : Int32) (s0 : Int32) {r : zRs}  (hk : zEv 55 20 0 0 [some (.ref 1), some (.int v1)] [.int s0] (zGs Ln I A) r) : zEv 55 16 0 0 [some (.ref 1), some (.int v1)] [.int s0] (zGs Ln I A) r := 
  zEv.lift 1 (fun _ => by with_unfolding_all rfl) (show zEv 55 20 0 0 [some (.ref 1), some (.int v1)] [.int s0] (zGs Ln I A) r from hk)
set_option maxRecDepth 100000 in
theorem B_X7_waits_r1_19 (Ln : Nat) (I A : Nat → Nat → Int32) (v1 : Int32) {r : zRs}  (hk : zEv 55 20 0 0 [some (.ref 1), some (.int v1)] [.int ((-1))] (zGs Ln I A) r) : zEv 55 19 0 0 [some (.ref 1), some (.int v1)] [] (zGs Ln I A) r := 
  zEv.lift 1 (fun _ => by with_unfolding_all rfl) (show zEv 55 20 0 0 [some (.ref 1), some (.int v1)] [.int ((-1))] (zGs Ln I A) r from hk)
set_option maxRecDepth 100000 in
theorem B_X7_waits_r1_20_s1 (Ln : Nat) (I A : Nat → Nat → Int32) (v1 : Int32) (s0 : Int32)   : zEv 55 20 0 0 [some (.ref 1), some (.int v1)] [.int s0] (zGs Ln I A) (some (.int s0), zGs Ln (I) (A)) := 
  zEv.ret rfl
set_option maxRecDepth 100000 in
theorem B_X7_allWait_r1_0 (Ln : Nat) (I A : Nat → Nat → Int32)  {r : zRs}  {q : zRs} (hc : zEv 77 0 0 0 [some (.ref 1)] [] (zGs Ln I A) q) {w : Int32} (hn : q.1 = some (.int w)) (hk : zEv 56 4 0 0 [some (.ref 1)] (.int w :: []) q.2 r) : zEv 56 0 0 0 [some (.ref 1)] [] (zGs Ln I A) r := 
  zEv.lift 1 (fun _ => by with_unfolding_all rfl) (show zEv 56 1 0 0 [some (.ref 1)] [.ref 1] (zGs Ln I A) r from zEv.call (as := [.ref 1]) rfl (fun _ => rfl) (Nat.le_of_ble_eq_true rfl) hc (by rw [hn]; exact hk))
set_option maxRecDepth 100000 in
theorem B_X7_allWait_r1_4_s1 (Ln : Nat) (I A : Nat → Nat → Int32) (s0 : Int32) {r : zRs}  (kt : s0 = 0 → zEv 56 12 0 0 [some (.ref 1)] [] (zGs Ln I A) r) (kf : ¬ (s0 = 0) → zEv 56 7 0 0 [some (.ref 1)] [] (zGs Ln I A) r) : zEv 56 4 0 0 [some (.ref 1)] [.int s0] (zGs Ln I A) r := 
  zEv.br0 (tgt := 12) rfl rfl (fun h => kt (of_decide_eq_true h)) (fun h => kf (of_decide_eq_false h))
set_option maxRecDepth 100000 in
theorem B_X7_allWait_r1_7 (Ln : Nat) (I A : Nat → Nat → Int32)  {r : zRs}  (hk : zEv 56 19 0 0 [some (.ref 1)] [.int ((-3))] (zGs Ln I A) r) : zEv 56 7 0 0 [some (.ref 1)] [] (zGs Ln I A) r := 
  zEv.lift 2 (fun _ => by with_unfolding_all rfl) (show zEv 56 19 0 0 [some (.ref 1)] [.int ((-3))] (zGs Ln I A) r from hk)
set_option maxRecDepth 100000 in
theorem B_X7_allWait_r1_12 (Ln : Nat) (I A : Nat → Nat → Int32)  {r : zRs}  {q : zRs} (hc : zEv 43 0 0 0 [some (.ref 28), none, none] [] (zGs Ln I A) q) {w : Int32} (hn : q.1 = some (.int w)) (hk : zEv 56 19 0 0 [some (.ref 1)] (.int w :: []) q.2 r) : zEv 56 12 0 0 [some (.ref 1)] [] (zGs Ln I A) r := 
  zEv.lift 2 (fun _ => by with_unfolding_all rfl) (show zEv 56 16 0 0 [some (.ref 1)] [.ref 28] (zGs Ln I A) r from zEv.call (as := [.ref 28]) rfl (fun _ => rfl) (Nat.le_of_ble_eq_true rfl) hc (by rw [hn]; exact hk))
set_option maxRecDepth 100000 in
theorem B_X7_allWait_r1_19_s1 (Ln : Nat) (I A : Nat → Nat → Int32) (s0 : Int32)   : zEv 56 19 0 0 [some (.ref 1)] [.int s0] (zGs Ln I A) (some (.int s0), zGs Ln (I) (A)) := 
  zEv.ret rfl
set_option maxRecDepth 100000 in
theorem B_X7_crossings_r1_0 (Ln : Nat) (I A : Nat → Nat → Int32) (v1 : Int32) (v2 : Int32) (v3 : Int32) (v4 : Int32) {r : zRs}  {q : zRs} (hc : zEv 80 0 0 0 [some (.int v1)] [] (zGs Ln I A) q) {w : Int32} (hn : q.1 = some (.int w)) (hk : zEv 57 4 0 0 [some (.ref 1), some (.int v1), some (.int v2), some (.int v3), some (.int v4), none, none] (.int w :: []) q.2 r) : zEv 57 0 0 0 [some (.ref 1), some (.int v1), some (.int v2), some (.int v3), some (.int v4), none, none] [] (zGs Ln I A) r := 
  zEv.lift 1 (fun _ => by with_unfolding_all rfl) (show zEv 57 1 0 0 [some (.ref 1), some (.int v1), some (.int v2), some (.int v3), some (.int v4), none, none] [.int v1] (zGs Ln I A) r from zEv.call (as := [.int v1]) rfl (fun _ => rfl) (Nat.le_of_ble_eq_true rfl) hc (by rw [hn]; exact hk))
set_option maxRecDepth 100000 in
theorem B_X7_crossings_r1_4_s1 (Ln : Nat) (I A : Nat → Nat → Int32) (v1 : Int32) (v2 : Int32) (v3 : Int32) (v4 : Int32) (s0 : Int32) {r : zRs}  (kt : s0 ≠ 0 → zEv 57 13 0 0 [some (.ref 1), some (.int v1), some (.int v2), some (.int v3), some (.int v4), none, none] [] (zGs Ln I A) r) (kf : ¬ (s0 ≠ 0) → zEv 57 7 0 0 [some (.ref 1), some (.int v1), some (.int v2), some (.int v3), some (.int v4), none, none] [] (zGs Ln I A) r) : zEv 57 4 0 0 [some (.ref 1), some (.int v1), some (.int v2), some (.int v3), some (.int v4), none, none] [.int s0] (zGs Ln I A) r := 
  zEv.br0 (tgt := 13) rfl rfl (fun h => kt (of_decide_eq_true h)) (fun h => kf (of_decide_eq_false h))
set_option maxRecDepth 100000 in
theorem B_X7_crossings_r1_7 (Ln : Nat) (I A : Nat → Nat → Int32) (v1 : Int32) (v2 : Int32) (v3 : Int32) (v4 : Int32) {r : zRs}  {q : zRs} (hc : zEv 82 0 0 0 [some (.ref 1), some (.int ((-1)))] [] (zGs Ln I A) q) {w : Int32} (hn : q.1 = some (.int w)) (hk : zEv 57 12 0 0 [some (.ref 1), some (.int v1), some (.int v2), some (.int v3), some (.int v4), none, none] (.int w :: []) q.2 r) : zEv 57 7 0 0 [some (.ref 1), some (.int v1), some (.int v2), some (.int v3), some (.int v4), none, none] [] (zGs Ln I A) r := 
  zEv.lift 2 (fun _ => by with_unfolding_all rfl) (show zEv 57 9 0 0 [some (.ref 1), some (.int v1), some (.int v2), some (.int v3), some (.int v4), none, none] [.int ((-1)), .ref 1] (zGs Ln I A) r from zEv.call (as := [.ref 1, .int ((-1))]) rfl (fun _ => rfl) (Nat.le_of_ble_eq_true rfl) hc (by rw [hn]; exact hk))
set_option maxRecDepth 100000 in
theorem B_X7_crossings_r1_12_s1 (Ln : Nat) (I A : Nat → Nat → Int32) (v1 : Int32) (v2 : Int32) (v3 : Int32) (v4 : Int32) (s0 : Int32)   : zEv 57 12 0 0 [some (.ref 1), some (.int v1), some (.int v2), some (.int v3), some (.int v4), none, none] [.int s0] (zGs Ln I A) (some (.int s0), zGs Ln (I) (A)) := 
  zEv.ret rfl
set_option maxRecDepth 100000 in
theorem B_X7_crossings_r1_13 (Ln : Nat) (I A : Nat → Nat → Int32) (v1 : Int32) (v2 : Int32) (v3 : Int32) (v4 : Int32) {r : zRs}  {q : zRs} (hc : zEv 81 0 0 0 [some (.int v2)] [] (zGs Ln I A) q) {w : Int32} (hn : q.1 = some (.int w)) (hk : zEv 57 17 0 0 [some (.ref 1), some (.int v1), some (.int v2), some (.int v3), some (.int v4), none, none] (.int w :: []) q.2 r) : zEv 57 13 0 0 [some (.ref 1), some (.int v1), some (.int v2), some (.int v3), some (.int v4), none, none] [] (zGs Ln I A) r := 
  zEv.lift 1 (fun _ => by with_unfolding_all rfl) (show zEv 57 14 0 0 [some (.ref 1), some (.int v1), some (.int v2), some (.int v3), some (.int v4), none, none] [.int v2] (zGs Ln I A) r from zEv.call (as := [.int v2]) rfl (fun _ => rfl) (Nat.le_of_ble_eq_true rfl) hc (by rw [hn]; exact hk))
set_option maxRecDepth 100000 in
theorem B_X7_crossings_r1_17_s1 (Ln : Nat) (I A : Nat → Nat → Int32) (v1 : Int32) (v2 : Int32) (v3 : Int32) (v4 : Int32) (s0 : Int32) {r : zRs}  (kt : s0 ≠ 0 → zEv 57 27 0 0 [some (.ref 1), some (.int v1), some (.int v2), some (.int v3), some (.int v4), none, none] [] (zGs Ln I A) r) (kf : ¬ (s0 ≠ 0) → zEv 57 20 0 0 [some (.ref 1), some (.int v1), some (.int v2), some (.int v3), some (.int v4), none, none] [] (zGs Ln I A) r) : zEv 57 17 0 0 [some (.ref 1), some (.int v1), some (.int v2), some (.int v3), some (.int v4), none, none] [.int s0] (zGs Ln I A) r := 
  zEv.br0 (tgt := 27) rfl rfl (fun h => kt (of_decide_eq_true h)) (fun h => kf (of_decide_eq_false h))
set_option maxRecDepth 100000 in
theorem B_X7_crossings_r1_20 (Ln : Nat) (I A : Nat → Nat → Int32) (v1 : Int32) (v2 : Int32) (v3 : Int32) (v4 : Int32) {r : zRs}  {q : zRs} (hc : zEv 82 0 0 0 [some (.ref 1), some (.int ((-2)))] [] (zGs Ln I A) q) {w : Int32} (hn : q.1 = some (.int w)) (hk : zEv 57 26 0 0 [some (.ref 1), some (.int v1), some (.int v2), some (.int v3), some (.int v4), none, none] (.int w :: []) q.2 r) : zEv 57 20 0 0 [some (.ref 1), some (.int v1), some (.int v2), some (.int v3), some (.int v4), none, none] [] (zGs Ln I A) r := 
  zEv.lift 2 (fun _ => by with_unfolding_all rfl) (show zEv 57 23 0 0 [some (.ref 1), some (.int v1), some (.int v2), some (.int v3), some (.int v4), none, none] [.int ((-2)), .ref 1] (zGs Ln I A) r from zEv.call (as := [.ref 1, .int ((-2))]) rfl (fun _ => rfl) (Nat.le_of_ble_eq_true rfl) hc (by rw [hn]; exact hk))
set_option maxRecDepth 100000 in
theorem B_X7_crossings_r1_26_s1 (Ln : Nat) (I A : Nat → Nat → Int32) (v1 : Int32) (v2 : Int32) (v3 : Int32) (v4 : Int32) (s0 : Int32)   : zEv 57 26 0 0 [some (.ref 1), some (.int v1), some (.int v2), some (.int v3), some (.int v4), none, none] [.int s0] (zGs Ln I A) (some (.int s0), zGs Ln (I) (A)) := 
  zEv.ret rfl
set_option maxRecDepth 100000 in
theorem B_X7_crossings_r1_27 (Ln : Nat) (I A : Nat → Nat → Int32) (v1 : Int32) (v2 : Int32) (v3 : Int32) (v4 : Int32) {r : zRs}  {q : zRs} (hc : zEv 77 0 0 0 [some (.ref 1)] [] (zGs Ln I A) q) {w : Int32} (hn : q.1 = some (.int w)) (hk : zEv 57 31 0 0 [some (.ref 1), some (.int v1), some (.int v2), some (.int v3), some (.int v4), none, none] (.int w :: []) q.2 r) : zEv 57 27 0 0 [some (.ref 1), some (.int v1), some (.int v2), some (.int v3), some (.int v4), none, none] [] (zGs Ln I A) r := 
  zEv.lift 1 (fun _ => by with_unfolding_all rfl) (show zEv 57 28 0 0 [some (.ref 1), some (.int v1), some (.int v2), some (.int v3), some (.int v4), none, none] [.ref 1] (zGs Ln I A) r from zEv.call (as := [.ref 1]) rfl (fun _ => rfl) (Nat.le_of_ble_eq_true rfl) hc (by rw [hn]; exact hk))
set_option maxRecDepth 100000 in
theorem B_X7_crossings_r1_31_s1 (Ln : Nat) (I A : Nat → Nat → Int32) (v1 : Int32) (v2 : Int32) (v3 : Int32) (v4 : Int32) (s0 : Int32) {r : zRs}  (kt : s0 = 0 → zEv 57 41 0 0 [some (.ref 1), some (.int v1), some (.int v2), some (.int v3), some (.int v4), none, none] [] (zGs Ln I A) r) (kf : ¬ (s0 = 0) → zEv 57 34 0 0 [some (.ref 1), some (.int v1), some (.int v2), some (.int v3), some (.int v4), none, none] [] (zGs Ln I A) r) : zEv 57 31 0 0 [some (.ref 1), some (.int v1), some (.int v2), some (.int v3), some (.int v4), none, none] [.int s0] (zGs Ln I A) r := 
  zEv.br0 (tgt := 41) rfl rfl (fun h => kt (of_decide_eq_true h)) (fun h => kf (of_decide_eq_false h))
set_option maxRecDepth 100000 in
theorem B_X7_crossings_r1_34 (Ln : Nat) (I A : Nat → Nat → Int32) (v1 : Int32) (v2 : Int32) (v3 : Int32) (v4 : Int32) {r : zRs}  {q : zRs} (hc : zEv 82 0 0 0 [some (.ref 1), some (.int ((-3)))] [] (zGs Ln I A) q) {w : Int32} (hn : q.1 = some (.int w)) (hk : zEv 57 40 0 0 [some (.ref 1), some (.int v1), some (.int v2), some (.int v3), some (.int v4), none, none] (.int w :: []) q.2 r) : zEv 57 34 0 0 [some (.ref 1), some (.int v1), some (.int v2), some (.int v3), some (.int v4), none, none] [] (zGs Ln I A) r := 
  zEv.lift 2 (fun _ => by with_unfolding_all rfl) (show zEv 57 37 0 0 [some (.ref 1), some (.int v1), some (.int v2), some (.int v3), some (.int v4), none, none] [.int ((-3)), .ref 1] (zGs Ln I A) r from zEv.call (as := [.ref 1, .int ((-3))]) rfl (fun _ => rfl) (Nat.le_of_ble_eq_true rfl) hc (by rw [hn]; exact hk))
set_option maxRecDepth 100000 in
theorem B_X7_crossings_r1_40_s1 (Ln : Nat) (I A : Nat → Nat → Int32) (v1 : Int32) (v2 : Int32) (v3 : Int32) (v4 : Int32) (s0 : Int32)   : zEv 57 40 0 0 [some (.ref 1), some (.int v1), some (.int v2), some (.int v3), some (.int v4), none, none] [.int s0] (zGs Ln I A) (some (.int s0), zGs Ln (I) (A)) := 
  zEv.ret rfl
set_option maxRecDepth 100000 in
theorem B_X7_crossings_r1_c0_0 (Ln : Nat) (I A : Nat → Nat → Int32) (v2 : Int32) (v3 : Int32) (v4 : Int32) {r : zRs}  {q : zRs} (hc : zEv 80 0 0 0 [some (.int 0)] [] (zGs Ln I A) q) {w : Int32} (hn : q.1 = some (.int w)) (hk : zEv 57 4 0 0 [some (.ref 1), some (.int 0), some (.int v2), some (.int v3), some (.int v4), none, none] (.int w :: []) q.2 r) : zEv 57 0 0 0 [some (.ref 1), some (.int 0), some (.int v2), some (.int v3), some (.int v4), none, none] [] (zGs Ln I A) r := 
  zEv.lift 1 (fun _ => by with_unfolding_all rfl) (show zEv 57 1 0 0 [some (.ref 1), some (.int 0), some (.int v2), some (.int v3), some (.int v4), none, none] [.int 0] (zGs Ln I A) r from zEv.call (as := [.int 0]) rfl (fun _ => rfl) (Nat.le_of_ble_eq_true rfl) hc (by rw [hn]; exact hk))
set_option maxRecDepth 100000 in
theorem B_X7_crossings_r1_c0_4_s1 (Ln : Nat) (I A : Nat → Nat → Int32) (v2 : Int32) (v3 : Int32) (v4 : Int32) (s0 : Int32) {r : zRs}  (kt : s0 ≠ 0 → zEv 57 13 0 0 [some (.ref 1), some (.int 0), some (.int v2), some (.int v3), some (.int v4), none, none] [] (zGs Ln I A) r) (kf : ¬ (s0 ≠ 0) → zEv 57 7 0 0 [some (.ref 1), some (.int 0), some (.int v2), some (.int v3), some (.int v4), none, none] [] (zGs Ln I A) r) : zEv 57 4 0 0 [some (.ref 1), some (.int 0), some (.int v2), some (.int v3), some (.int v4), none, none] [.int s0] (zGs Ln I A) r := 
  zEv.br0 (tgt := 13) rfl rfl (fun h => kt (of_decide_eq_true h)) (fun h => kf (of_decide_eq_false h))
set_option maxRecDepth 100000 in
theorem B_X7_crossings_r1_c0_7 (Ln : Nat) (I A : Nat → Nat → Int32) (v2 : Int32) (v3 : Int32) (v4 : Int32) {r : zRs}  {q : zRs} (hc : zEv 82 0 0 0 [some (.ref 1), some (.int ((-1)))] [] (zGs Ln I A) q) {w : Int32} (hn : q.1 = some (.int w)) (hk : zEv 57 12 0 0 [some (.ref 1), some (.int 0), some (.int v2), some (.int v3), some (.int v4), none, none] (.int w :: []) q.2 r) : zEv 57 7 0 0 [some (.ref 1), some (.int 0), some (.int v2), some (.int v3), some (.int v4), none, none] [] (zGs Ln I A) r := 
  zEv.lift 2 (fun _ => by with_unfolding_all rfl) (show zEv 57 9 0 0 [some (.ref 1), some (.int 0), some (.int v2), some (.int v3), some (.int v4), none, none] [.int ((-1)), .ref 1] (zGs Ln I A) r from zEv.call (as := [.ref 1, .int ((-1))]) rfl (fun _ => rfl) (Nat.le_of_ble_eq_true rfl) hc (by rw [hn]; exact hk))
set_option maxRecDepth 100000 in
theorem B_X7_crossings_r1_c0_12_s1 (Ln : Nat) (I A : Nat → Nat → Int32) (v2 : Int32) (v3 : Int32) (v4 : Int32) (s0 : Int32)   : zEv 57 12 0 0 [some (.ref 1), some (.int 0), some (.int v2), some (.int v3), some (.int v4), none, none] [.int s0] (zGs Ln I A) (some (.int s0), zGs Ln (I) (A)) := 
  zEv.ret rfl
set_option maxRecDepth 100000 in
theorem B_X7_crossings_r1_c0_13 (Ln : Nat) (I A : Nat → Nat → Int32) (v2 : Int32) (v3 : Int32) (v4 : Int32) {r : zRs}  {q : zRs} (hc : zEv 81 0 0 0 [some (.int v2)] [] (zGs Ln I A) q) {w : Int32} (hn : q.1 = some (.int w)) (hk : zEv 57 17 0 0 [some (.ref 1), some (.int 0), some (.int v2), some (.int v3), some (.int v4), none, none] (.int w :: []) q.2 r) : zEv 57 13 0 0 [some (.ref 1), some (.int 0), some (.int v2), some (.int v3), some (.int v4), none, none] [] (zGs Ln I A) r := 
  zEv.lift 1 (fun _ => by with_unfolding_all rfl) (show zEv 57 14 0 0 [some (.ref 1), some (.int 0), some (.int v2), some (.int v3), some (.int v4), none, none] [.int v2] (zGs Ln I A) r from zEv.call (as := [.int v2]) rfl (fun _ => rfl) (Nat.le_of_ble_eq_true rfl) hc (by rw [hn]; exact hk))
set_option maxRecDepth 100000 in
theorem B_X7_crossings_r1_c0_17_s1 (Ln : Nat) (I A : Nat → Nat → Int32) (v2 : Int32) (v3 : Int32) (v4 : Int32) (s0 : Int32) {r : zRs}  (kt : s0 ≠ 0 → zEv 57 27 0 0 [some (.ref 1), some (.int 0), some (.int v2), some (.int v3), some (.int v4), none, none] [] (zGs Ln I A) r) (kf : ¬ (s0 ≠ 0) → zEv 57 20 0 0 [some (.ref 1), some (.int 0), some (.int v2), some (.int v3), some (.int v4), none, none] [] (zGs Ln I A) r) : zEv 57 17 0 0 [some (.ref 1), some (.int 0), some (.int v2), some (.int v3), some (.int v4), none, none] [.int s0] (zGs Ln I A) r := 
  zEv.br0 (tgt := 27) rfl rfl (fun h => kt (of_decide_eq_true h)) (fun h => kf (of_decide_eq_false h))
set_option maxRecDepth 100000 in
theorem B_X7_crossings_r1_c0_20 (Ln : Nat) (I A : Nat → Nat → Int32) (v2 : Int32) (v3 : Int32) (v4 : Int32) {r : zRs}  {q : zRs} (hc : zEv 82 0 0 0 [some (.ref 1), some (.int ((-2)))] [] (zGs Ln I A) q) {w : Int32} (hn : q.1 = some (.int w)) (hk : zEv 57 26 0 0 [some (.ref 1), some (.int 0), some (.int v2), some (.int v3), some (.int v4), none, none] (.int w :: []) q.2 r) : zEv 57 20 0 0 [some (.ref 1), some (.int 0), some (.int v2), some (.int v3), some (.int v4), none, none] [] (zGs Ln I A) r := 
  zEv.lift 2 (fun _ => by with_unfolding_all rfl) (show zEv 57 23 0 0 [some (.ref 1), some (.int 0), some (.int v2), some (.int v3), some (.int v4), none, none] [.int ((-2)), .ref 1] (zGs Ln I A) r from zEv.call (as := [.ref 1, .int ((-2))]) rfl (fun _ => rfl) (Nat.le_of_ble_eq_true rfl) hc (by rw [hn]; exact hk))
set_option maxRecDepth 100000 in
theorem B_X7_crossings_r1_c0_26_s1 (Ln : Nat) (I A : Nat → Nat → Int32) (v2 : Int32) (v3 : Int32) (v4 : Int32) (s0 : Int32)   : zEv 57 26 0 0 [some (.ref 1), some (.int 0), some (.int v2), some (.int v3), some (.int v4), none, none] [.int s0] (zGs Ln I A) (some (.int s0), zGs Ln (I) (A)) := 
  zEv.ret rfl
set_option maxRecDepth 100000 in
theorem B_X7_crossings_r1_c0_27 (Ln : Nat) (I A : Nat → Nat → Int32) (v2 : Int32) (v3 : Int32) (v4 : Int32) {r : zRs}  {q : zRs} (hc : zEv 77 0 0 0 [some (.ref 1)] [] (zGs Ln I A) q) {w : Int32} (hn : q.1 = some (.int w)) (hk : zEv 57 31 0 0 [some (.ref 1), some (.int 0), some (.int v2), some (.int v3), some (.int v4), none, none] (.int w :: []) q.2 r) : zEv 57 27 0 0 [some (.ref 1), some (.int 0), some (.int v2), some (.int v3), some (.int v4), none, none] [] (zGs Ln I A) r := 
  zEv.lift 1 (fun _ => by with_unfolding_all rfl) (show zEv 57 28 0 0 [some (.ref 1), some (.int 0), some (.int v2), some (.int v3), some (.int v4), none, none] [.ref 1] (zGs Ln I A) r from zEv.call (as := [.ref 1]) rfl (fun _ => rfl) (Nat.le_of_ble_eq_true rfl) hc (by rw [hn]; exact hk))
set_option maxRecDepth 100000 in
theorem B_X7_crossings_r1_c0_31_s1 (Ln : Nat) (I A : Nat → Nat → Int32) (v2 : Int32) (v3 : Int32) (v4 : Int32) (s0 : Int32) {r : zRs}  (kt : s0 = 0 → zEv 57 41 0 0 [some (.ref 1), some (.int 0), some (.int v2), some (.int v3), some (.int v4), none, none] [] (zGs Ln I A) r) (kf : ¬ (s0 = 0) → zEv 57 34 0 0 [some (.ref 1), some (.int 0), some (.int v2), some (.int v3), some (.int v4), none, none] [] (zGs Ln I A) r) : zEv 57 31 0 0 [some (.ref 1), some (.int 0), some (.int v2), some (.int v3), some (.int v4), none, none] [.int s0] (zGs Ln I A) r := 
  zEv.br0 (tgt := 41) rfl rfl (fun h => kt (of_decide_eq_true h)) (fun h => kf (of_decide_eq_false h))
set_option maxRecDepth 100000 in
theorem B_X7_crossings_r1_c0_34 (Ln : Nat) (I A : Nat → Nat → Int32) (v2 : Int32) (v3 : Int32) (v4 : Int32) {r : zRs}  {q : zRs} (hc : zEv 82 0 0 0 [some (.ref 1), some (.int ((-3)))] [] (zGs Ln I A) q) {w : Int32} (hn : q.1 = some (.int w)) (hk : zEv 57 40 0 0 [some (.ref 1), some (.int 0), some (.int v2), some (.int v3), some (.int v4), none, none] (.int w :: []) q.2 r) : zEv 57 34 0 0 [some (.ref 1), some (.int 0), some (.int v2), some (.int v3), some (.int v4), none, none] [] (zGs Ln I A) r := 
  zEv.lift 2 (fun _ => by with_unfolding_all rfl) (show zEv 57 37 0 0 [some (.ref 1), some (.int 0), some (.int v2), some (.int v3), some (.int v4), none, none] [.int ((-3)), .ref 1] (zGs Ln I A) r from zEv.call (as := [.ref 1, .int ((-3))]) rfl (fun _ => rfl) (Nat.le_of_ble_eq_true rfl) hc (by rw [hn]; exact hk))
set_option maxRecDepth 100000 in
theorem B_X7_crossings_r1_c0_40_s1 (Ln : Nat) (I A : Nat → Nat → Int32) (v2 : Int32) (v3 : Int32) (v4 : Int32) (s0 : Int32)   : zEv 57 40 0 0 [some (.ref 1), some (.int 0), some (.int v2), some (.int v3), some (.int v4), none, none] [.int s0] (zGs Ln I A) (some (.int s0), zGs Ln (I) (A)) := 
  zEv.ret rfl
set_option maxRecDepth 100000 in
theorem B_X7_crossings_r1_c0_41 (Ln : Nat) (I A : Nat → Nat → Int32) (v2 : Int32) (v3 : Int32) (v4 : Int32) {r : zRs}  {q : zRs} (hc : zEv 24 0 0 0 [some (.ref 3), some (.int v2), some (.int v3), some (.int v4)] [] (zGs Ln I A) q) {w : Int32} (hn : q.1 = some (.int w)) (hk : zEv 57 58 0 0 [some (.ref 1), some (.int 0), some (.int v2), some (.int v3), some (.int v4), some (.ref 3), none] (.int w :: []) q.2 r) : zEv 57 41 0 0 [some (.ref 1), some (.int 0), some (.int v2), some (.int v3), some (.int v4), none, none] [] (zGs Ln I A) r := 
  zEv.lift 9 (fun _ => by with_unfolding_all rfl) (show zEv 57 55 0 0 [some (.ref 1), some (.int 0), some (.int v2), some (.int v3), some (.int v4), some (.ref 3), none] [.int v4, .int v3, .int v2, .ref 3] (zGs Ln I A) r from zEv.call (as := [.ref 3, .int v2, .int v3, .int v4]) rfl (fun _ => rfl) (Nat.le_of_ble_eq_true rfl) hc (by rw [hn]; exact hk))
set_option maxRecDepth 100000 in
theorem B_X7_crossings_r1_c0_58_s1_l3 (Ln : Nat) (I A : Nat → Nat → Int32) (v2 : Int32) (v3 : Int32) (v4 : Int32) (s0 : Int32) {r : zRs}  (kt : s0 = 0 → zEv 57 72 0 0 [some (.ref 1), some (.int 0), some (.int v2), some (.int v3), some (.int v4), some (.ref 3), some (.int s0)] [] (zGs Ln I A) r) (kf : ¬ (s0 = 0) → zEv 57 65 0 0 [some (.ref 1), some (.int 0), some (.int v2), some (.int v3), some (.int v4), some (.ref 3), some (.int s0)] [] (zGs Ln I A) r) : zEv 57 58 0 0 [some (.ref 1), some (.int 0), some (.int v2), some (.int v3), some (.int v4), some (.ref 3), none] [.int s0] (zGs Ln I A) r := 
  zEv.lift 2 (fun _ => by with_unfolding_all rfl) (show zEv 57 62 0 0 [some (.ref 1), some (.int 0), some (.int v2), some (.int v3), some (.int v4), some (.ref 3), some (.int s0)] [.int s0] (zGs Ln I A) r from zEv.br0 (tgt := 72) rfl rfl (fun h => kt (of_decide_eq_true h)) (fun h => kf (of_decide_eq_false h)))
set_option maxRecDepth 100000 in
theorem B_X7_crossings_r1_c0_65_l3 (Ln : Nat) (I A : Nat → Nat → Int32) (v2 : Int32) (v3 : Int32) (v4 : Int32) (v6 : Int32) {r : zRs}  {q : zRs} (hc : zEv 83 0 0 0 [some (.ref 1), some (.int v6)] [] (zGs Ln I A) q) {w : Int32} (hn : q.1 = some (.int w)) (hk : zEv 57 71 0 0 [some (.ref 1), some (.int 0), some (.int v2), some (.int v3), some (.int v4), some (.ref 3), some (.int v6)] (.int w :: []) q.2 r) : zEv 57 65 0 0 [some (.ref 1), some (.int 0), some (.int v2), some (.int v3), some (.int v4), some (.ref 3), some (.int v6)] [] (zGs Ln I A) r := 
  zEv.lift 2 (fun _ => by with_unfolding_all rfl) (show zEv 57 68 0 0 [some (.ref 1), some (.int 0), some (.int v2), some (.int v3), some (.int v4), some (.ref 3), some (.int v6)] [.int v6, .ref 1] (zGs Ln I A) r from zEv.call (as := [.ref 1, .int v6]) rfl (fun _ => rfl) (Nat.le_of_ble_eq_true rfl) hc (by rw [hn]; exact hk))
