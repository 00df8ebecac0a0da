/-! the law up to its loop, by program (wip/whole/gen_init.py) -/
set_option maxRecDepth 100000 in
theorem zin_7_X3_init_p3 (Ln : Nat) (xs : Nat → Int32) {r : zRs} (hk : zEv 18 20 2 12 [some (.ref 22)] [] (25, ziC24, (ziL16 Ln), ziF31, ziI25, (ziA15 xs)) r) : zEv 18 17 2 12 [some (.ref 22)] [.ref 24, .ref 22] (25, ziC24, (ziL16 Ln), ziF30, ziI25, (ziA15 xs)) r :=
  zEv.lift 1 (fun _ => by with_unfolding_all rfl) hk
set_option maxRecDepth 100000 in
theorem zin_7_X3_init_p4 (Ln : Nat) (xs : Nat → Int32) {r : zRs} (hk : zEv 18 25 3 18 [some (.ref 22)] [.ref 25, .ref 22] (26, ziC25, (ziL17 Ln), ziF31, ziI25, (ziA16 xs)) r) : zEv 18 20 2 12 [some (.ref 22)] [] (25, ziC24, (ziL16 Ln), ziF31, ziI25, (ziA15 xs)) r :=
  zEv.lift 3 (fun _ => by with_unfolding_all rfl) hk
set_option maxRecDepth 100000 in
theorem zin_7_X3_init_p5 (Ln : Nat) (xs : Nat → Int32) {r : zRs} (hk : zEv 18 28 3 18 [some (.ref 22)] [] (26, ziC25, (ziL17 Ln), ziF32, ziI25, (ziA16 xs)) r) : zEv 18 25 3 18 [some (.ref 22)] [.ref 25, .ref 22] (26, ziC25, (ziL17 Ln), ziF31, ziI25, (ziA16 xs)) r :=
  zEv.lift 1 (fun _ => by with_unfolding_all rfl) hk
set_option maxRecDepth 100000 in
theorem zin_7_X3_init_p6 (Ln : Nat) (xs : Nat → Int32) {r : zRs} (hk : zEv 18 33 3 18 [some (.ref 22)] [] (26, ziC25, (ziL17 Ln), ziF32, ziI26, (ziA16 xs)) r) : zEv 18 28 3 18 [some (.ref 22)] [] (26, ziC25, (ziL17 Ln), ziF32, ziI25, (ziA16 xs)) r :=
  zEv.lift 3 (fun _ => by with_unfolding_all rfl) hk
set_option maxRecDepth 100000 in
theorem zin_7_X3_init_e (Ln : Nat) (xs : Nat → Int32) : zEv 18 33 3 18 [some (.ref 22)] [] (26, ziC25, (ziL17 Ln), ziF32, ziI26, (ziA16 xs)) (none, (26, ziC25, (ziL17 Ln), ziF32, ziI26, (ziA16 xs))) := zEv.ret rfl
theorem zin_7_X3_init (Ln : Nat) (xs : Nat → Int32) : zEv 18 0 0 0 [some (.ref 22)] [] (23, ziC22, (ziL14 Ln), ziF29, ziI25, (ziA13 xs)) (none, (26, ziC25, (ziL17 Ln), ziF32, ziI26, (ziA16 xs))) := (zin_7_X3_init_p0 Ln xs (zin_7_X3_init_p1 Ln xs (zin_7_X3_init_p2 Ln xs (zin_7_X3_init_p3 Ln xs (zin_7_X3_init_p4 Ln xs (zin_7_X3_init_p5 Ln xs (zin_7_X3_init_p6 Ln xs (zin_7_X3_init_e Ln xs))))))))
set_option maxRecDepth 100000 in
theorem zin_8_X1_init_p0 (Ln : Nat) (xs : Nat → Int32) {r : zRs} (hk : zEv 9 9 1 64 [some (.ref 26), some (.ref 11)] [.ref 27, .ref 26] (28, ziC27, (ziL18 Ln), ziF34, ziI27, (ziA17 xs)) r) : zEv 9 0 0 0 [some (.ref 26), some (.ref 11)] [] (27, ziC26, (ziL17 Ln), ziF34, ziI27, (ziA16 xs)) r :=
  zEv.lift 5 (fun _ => by with_unfolding_all rfl) hk
set_option maxRecDepth 100000 in
theorem zin_8_X1_init_p1 (Ln : Nat) (xs : Nat → Int32) {r : zRs} (hk : zEv 9 12 1 64 [some (.ref 26), some (.ref 11)] [] (28, ziC27, (ziL18 Ln), ziF35, ziI27, (ziA17 xs)) r) : zEv 9 9 1 64 [some (.ref 26), some (.ref 11)] [.ref 27, .ref 26] (28, ziC27, (ziL18 Ln), ziF34, ziI27, (ziA17 xs)) r :=
  zEv.lift 1 (fun _ => by with_unfolding_all rfl) hk
set_option maxRecDepth 100000 in
theorem zin_8_X1_init_p2 (Ln : Nat) (xs : Nat → Int32) {r : zRs} (hk : zEv 9 17 1 64 [some (.ref 26), some (.ref 11)] [] (28, ziC27, (ziL18 Ln), ziF36, ziI27, (ziA17 xs)) r) : zEv 9 12 1 64 [some (.ref 26), some (.ref 11)] [] (28, ziC27, (ziL18 Ln), ziF35, ziI27, (ziA17 xs)) r :=
  zEv.lift 3 (fun _ => by with_unfolding_all rfl) hk
set_option maxRecDepth 100000 in
theorem zin_8_X1_init_e (Ln : Nat) (xs : Nat → Int32) : zEv 9 17 1 64 [some (.ref 26), some (.ref 11)] [] (28, ziC27, (ziL18 Ln), ziF36, ziI27, (ziA17 xs)) (none, (28, ziC27, (ziL18 Ln), ziF36, ziI27, (ziA17 xs))) := zEv.ret rfl
theorem zin_8_X1_init (Ln : Nat) (xs : Nat → Int32) : zEv 9 0 0 0 [some (.ref 26), some (.ref 11)] [] (27, ziC26, (ziL17 Ln), ziF34, ziI27, (ziA16 xs)) (none, (28, ziC27, (ziL18 Ln), ziF36, ziI27, (ziA17 xs))) := (zin_8_X1_init_p0 Ln xs (zin_8_X1_init_p1 Ln xs (zin_8_X1_init_p2 Ln xs (zin_8_X1_init_e Ln xs))))
set_option maxRecDepth 100000 in
theorem zin_9_X6_init_p0 (Ln : Nat) (xs : Nat → Int32) {r : zRs} (hk : zEv 34 9 1 6 [some (.ref 28), some (.ref 11)] [.ref 29, .ref 28] (30, ziC29, (ziL19 Ln), ziF38, ziI28, (ziA18 xs)) r) : zEv 34 0 0 0 [some (.ref 28), some (.ref 11)] [] (29, ziC28, (ziL18 Ln), ziF38, ziI28, (ziA17 xs)) r :=
  zEv.lift 5 (fun _ => by with_unfolding_all rfl) hk
set_option maxRecDepth 100000 in
theorem zin_9_X6_init_p1 (Ln : Nat) (xs : Nat → Int32) {r : zRs} (hk : zEv 34 12 1 6 [some (.ref 28), some (.ref 11)] [] (30, ziC29, (ziL19 Ln), ziF39, ziI28, (ziA18 xs)) r) : zEv 34 9 1 6 [some (.ref 28), some (.ref 11)] [.ref 29, .ref 28] (30, ziC29, (ziL19 Ln), ziF38, ziI28, (ziA18 xs)) r :=
  zEv.lift 1 (fun _ => by with_unfolding_all rfl) hk
set_option maxRecDepth 100000 in
theorem zin_9_X6_init_p2 (Ln : Nat) (xs : Nat → Int32) {r : zRs} (hk : zEv 34 17 2 66 [some (.ref 28), some (.ref 11)] [.ref 30, .ref 28] (31, ziC30, (ziL20 Ln), ziF39, ziI28, (ziA19 xs)) r) : zEv 34 12 1 6 [some (.ref 28), some (.ref 11)] [] (30, ziC29, (ziL19 Ln), ziF39, ziI28, (ziA18 xs)) r :=
  zEv.lift 3 (fun _ => by with_unfolding_all rfl) hk
set_option maxRecDepth 100000 in
theorem zin_9_X6_init_p3 (Ln : Nat) (xs : Nat → Int32) {r : zRs} (hk : zEv 34 20 2 66 [some (.ref 28), some (.ref 11)] [] (31, ziC30, (ziL20 Ln), ziF40, ziI28, (ziA19 xs)) r) : zEv 34 17 2 66 [some (.ref 28), some (.ref 11)] [.ref 30, .ref 28] (31, ziC30, (ziL20 Ln), ziF39, ziI28, (ziA19 xs)) r :=
  zEv.lift 1 (fun _ => by with_unfolding_all rfl) hk
set_option maxRecDepth 100000 in
theorem zin_9_X6_init_p4 (Ln : Nat) (xs : Nat → Int32) {r : zRs} (hk : zEv 34 25 3 126 [some (.ref 28), some (.ref 11)] [.ref 31, .ref 28] (32, ziC31, (ziL21 Ln), ziF40, ziI28, (ziA20 xs)) r) : zEv 34 20 2 66 [some (.ref 28), some (.ref 11)] [] (31, ziC30, (ziL20 Ln), ziF40, ziI28, (ziA19 xs)) r :=
  zEv.lift 3 (fun _ => by with_unfolding_all rfl) hk
set_option maxRecDepth 100000 in
theorem zin_9_X6_init_p5 (Ln : Nat) (xs : Nat → Int32) {r : zRs} (hk : zEv 34 28 3 126 [some (.ref 28), some (.ref 11)] [] (32, ziC31, (ziL21 Ln), ziF41, ziI28, (ziA20 xs)) r) : zEv 34 25 3 126 [some (.ref 28), some (.ref 11)] [.ref 31, .ref 28] (32, ziC31, (ziL21 Ln), ziF40, ziI28, (ziA20 xs)) r :=
  zEv.lift 1 (fun _ => by with_unfolding_all rfl) hk
set_option maxRecDepth 100000 in
theorem zin_9_X6_init_p6 (Ln : Nat) (xs : Nat → Int32) {r : zRs} (hk : zEv 34 33 4 186 [some (.ref 28), some (.ref 11)] [.ref 32, .ref 28] (33, ziC32, (ziL22 Ln), ziF41, ziI28, (ziA21 xs)) r) : zEv 34 28 3 126 [some (.ref 28), some (.ref 11)] [] (32, ziC31, (ziL21 Ln), ziF41, ziI28, (ziA20 xs)) r :=
  zEv.lift 3 (fun _ => by with_unfolding_all rfl) hk
set_option maxRecDepth 100000 in
theorem zin_9_X6_init_p7 (Ln : Nat) (xs : Nat → Int32) {r : zRs} (hk : zEv 34 36 4 186 [some (.ref 28), some (.ref 11)] [] (33, ziC32, (ziL22 Ln), ziF42, ziI28, (ziA21 xs)) r) : zEv 34 33 4 186 [some (.ref 28), some (.ref 11)] [.ref 32, .ref 28] (33, ziC32, (ziL22 Ln), ziF41, ziI28, (ziA21 xs)) r :=
  zEv.lift 1 (fun _ => by with_unfolding_all rfl) hk
set_option maxRecDepth 100000 in
theorem zin_9_X6_init_p8 (Ln : Nat) (xs : Nat → Int32) {r : zRs} (hk : zEv 34 41 5 192 [some (.ref 28), some (.ref 11)] [.ref 33, .ref 28] (34, ziC33, (ziL23 Ln), ziF42, ziI28, (ziA22 xs)) r) : zEv 34 36 4 186 [some (.ref 28), some (.ref 11)] [] (33, ziC32, (ziL22 Ln), ziF42, ziI28, (ziA21 xs)) r :=
  zEv.lift 3 (fun _ => by with_unfolding_all rfl) hk
