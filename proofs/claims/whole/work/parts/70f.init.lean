/-! the law up to its loop, by program (wip/whole/gen_init.py) -/
set_option maxRecDepth 100000 in
theorem zin_9_X6_init_p9 (Ln : Nat) (xs : Nat → Int32) {r : zRs} (hk : zEv 34 44 5 192 [some (.ref 28), some (.ref 11)] [] (34, ziC33, (ziL23 Ln), ziF43, ziI28, (ziA22 xs)) r) : zEv 34 41 5 192 [some (.ref 28), some (.ref 11)] [.ref 33, .ref 28] (34, ziC33, (ziL23 Ln), ziF42, ziI28, (ziA22 xs)) r :=
  zEv.lift 1 (fun _ => by with_unfolding_all rfl) hk
set_option maxRecDepth 100000 in
theorem zin_9_X6_init_p10 (Ln : Nat) (xs : Nat → Int32) {r : zRs} (hk : zEv 34 49 6 198 [some (.ref 28), some (.ref 11)] [.ref 34, .ref 28] (35, ziC34, (ziL24 Ln), ziF43, ziI28, (ziA23 xs)) r) : zEv 34 44 5 192 [some (.ref 28), some (.ref 11)] [] (34, ziC33, (ziL23 Ln), ziF43, ziI28, (ziA22 xs)) r :=
  zEv.lift 3 (fun _ => by with_unfolding_all rfl) hk
set_option maxRecDepth 100000 in
theorem zin_9_X6_init_p11 (Ln : Nat) (xs : Nat → Int32) {r : zRs} (hk : zEv 34 52 6 198 [some (.ref 28), some (.ref 11)] [] (35, ziC34, (ziL24 Ln), ziF44, ziI28, (ziA23 xs)) r) : zEv 34 49 6 198 [some (.ref 28), some (.ref 11)] [.ref 34, .ref 28] (35, ziC34, (ziL24 Ln), ziF43, ziI28, (ziA23 xs)) r :=
  zEv.lift 1 (fun _ => by with_unfolding_all rfl) hk
set_option maxRecDepth 100000 in
theorem zin_9_X6_init_p12 (Ln : Nat) (xs : Nat → Int32) {r : zRs} (hk : zEv 34 57 6 198 [some (.ref 28), some (.ref 11)] [] (35, ziC34, (ziL24 Ln), ziF45, ziI28, (ziA23 xs)) r) : zEv 34 52 6 198 [some (.ref 28), some (.ref 11)] [] (35, ziC34, (ziL24 Ln), ziF44, ziI28, (ziA23 xs)) r :=
  zEv.lift 3 (fun _ => by with_unfolding_all rfl) hk
set_option maxRecDepth 100000 in
theorem zin_9_X6_init_e (Ln : Nat) (xs : Nat → Int32) : zEv 34 57 6 198 [some (.ref 28), some (.ref 11)] [] (35, ziC34, (ziL24 Ln), ziF45, ziI28, (ziA23 xs)) (none, (35, ziC34, (ziL24 Ln), ziF45, ziI28, (ziA23 xs))) := zEv.ret rfl
theorem zin_9_X6_init_g1 (Ln : Nat) (xs : Nat → Int32) {r : zRs} (hk : zEv 34 36 4 186 [some (.ref 28), some (.ref 11)] [] (33, ziC32, (ziL22 Ln), ziF42, ziI28, (ziA21 xs)) r) : zEv 34 0 0 0 [some (.ref 28), some (.ref 11)] [] (29, ziC28, (ziL18 Ln), ziF38, ziI28, (ziA17 xs)) r := (zin_9_X6_init_p0 Ln xs (zin_9_X6_init_p1 Ln xs (zin_9_X6_init_p2 Ln xs (zin_9_X6_init_p3 Ln xs (zin_9_X6_init_p4 Ln xs (zin_9_X6_init_p5 Ln xs (zin_9_X6_init_p6 Ln xs (zin_9_X6_init_p7 Ln xs hk))))))))
theorem zin_9_X6_init_g2 (Ln : Nat) (xs : Nat → Int32) {r : zRs} (hk : zEv 34 57 6 198 [some (.ref 28), some (.ref 11)] [] (35, ziC34, (ziL24 Ln), ziF45, ziI28, (ziA23 xs)) r) : zEv 34 36 4 186 [some (.ref 28), some (.ref 11)] [] (33, ziC32, (ziL22 Ln), ziF42, ziI28, (ziA21 xs)) r := (zin_9_X6_init_p8 Ln xs (zin_9_X6_init_p9 Ln xs (zin_9_X6_init_p10 Ln xs (zin_9_X6_init_p11 Ln xs (zin_9_X6_init_p12 Ln xs hk)))))
theorem zin_9_X6_init (Ln : Nat) (xs : Nat → Int32) : zEv 34 0 0 0 [some (.ref 28), some (.ref 11)] [] (29, ziC28, (ziL18 Ln), ziF38, ziI28, (ziA17 xs)) (none, (35, ziC34, (ziL24 Ln), ziF45, ziI28, (ziA23 xs))) := (zin_9_X6_init_g1 Ln xs (zin_9_X6_init_g2 Ln xs (zin_9_X6_init_e Ln xs)))
set_option maxRecDepth 100000 in
theorem zin_10_X6_init_p0 (Ln : Nat) (xs : Nat → Int32) {r : zRs} (hk : zEv 34 9 1 6 [some (.ref 35), some (.ref 11)] [.ref 36, .ref 35] (37, ziC36, (ziL25 Ln), ziF47, ziI29, (ziA24 xs)) r) : zEv 34 0 0 0 [some (.ref 35), some (.ref 11)] [] (36, ziC35, (ziL24 Ln), ziF47, ziI29, (ziA23 xs)) r :=
  zEv.lift 5 (fun _ => by with_unfolding_all rfl) hk
set_option maxRecDepth 100000 in
theorem zin_10_X6_init_p1 (Ln : Nat) (xs : Nat → Int32) {r : zRs} (hk : zEv 34 12 1 6 [some (.ref 35), some (.ref 11)] [] (37, ziC36, (ziL25 Ln), ziF48, ziI29, (ziA24 xs)) r) : zEv 34 9 1 6 [some (.ref 35), some (.ref 11)] [.ref 36, .ref 35] (37, ziC36, (ziL25 Ln), ziF47, ziI29, (ziA24 xs)) r :=
  zEv.lift 1 (fun _ => by with_unfolding_all rfl) hk
set_option maxRecDepth 100000 in
theorem zin_10_X6_init_p2 (Ln : Nat) (xs : Nat → Int32) {r : zRs} (hk : zEv 34 17 2 66 [some (.ref 35), some (.ref 11)] [.ref 37, .ref 35] (38, ziC37, (ziL26 Ln), ziF48, ziI29, (ziA25 xs)) r) : zEv 34 12 1 6 [some (.ref 35), some (.ref 11)] [] (37, ziC36, (ziL25 Ln), ziF48, ziI29, (ziA24 xs)) r :=
  zEv.lift 3 (fun _ => by with_unfolding_all rfl) hk
set_option maxRecDepth 100000 in
theorem zin_10_X6_init_p3 (Ln : Nat) (xs : Nat → Int32) {r : zRs} (hk : zEv 34 20 2 66 [some (.ref 35), some (.ref 11)] [] (38, ziC37, (ziL26 Ln), ziF49, ziI29, (ziA25 xs)) r) : zEv 34 17 2 66 [some (.ref 35), some (.ref 11)] [.ref 37, .ref 35] (38, ziC37, (ziL26 Ln), ziF48, ziI29, (ziA25 xs)) r :=
  zEv.lift 1 (fun _ => by with_unfolding_all rfl) hk
set_option maxRecDepth 100000 in
theorem zin_10_X6_init_p4 (Ln : Nat) (xs : Nat → Int32) {r : zRs} (hk : zEv 34 25 3 126 [some (.ref 35), some (.ref 11)] [.ref 38, .ref 35] (39, ziC38, (ziL27 Ln), ziF49, ziI29, (ziA26 xs)) r) : zEv 34 20 2 66 [some (.ref 35), some (.ref 11)] [] (38, ziC37, (ziL26 Ln), ziF49, ziI29, (ziA25 xs)) r :=
  zEv.lift 3 (fun _ => by with_unfolding_all rfl) hk
set_option maxRecDepth 100000 in
theorem zin_10_X6_init_p5 (Ln : Nat) (xs : Nat → Int32) {r : zRs} (hk : zEv 34 28 3 126 [some (.ref 35), some (.ref 11)] [] (39, ziC38, (ziL27 Ln), ziF50, ziI29, (ziA26 xs)) r) : zEv 34 25 3 126 [some (.ref 35), some (.ref 11)] [.ref 38, .ref 35] (39, ziC38, (ziL27 Ln), ziF49, ziI29, (ziA26 xs)) r :=
  zEv.lift 1 (fun _ => by with_unfolding_all rfl) hk
set_option maxRecDepth 100000 in
theorem zin_10_X6_init_p6 (Ln : Nat) (xs : Nat → Int32) {r : zRs} (hk : zEv 34 33 4 186 [some (.ref 35), some (.ref 11)] [.ref 39, .ref 35] (40, ziC39, (ziL28 Ln), ziF50, ziI29, (ziA27 xs)) r) : zEv 34 28 3 126 [some (.ref 35), some (.ref 11)] [] (39, ziC38, (ziL27 Ln), ziF50, ziI29, (ziA26 xs)) r :=
  zEv.lift 3 (fun _ => by with_unfolding_all rfl) hk
set_option maxRecDepth 100000 in
theorem zin_10_X6_init_p7 (Ln : Nat) (xs : Nat → Int32) {r : zRs} (hk : zEv 34 36 4 186 [some (.ref 35), some (.ref 11)] [] (40, ziC39, (ziL28 Ln), ziF51, ziI29, (ziA27 xs)) r) : zEv 34 33 4 186 [some (.ref 35), some (.ref 11)] [.ref 39, .ref 35] (40, ziC39, (ziL28 Ln), ziF50, ziI29, (ziA27 xs)) r :=
  zEv.lift 1 (fun _ => by with_unfolding_all rfl) hk
set_option maxRecDepth 100000 in
theorem zin_10_X6_init_p8 (Ln : Nat) (xs : Nat → Int32) {r : zRs} (hk : zEv 34 41 5 192 [some (.ref 35), some (.ref 11)] [.ref 40, .ref 35] (41, ziC40, (ziL29 Ln), ziF51, ziI29, (ziA28 xs)) r) : zEv 34 36 4 186 [some (.ref 35), some (.ref 11)] [] (40, ziC39, (ziL28 Ln), ziF51, ziI29, (ziA27 xs)) r :=
  zEv.lift 3 (fun _ => by with_unfolding_all rfl) hk
set_option maxRecDepth 100000 in
theorem zin_10_X6_init_p9 (Ln : Nat) (xs : Nat → Int32) {r : zRs} (hk : zEv 34 44 5 192 [some (.ref 35), some (.ref 11)] [] (41, ziC40, (ziL29 Ln), ziF52, ziI29, (ziA28 xs)) r) : zEv 34 41 5 192 [some (.ref 35), some (.ref 11)] [.ref 40, .ref 35] (41, ziC40, (ziL29 Ln), ziF51, ziI29, (ziA28 xs)) r :=
  zEv.lift 1 (fun _ => by with_unfolding_all rfl) hk
set_option maxRecDepth 100000 in
theorem zin_10_X6_init_p10 (Ln : Nat) (xs : Nat → Int32) {r : zRs} (hk : zEv 34 49 6 198 [some (.ref 35), some (.ref 11)] [.ref 41, .ref 35] (42, ziC41, (ziL30 Ln), ziF52, ziI29, (ziA29 xs)) r) : zEv 34 44 5 192 [some (.ref 35), some (.ref 11)] [] (41, ziC40, (ziL29 Ln), ziF52, ziI29, (ziA28 xs)) r :=
  zEv.lift 3 (fun _ => by with_unfolding_all rfl) hk
set_option maxRecDepth 100000 in
theorem zin_10_X6_init_p11 (Ln : Nat) (xs : Nat → Int32) {r : zRs} (hk : zEv 34 52 6 198 [some (.ref 35), some (.ref 11)] [] (42, ziC41, (ziL30 Ln), ziF53, ziI29, (ziA29 xs)) r) : zEv 34 49 6 198 [some (.ref 35), some (.ref 11)] [.ref 41, .ref 35] (42, ziC41, (ziL30 Ln), ziF52, ziI29, (ziA29 xs)) r :=
  zEv.lift 1 (fun _ => by with_unfolding_all rfl) hk
