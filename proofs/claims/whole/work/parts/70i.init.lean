/-! the law up to its loop, by program (wip/whole/gen_init.py) -/
set_option maxRecDepth 100000 in
theorem zin_11_X7_init_p35 (Ln : Nat) (xs : Nat → Int32) {r : zRs} (hk : zEv 45 90 27 535 [some (.ref 1), some (.ref 2), some (.ref 11)] [.ref 11, .ref 28, .ref 28, .ref 1] (29, ziC28, (ziL18 Ln), ziF38, ziI28, (ziA17 xs)) r) : zEv 45 88 27 535 [some (.ref 1), some (.ref 2), some (.ref 11)] [.ref 28, .ref 1] (29, ziC28, (ziL18 Ln), ziF38, ziI28, (ziA17 xs)) r :=
  zEv.lift 2 (fun _ => by with_unfolding_all rfl) hk
set_option maxRecDepth 100000 in
theorem zin_11_X7_init_p36 (Ln : Nat) (xs : Nat → Int32) {r : zRs} (hk : zEv 45 93 33 733 [some (.ref 1), some (.ref 2), some (.ref 11)] [.ref 28, .ref 1] (35, ziC34, (ziL24 Ln), ziF45, ziI28, (ziA23 xs)) r) : zEv 45 90 27 535 [some (.ref 1), some (.ref 2), some (.ref 11)] [.ref 11, .ref 28, .ref 28, .ref 1] (29, ziC28, (ziL18 Ln), ziF38, ziI28, (ziA17 xs)) r :=
  zEv.call (as := [.ref 28, .ref 11]) (q := (none, (35, ziC34, (ziL24 Ln), ziF45, ziI28, (ziA23 xs)))) rfl (fun _ => rfl) (Nat.le_of_ble_eq_true rfl) (zin_9_X6_init Ln xs) hk
set_option maxRecDepth 100000 in
theorem zin_11_X7_init_p37 (Ln : Nat) (xs : Nat → Int32) {r : zRs} (hk : zEv 45 96 33 733 [some (.ref 1), some (.ref 2), some (.ref 11)] [] (35, ziC34, (ziL24 Ln), ziF46, ziI28, (ziA23 xs)) r) : zEv 45 93 33 733 [some (.ref 1), some (.ref 2), some (.ref 11)] [.ref 28, .ref 1] (35, ziC34, (ziL24 Ln), ziF45, ziI28, (ziA23 xs)) r :=
  zEv.lift 1 (fun _ => by with_unfolding_all rfl) hk
set_option maxRecDepth 100000 in
theorem zin_11_X7_init_p38 (Ln : Nat) (xs : Nat → Int32) {r : zRs} (hk : zEv 45 100 34 740 [some (.ref 1), some (.ref 2), some (.ref 11)] [.ref 35, .ref 1] (36, ziC35, (ziL24 Ln), ziF47, ziI29, (ziA23 xs)) r) : zEv 45 96 33 733 [some (.ref 1), some (.ref 2), some (.ref 11)] [] (35, ziC34, (ziL24 Ln), ziF46, ziI28, (ziA23 xs)) r :=
  zEv.lift 2 (fun _ => by with_unfolding_all rfl) hk
set_option maxRecDepth 100000 in
theorem zin_11_X7_init_p39 (Ln : Nat) (xs : Nat → Int32) {r : zRs} (hk : zEv 45 102 34 740 [some (.ref 1), some (.ref 2), some (.ref 11)] [.ref 11, .ref 35, .ref 35, .ref 1] (36, ziC35, (ziL24 Ln), ziF47, ziI29, (ziA23 xs)) r) : zEv 45 100 34 740 [some (.ref 1), some (.ref 2), some (.ref 11)] [.ref 35, .ref 1] (36, ziC35, (ziL24 Ln), ziF47, ziI29, (ziA23 xs)) r :=
  zEv.lift 2 (fun _ => by with_unfolding_all rfl) hk
set_option maxRecDepth 100000 in
theorem zin_11_X7_init_p40 (Ln : Nat) (xs : Nat → Int32) {r : zRs} (hk : zEv 45 105 40 938 [some (.ref 1), some (.ref 2), some (.ref 11)] [.ref 35, .ref 1] (42, ziC41, (ziL30 Ln), ziF54, ziI29, (ziA29 xs)) r) : zEv 45 102 34 740 [some (.ref 1), some (.ref 2), some (.ref 11)] [.ref 11, .ref 35, .ref 35, .ref 1] (36, ziC35, (ziL24 Ln), ziF47, ziI29, (ziA23 xs)) r :=
  zEv.call (as := [.ref 35, .ref 11]) (q := (none, (42, ziC41, (ziL30 Ln), ziF54, ziI29, (ziA29 xs)))) rfl (fun _ => rfl) (Nat.le_of_ble_eq_true rfl) (zin_10_X6_init Ln xs) hk
set_option maxRecDepth 100000 in
theorem zin_11_X7_init_p41 (Ln : Nat) (xs : Nat → Int32) {r : zRs} (hk : zEv 45 108 40 938 [some (.ref 1), some (.ref 2), some (.ref 11)] [] (42, ziC41, (ziL30 Ln), ziF55, ziI29, (ziA29 xs)) r) : zEv 45 105 40 938 [some (.ref 1), some (.ref 2), some (.ref 11)] [.ref 35, .ref 1] (42, ziC41, (ziL30 Ln), ziF54, ziI29, (ziA29 xs)) r :=
  zEv.lift 1 (fun _ => by with_unfolding_all rfl) hk
set_option maxRecDepth 100000 in
theorem zin_11_X7_init_p42 (Ln : Nat) (xs : Nat → Int32) {r : zRs} (hk : zEv 45 113 41 944 [some (.ref 1), some (.ref 2), some (.ref 11)] [.ref 42, .ref 1] (43, ziC42, (ziL31 Ln), ziF55, ziI29, (ziA30 xs)) r) : zEv 45 108 40 938 [some (.ref 1), some (.ref 2), some (.ref 11)] [] (42, ziC41, (ziL30 Ln), ziF55, ziI29, (ziA29 xs)) r :=
  zEv.lift 3 (fun _ => by with_unfolding_all rfl) hk
set_option maxRecDepth 100000 in
theorem zin_11_X7_init_p43 (Ln : Nat) (xs : Nat → Int32) {r : zRs} (hk : zEv 45 116 41 944 [some (.ref 1), some (.ref 2), some (.ref 11)] [] (43, ziC42, (ziL31 Ln), ziF56, ziI29, (ziA30 xs)) r) : zEv 45 113 41 944 [some (.ref 1), some (.ref 2), some (.ref 11)] [.ref 42, .ref 1] (43, ziC42, (ziL31 Ln), ziF55, ziI29, (ziA30 xs)) r :=
  zEv.lift 1 (fun _ => by with_unfolding_all rfl) hk
set_option maxRecDepth 100000 in
theorem zin_11_X7_init_p44 (Ln : Nat) (xs : Nat → Int32) {r : zRs} (hk : zEv 45 121 42 950 [some (.ref 1), some (.ref 2), some (.ref 11)] [.ref 43, .ref 1] (44, ziC43, (ziL32 Ln), ziF56, ziI29, (ziA31 xs)) r) : zEv 45 116 41 944 [some (.ref 1), some (.ref 2), some (.ref 11)] [] (43, ziC42, (ziL31 Ln), ziF56, ziI29, (ziA30 xs)) r :=
  zEv.lift 3 (fun _ => by with_unfolding_all rfl) hk
set_option maxRecDepth 100000 in
theorem zin_11_X7_init_p45 (Ln : Nat) (xs : Nat → Int32) {r : zRs} (hk : zEv 45 124 42 950 [some (.ref 1), some (.ref 2), some (.ref 11)] [] (44, ziC43, (ziL32 Ln), ziF57, ziI29, (ziA31 xs)) r) : zEv 45 121 42 950 [some (.ref 1), some (.ref 2), some (.ref 11)] [.ref 43, .ref 1] (44, ziC43, (ziL32 Ln), ziF56, ziI29, (ziA31 xs)) r :=
  zEv.lift 1 (fun _ => by with_unfolding_all rfl) hk
set_option maxRecDepth 100000 in
theorem zin_11_X7_init_p46 (Ln : Nat) (xs : Nat → Int32) {r : zRs} (hk : zEv 45 129 42 950 [some (.ref 1), some (.ref 2), some (.ref 11)] [] (44, ziC43, (ziL32 Ln), ziF57, ziI30, (ziA31 xs)) r) : zEv 45 124 42 950 [some (.ref 1), some (.ref 2), some (.ref 11)] [] (44, ziC43, (ziL32 Ln), ziF57, ziI29, (ziA31 xs)) r :=
  zEv.lift 3 (fun _ => by with_unfolding_all rfl) hk
set_option maxRecDepth 100000 in
theorem zin_11_X7_init_p47 (Ln : Nat) (xs : Nat → Int32) {r : zRs} (hk : zEv 45 134 42 950 [some (.ref 1), some (.ref 2), some (.ref 11)] [] (44, ziC43, (ziL32 Ln), ziF57, ziI31, (ziA31 xs)) r) : zEv 45 129 42 950 [some (.ref 1), some (.ref 2), some (.ref 11)] [] (44, ziC43, (ziL32 Ln), ziF57, ziI30, (ziA31 xs)) r :=
  zEv.lift 3 (fun _ => by with_unfolding_all rfl) hk
set_option maxRecDepth 100000 in
theorem zin_11_X7_init_p48 (Ln : Nat) (xs : Nat → Int32) {r : zRs} (hk : zEv 45 139 42 950 [some (.ref 1), some (.ref 2), some (.ref 11)] [] (44, ziC43, (ziL32 Ln), ziF57, ziI32, (ziA31 xs)) r) : zEv 45 134 42 950 [some (.ref 1), some (.ref 2), some (.ref 11)] [] (44, ziC43, (ziL32 Ln), ziF57, ziI31, (ziA31 xs)) r :=
  zEv.lift 3 (fun _ => by with_unfolding_all rfl) hk
set_option maxRecDepth 100000 in
theorem zin_11_X7_init_e (Ln : Nat) (xs : Nat → Int32) : zEv 45 139 42 950 [some (.ref 1), some (.ref 2), some (.ref 11)] [] (44, ziC43, (ziL32 Ln), ziF57, ziI32, (ziA31 xs)) (none, (44, ziC43, (ziL32 Ln), ziF57, ziI32, (ziA31 xs))) := zEv.ret rfl
theorem zin_11_X7_init_g1 (Ln : Nat) (xs : Nat → Int32) {r : zRs} (hk : zEv 45 25 5 132 [some (.ref 1), some (.ref 2), some (.int 1)] [.ref 5, .int 1, .ref 2] (7, ziC6, (ziL3 Ln), ziF7, ziI9, (ziA2 xs)) r) : zEv 45 0 0 0 [some (.ref 1), none, none] [] (2, ziC1, (ziL0 Ln), ziF1, ziI1, (ziA0 xs)) r := (zin_11_X7_init_p0 Ln xs (zin_11_X7_init_p1 Ln xs (zin_11_X7_init_p2 Ln xs (zin_11_X7_init_p3 Ln xs (zin_11_X7_init_p4 Ln xs (zin_11_X7_init_p5 Ln xs (zin_11_X7_init_p6 Ln xs (zin_11_X7_init_p7 Ln xs hk))))))))
theorem zin_11_X7_init_g2 (Ln : Nat) (xs : Nat → Int32) {r : zRs} (hk : zEv 45 25 9 260 [some (.ref 1), some (.ref 2), some (.int 3)] [.ref 9, .int 3, .ref 2] (11, ziC10, (ziL5 Ln), ziF13, ziI17, (ziA4 xs)) r) : zEv 45 25 5 132 [some (.ref 1), some (.ref 2), some (.int 1)] [.ref 5, .int 1, .ref 2] (7, ziC6, (ziL3 Ln), ziF7, ziI9, (ziA2 xs)) r := (zin_11_X7_init_p8 Ln xs (zin_11_X7_init_p9 Ln xs (zin_11_X7_init_p10 Ln xs (zin_11_X7_init_p11 Ln xs (zin_11_X7_init_p12 Ln xs (zin_11_X7_init_p13 Ln xs (zin_11_X7_init_p14 Ln xs (zin_11_X7_init_p15 Ln xs hk))))))))
theorem zin_11_X7_init_g3 (Ln : Nat) (xs : Nat → Int32) {r : zRs} (hk : zEv 45 55 17 422 [some (.ref 1), some (.ref 2), some (.ref 11)] [.ref 18, .ref 18, .ref 1] (19, ziC18, (ziL11 Ln), ziF24, ziI23, (ziA10 xs)) r) : zEv 45 25 9 260 [some (.ref 1), some (.ref 2), some (.int 3)] [.ref 9, .int 3, .ref 2] (11, ziC10, (ziL5 Ln), ziF13, ziI17, (ziA4 xs)) r := (zin_11_X7_init_p16 Ln xs (zin_11_X7_init_p17 Ln xs (zin_11_X7_init_p18 Ln xs (zin_11_X7_init_p19 Ln xs (zin_11_X7_init_p20 Ln xs (zin_11_X7_init_p21 Ln xs (zin_11_X7_init_p22 Ln xs (zin_11_X7_init_p23 Ln xs hk))))))))
theorem zin_11_X7_init_g4 (Ln : Nat) (xs : Nat → Int32) {r : zRs} (hk : zEv 45 78 25 464 [some (.ref 1), some (.ref 2), some (.ref 11)] [.ref 11, .ref 26, .ref 26, .ref 1] (27, ziC26, (ziL17 Ln), ziF34, ziI27, (ziA16 xs)) r) : zEv 45 55 17 422 [some (.ref 1), some (.ref 2), some (.ref 11)] [.ref 18, .ref 18, .ref 1] (19, ziC18, (ziL11 Ln), ziF24, ziI23, (ziA10 xs)) r := (zin_11_X7_init_p24 Ln xs (zin_11_X7_init_p25 Ln xs (zin_11_X7_init_p26 Ln xs (zin_11_X7_init_p27 Ln xs (zin_11_X7_init_p28 Ln xs (zin_11_X7_init_p29 Ln xs (zin_11_X7_init_p30 Ln xs (zin_11_X7_init_p31 Ln xs hk))))))))
theorem zin_11_X7_init_g5 (Ln : Nat) (xs : Nat → Int32) {r : zRs} (hk : zEv 45 102 34 740 [some (.ref 1), some (.ref 2), some (.ref 11)] [.ref 11, .ref 35, .ref 35, .ref 1] (36, ziC35, (ziL24 Ln), ziF47, ziI29, (ziA23 xs)) r) : zEv 45 78 25 464 [some (.ref 1), some (.ref 2), some (.ref 11)] [.ref 11, .ref 26, .ref 26, .ref 1] (27, ziC26, (ziL17 Ln), ziF34, ziI27, (ziA16 xs)) r := (zin_11_X7_init_p32 Ln xs (zin_11_X7_init_p33 Ln xs (zin_11_X7_init_p34 Ln xs (zin_11_X7_init_p35 Ln xs (zin_11_X7_init_p36 Ln xs (zin_11_X7_init_p37 Ln xs (zin_11_X7_init_p38 Ln xs (zin_11_X7_init_p39 Ln xs hk))))))))
