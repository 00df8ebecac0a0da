/-! the law up to its loop, by program (wip/whole/gen_init.py) -/
set_option maxRecDepth 100000 in
theorem zin_11_X7_init_p15 (Ln : Nat) (xs : Nat → Int32) {r : zRs} (hk : zEv 45 25 9 260 [some (.ref 1), some (.ref 2), some (.int 3)] [.ref 9, .int 3, .ref 2] (11, ziC10, (ziL5 Ln), ziF13, ziI17, (ziA4 xs)) r) : zEv 45 22 8 200 [some (.ref 1), some (.ref 2), some (.int 3)] [.ref 9, .ref 9, .int 3, .ref 2] (10, ziC9, (ziL4 Ln), ziF12, ziI14, (ziA3 xs)) r :=
  zEv.call (as := [.ref 9]) (q := (none, (11, ziC10, (ziL5 Ln), ziF13, ziI17, (ziA4 xs)))) rfl (fun _ => rfl) (Nat.le_of_ble_eq_true rfl) (zin_4_X4_init Ln xs) hk
set_option maxRecDepth 100000 in
theorem zin_11_X7_init_p16 (Ln : Nat) (xs : Nat → Int32) {r : zRs} (hk : zEv 45 26 9 260 [some (.ref 1), some (.ref 2), some (.int 3)] [] (11, ziC10, (ziL5 Ln), ziF14, ziI17, (ziA4 xs)) r) : zEv 45 25 9 260 [some (.ref 1), some (.ref 2), some (.int 3)] [.ref 9, .int 3, .ref 2] (11, ziC10, (ziL5 Ln), ziF13, ziI17, (ziA4 xs)) r :=
  zEv.lift 1 (fun _ => by with_unfolding_all rfl) hk
set_option maxRecDepth 100000 in
theorem zin_11_X7_init_p17 (Ln : Nat) (xs : Nat → Int32) {r : zRs} (hk : zEv 45 35 10 270 [some (.ref 1), some (.ref 2), some (.int 4)] [.ref 11] (12, ziC11, (ziL5 Ln), ziF15, ziI18, (ziA4 xs)) r) : zEv 45 26 9 260 [some (.ref 1), some (.ref 2), some (.int 3)] [] (11, ziC10, (ziL5 Ln), ziF14, ziI17, (ziA4 xs)) r :=
  zEv.lift 6 (fun _ => by with_unfolding_all rfl) hk
set_option maxRecDepth 100000 in
theorem zin_11_X7_init_p18 (Ln : Nat) (xs : Nat → Int32) {r : zRs} (hk : zEv 45 36 10 270 [some (.ref 1), some (.ref 2), some (.int 4)] [.ref 11, .ref 11] (12, ziC11, (ziL5 Ln), ziF15, ziI18, (ziA4 xs)) r) : zEv 45 35 10 270 [some (.ref 1), some (.ref 2), some (.int 4)] [.ref 11] (12, ziC11, (ziL5 Ln), ziF15, ziI18, (ziA4 xs)) r :=
  zEv.lift 1 (fun _ => by with_unfolding_all rfl) hk
set_option maxRecDepth 100000 in
theorem zin_11_X7_init_p19 (Ln : Nat) (xs : Nat → Int32) {r : zRs} (hk : zEv 45 39 16 418 [some (.ref 1), some (.ref 2), some (.int 4)] [.ref 11] (18, ziC17, (ziL11 Ln), ziF21, ziI22, (ziA10 xs)) r) : zEv 45 36 10 270 [some (.ref 1), some (.ref 2), some (.int 4)] [.ref 11, .ref 11] (12, ziC11, (ziL5 Ln), ziF15, ziI18, (ziA4 xs)) r :=
  zEv.call (as := [.ref 11]) (q := (none, (18, ziC17, (ziL11 Ln), ziF21, ziI22, (ziA10 xs)))) rfl (fun _ => rfl) (Nat.le_of_ble_eq_true rfl) (zin_5_X0_init Ln xs) hk
set_option maxRecDepth 100000 in
theorem zin_11_X7_init_p20 (Ln : Nat) (xs : Nat → Int32) {r : zRs} (hk : zEv 45 45 16 418 [some (.ref 1), some (.ref 2), some (.ref 11)] [] (18, ziC17, (ziL11 Ln), ziF22, ziI22, (ziA10 xs)) r) : zEv 45 39 16 418 [some (.ref 1), some (.ref 2), some (.int 4)] [.ref 11] (18, ziC17, (ziL11 Ln), ziF21, ziI22, (ziA10 xs)) r :=
  zEv.lift 4 (fun _ => by with_unfolding_all rfl) hk
set_option maxRecDepth 100000 in
theorem zin_11_X7_init_p21 (Ln : Nat) (xs : Nat → Int32) {r : zRs} (hk : zEv 45 50 16 418 [some (.ref 1), some (.ref 2), some (.ref 11)] [] (18, ziC17, (ziL11 Ln), ziF23, ziI22, (ziA10 xs)) r) : zEv 45 45 16 418 [some (.ref 1), some (.ref 2), some (.ref 11)] [] (18, ziC17, (ziL11 Ln), ziF22, ziI22, (ziA10 xs)) r :=
  zEv.lift 3 (fun _ => by with_unfolding_all rfl) hk
set_option maxRecDepth 100000 in
theorem zin_11_X7_init_p22 (Ln : Nat) (xs : Nat → Int32) {r : zRs} (hk : zEv 45 54 17 422 [some (.ref 1), some (.ref 2), some (.ref 11)] [.ref 18, .ref 1] (19, ziC18, (ziL11 Ln), ziF24, ziI23, (ziA10 xs)) r) : zEv 45 50 16 418 [some (.ref 1), some (.ref 2), some (.ref 11)] [] (18, ziC17, (ziL11 Ln), ziF23, ziI22, (ziA10 xs)) r :=
  zEv.lift 2 (fun _ => by with_unfolding_all rfl) hk
set_option maxRecDepth 100000 in
theorem zin_11_X7_init_p23 (Ln : Nat) (xs : Nat → Int32) {r : zRs} (hk : zEv 45 55 17 422 [some (.ref 1), some (.ref 2), some (.ref 11)] [.ref 18, .ref 18, .ref 1] (19, ziC18, (ziL11 Ln), ziF24, ziI23, (ziA10 xs)) r) : zEv 45 54 17 422 [some (.ref 1), some (.ref 2), some (.ref 11)] [.ref 18, .ref 1] (19, ziC18, (ziL11 Ln), ziF24, ziI23, (ziA10 xs)) r :=
  zEv.lift 1 (fun _ => by with_unfolding_all rfl) hk
set_option maxRecDepth 100000 in
theorem zin_11_X7_init_p24 (Ln : Nat) (xs : Nat → Int32) {r : zRs} (hk : zEv 45 58 20 440 [some (.ref 1), some (.ref 2), some (.ref 11)] [.ref 18, .ref 1] (22, ziC21, (ziL14 Ln), ziF27, ziI24, (ziA13 xs)) r) : zEv 45 55 17 422 [some (.ref 1), some (.ref 2), some (.ref 11)] [.ref 18, .ref 18, .ref 1] (19, ziC18, (ziL11 Ln), ziF24, ziI23, (ziA10 xs)) r :=
  zEv.call (as := [.ref 18]) (q := (none, (22, ziC21, (ziL14 Ln), ziF27, ziI24, (ziA13 xs)))) rfl (fun _ => rfl) (Nat.le_of_ble_eq_true rfl) (zin_6_X2_init Ln xs) hk
set_option maxRecDepth 100000 in
theorem zin_11_X7_init_p25 (Ln : Nat) (xs : Nat → Int32) {r : zRs} (hk : zEv 45 61 20 440 [some (.ref 1), some (.ref 2), some (.ref 11)] [] (22, ziC21, (ziL14 Ln), ziF28, ziI24, (ziA13 xs)) r) : zEv 45 58 20 440 [some (.ref 1), some (.ref 2), some (.ref 11)] [.ref 18, .ref 1] (22, ziC21, (ziL14 Ln), ziF27, ziI24, (ziA13 xs)) r :=
  zEv.lift 1 (fun _ => by with_unfolding_all rfl) hk
set_option maxRecDepth 100000 in
theorem zin_11_X7_init_p26 (Ln : Nat) (xs : Nat → Int32) {r : zRs} (hk : zEv 45 65 21 444 [some (.ref 1), some (.ref 2), some (.ref 11)] [.ref 22, .ref 1] (23, ziC22, (ziL14 Ln), ziF29, ziI25, (ziA13 xs)) r) : zEv 45 61 20 440 [some (.ref 1), some (.ref 2), some (.ref 11)] [] (22, ziC21, (ziL14 Ln), ziF28, ziI24, (ziA13 xs)) r :=
  zEv.lift 2 (fun _ => by with_unfolding_all rfl) hk
set_option maxRecDepth 100000 in
theorem zin_11_X7_init_p27 (Ln : Nat) (xs : Nat → Int32) {r : zRs} (hk : zEv 45 66 21 444 [some (.ref 1), some (.ref 2), some (.ref 11)] [.ref 22, .ref 22, .ref 1] (23, ziC22, (ziL14 Ln), ziF29, ziI25, (ziA13 xs)) r) : zEv 45 65 21 444 [some (.ref 1), some (.ref 2), some (.ref 11)] [.ref 22, .ref 1] (23, ziC22, (ziL14 Ln), ziF29, ziI25, (ziA13 xs)) r :=
  zEv.lift 1 (fun _ => by with_unfolding_all rfl) hk
set_option maxRecDepth 100000 in
theorem zin_11_X7_init_p28 (Ln : Nat) (xs : Nat → Int32) {r : zRs} (hk : zEv 45 69 24 462 [some (.ref 1), some (.ref 2), some (.ref 11)] [.ref 22, .ref 1] (26, ziC25, (ziL17 Ln), ziF32, ziI26, (ziA16 xs)) r) : zEv 45 66 21 444 [some (.ref 1), some (.ref 2), some (.ref 11)] [.ref 22, .ref 22, .ref 1] (23, ziC22, (ziL14 Ln), ziF29, ziI25, (ziA13 xs)) r :=
  zEv.call (as := [.ref 22]) (q := (none, (26, ziC25, (ziL17 Ln), ziF32, ziI26, (ziA16 xs)))) rfl (fun _ => rfl) (Nat.le_of_ble_eq_true rfl) (zin_7_X3_init Ln xs) hk
set_option maxRecDepth 100000 in
theorem zin_11_X7_init_p29 (Ln : Nat) (xs : Nat → Int32) {r : zRs} (hk : zEv 45 72 24 462 [some (.ref 1), some (.ref 2), some (.ref 11)] [] (26, ziC25, (ziL17 Ln), ziF33, ziI26, (ziA16 xs)) r) : zEv 45 69 24 462 [some (.ref 1), some (.ref 2), some (.ref 11)] [.ref 22, .ref 1] (26, ziC25, (ziL17 Ln), ziF32, ziI26, (ziA16 xs)) r :=
  zEv.lift 1 (fun _ => by with_unfolding_all rfl) hk
set_option maxRecDepth 100000 in
theorem zin_11_X7_init_p30 (Ln : Nat) (xs : Nat → Int32) {r : zRs} (hk : zEv 45 76 25 464 [some (.ref 1), some (.ref 2), some (.ref 11)] [.ref 26, .ref 1] (27, ziC26, (ziL17 Ln), ziF34, ziI27, (ziA16 xs)) r) : zEv 45 72 24 462 [some (.ref 1), some (.ref 2), some (.ref 11)] [] (26, ziC25, (ziL17 Ln), ziF33, ziI26, (ziA16 xs)) r :=
  zEv.lift 2 (fun _ => by with_unfolding_all rfl) hk
set_option maxRecDepth 100000 in
theorem zin_11_X7_init_p31 (Ln : Nat) (xs : Nat → Int32) {r : zRs} (hk : zEv 45 78 25 464 [some (.ref 1), some (.ref 2), some (.ref 11)] [.ref 11, .ref 26, .ref 26, .ref 1] (27, ziC26, (ziL17 Ln), ziF34, ziI27, (ziA16 xs)) r) : zEv 45 76 25 464 [some (.ref 1), some (.ref 2), some (.ref 11)] [.ref 26, .ref 1] (27, ziC26, (ziL17 Ln), ziF34, ziI27, (ziA16 xs)) r :=
  zEv.lift 2 (fun _ => by with_unfolding_all rfl) hk
set_option maxRecDepth 100000 in
theorem zin_11_X7_init_p32 (Ln : Nat) (xs : Nat → Int32) {r : zRs} (hk : zEv 45 81 26 528 [some (.ref 1), some (.ref 2), some (.ref 11)] [.ref 26, .ref 1] (28, ziC27, (ziL18 Ln), ziF36, ziI27, (ziA17 xs)) r) : zEv 45 78 25 464 [some (.ref 1), some (.ref 2), some (.ref 11)] [.ref 11, .ref 26, .ref 26, .ref 1] (27, ziC26, (ziL17 Ln), ziF34, ziI27, (ziA16 xs)) r :=
  zEv.call (as := [.ref 26, .ref 11]) (q := (none, (28, ziC27, (ziL18 Ln), ziF36, ziI27, (ziA17 xs)))) rfl (fun _ => rfl) (Nat.le_of_ble_eq_true rfl) (zin_8_X1_init Ln xs) hk
set_option maxRecDepth 100000 in
theorem zin_11_X7_init_p33 (Ln : Nat) (xs : Nat → Int32) {r : zRs} (hk : zEv 45 84 26 528 [some (.ref 1), some (.ref 2), some (.ref 11)] [] (28, ziC27, (ziL18 Ln), ziF37, ziI27, (ziA17 xs)) r) : zEv 45 81 26 528 [some (.ref 1), some (.ref 2), some (.ref 11)] [.ref 26, .ref 1] (28, ziC27, (ziL18 Ln), ziF36, ziI27, (ziA17 xs)) r :=
  zEv.lift 1 (fun _ => by with_unfolding_all rfl) hk
set_option maxRecDepth 100000 in
theorem zin_11_X7_init_p34 (Ln : Nat) (xs : Nat → Int32) {r : zRs} (hk : zEv 45 88 27 535 [some (.ref 1), some (.ref 2), some (.ref 11)] [.ref 28, .ref 1] (29, ziC28, (ziL18 Ln), ziF38, ziI28, (ziA17 xs)) r) : zEv 45 84 26 528 [some (.ref 1), some (.ref 2), some (.ref 11)] [] (28, ziC27, (ziL18 Ln), ziF37, ziI27, (ziA17 xs)) r :=
  zEv.lift 2 (fun _ => by with_unfolding_all rfl) hk
