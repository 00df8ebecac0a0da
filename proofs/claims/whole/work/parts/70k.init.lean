/-! the law up to its loop, by program (wip/whole/gen_init.py) -/
set_option maxRecDepth 100000 in
theorem zin_12_X8_init_p18 (Ln : Nat) (xs : Nat → Int32) {r : zRs} (hk : zEv 93 81 10 60 [some (.ref 44), none] [.ref 54, .ref 44] (55, ziC54, (ziL42 Ln), ziF67, ziI33, (ziA41 xs)) r) : zEv 93 76 9 54 [some (.ref 44), none] [] (54, ziC53, (ziL41 Ln), ziF67, ziI33, (ziA40 xs)) r :=
  zEv.lift 3 (fun _ => by with_unfolding_all rfl) hk
set_option maxRecDepth 100000 in
theorem zin_12_X8_init_p19 (Ln : Nat) (xs : Nat → Int32) {r : zRs} (hk : zEv 93 84 10 60 [some (.ref 44), none] [] (55, ziC54, (ziL42 Ln), ziF68, ziI33, (ziA41 xs)) r) : zEv 93 81 10 60 [some (.ref 44), none] [.ref 54, .ref 44] (55, ziC54, (ziL42 Ln), ziF67, ziI33, (ziA41 xs)) r :=
  zEv.pfr (c := 7) rfl (by decide +kernel) (by decide) hk
set_option maxRecDepth 100000 in
theorem zin_12_X8_init_p20 (Ln : Nat) (xs : Nat → Int32) {r : zRs} (hk : zEv 93 89 11 66 [some (.ref 44), none] [.ref 55, .ref 44] (56, ziC55, (ziL43 Ln), ziF68, ziI33, (ziA42 xs)) r) : zEv 93 84 10 60 [some (.ref 44), none] [] (55, ziC54, (ziL42 Ln), ziF68, ziI33, (ziA41 xs)) r :=
  zEv.lift 3 (fun _ => by with_unfolding_all rfl) hk
set_option maxRecDepth 100000 in
theorem zin_12_X8_init_p21 (Ln : Nat) (xs : Nat → Int32) {r : zRs} (hk : zEv 93 92 11 66 [some (.ref 44), none] [] (56, ziC55, (ziL43 Ln), ziF69, ziI33, (ziA42 xs)) r) : zEv 93 89 11 66 [some (.ref 44), none] [.ref 55, .ref 44] (56, ziC55, (ziL43 Ln), ziF68, ziI33, (ziA42 xs)) r :=
  zEv.pfr (c := 7) rfl (by decide +kernel) (by decide) hk
set_option maxRecDepth 100000 in
theorem zin_12_X8_init_p22 (Ln : Nat) (xs : Nat → Int32) {r : zRs} (hk : zEv 93 97 12 72 [some (.ref 44), none] [.ref 56, .ref 44] (57, ziC56, (ziL44 Ln), ziF69, ziI33, (ziA43 xs)) r) : zEv 93 92 11 66 [some (.ref 44), none] [] (56, ziC55, (ziL43 Ln), ziF69, ziI33, (ziA42 xs)) r :=
  zEv.lift 3 (fun _ => by with_unfolding_all rfl) hk
set_option maxRecDepth 100000 in
theorem zin_12_X8_init_p23 (Ln : Nat) (xs : Nat → Int32) {r : zRs} (hk : zEv 93 100 12 72 [some (.ref 44), none] [] (57, ziC56, (ziL44 Ln), ziF70, ziI33, (ziA43 xs)) r) : zEv 93 97 12 72 [some (.ref 44), none] [.ref 56, .ref 44] (57, ziC56, (ziL44 Ln), ziF69, ziI33, (ziA43 xs)) r :=
  zEv.pfr (c := 7) rfl (by decide +kernel) (by decide) hk
set_option maxRecDepth 100000 in
theorem zin_12_X8_init_p24 (Ln : Nat) (xs : Nat → Int32) {r : zRs} (hk : zEv 93 105 13 78 [some (.ref 44), none] [.ref 57, .ref 44] (58, ziC57, (ziL45 Ln), ziF70, ziI33, (ziA44 xs)) r) : zEv 93 100 12 72 [some (.ref 44), none] [] (57, ziC56, (ziL44 Ln), ziF70, ziI33, (ziA43 xs)) r :=
  zEv.lift 3 (fun _ => by with_unfolding_all rfl) hk
set_option maxRecDepth 100000 in
theorem zin_12_X8_init_p25 (Ln : Nat) (xs : Nat → Int32) {r : zRs} (hk : zEv 93 108 13 78 [some (.ref 44), none] [] (58, ziC57, (ziL45 Ln), ziF71, ziI33, (ziA44 xs)) r) : zEv 93 105 13 78 [some (.ref 44), none] [.ref 57, .ref 44] (58, ziC57, (ziL45 Ln), ziF70, ziI33, (ziA44 xs)) r :=
  zEv.pfr (c := 7) rfl (by decide +kernel) (by decide) hk
set_option maxRecDepth 100000 in
theorem zin_12_X8_init_p26 (Ln : Nat) (xs : Nat → Int32) {r : zRs} (hk : zEv 93 113 14 84 [some (.ref 44), none] [.ref 58, .ref 44] (59, ziC58, (ziL46 Ln), ziF71, ziI33, (ziA45 xs)) r) : zEv 93 108 13 78 [some (.ref 44), none] [] (58, ziC57, (ziL45 Ln), ziF71, ziI33, (ziA44 xs)) r :=
  zEv.lift 3 (fun _ => by with_unfolding_all rfl) hk
set_option maxRecDepth 100000 in
theorem zin_12_X8_init_p27 (Ln : Nat) (xs : Nat → Int32) {r : zRs} (hk : zEv 93 116 14 84 [some (.ref 44), none] [] (59, ziC58, (ziL46 Ln), ziF72, ziI33, (ziA45 xs)) r) : zEv 93 113 14 84 [some (.ref 44), none] [.ref 58, .ref 44] (59, ziC58, (ziL46 Ln), ziF71, ziI33, (ziA45 xs)) r :=
  zEv.pfr (c := 7) rfl (by decide +kernel) (by decide) hk
set_option maxRecDepth 100000 in
theorem zin_12_X8_init_p28 (Ln : Nat) (xs : Nat → Int32) {r : zRs} (hk : zEv 93 121 15 148 [some (.ref 44), none] [.ref 59, .ref 44] (60, ziC59, (ziL47 Ln), ziF72, ziI33, (ziA46 xs)) r) : zEv 93 116 14 84 [some (.ref 44), none] [] (59, ziC58, (ziL46 Ln), ziF72, ziI33, (ziA45 xs)) r :=
  zEv.lift 3 (fun _ => by with_unfolding_all rfl) hk
set_option maxRecDepth 100000 in
theorem zin_12_X8_init_p29 (Ln : Nat) (xs : Nat → Int32) {r : zRs} (hk : zEv 93 124 15 148 [some (.ref 44), none] [] (60, ziC59, (ziL47 Ln), ziF73, ziI33, (ziA46 xs)) r) : zEv 93 121 15 148 [some (.ref 44), none] [.ref 59, .ref 44] (60, ziC59, (ziL47 Ln), ziF72, ziI33, (ziA46 xs)) r :=
  zEv.pfr (c := 7) rfl (by decide +kernel) (by decide) hk
set_option maxRecDepth 100000 in
theorem zin_12_X8_init_p30 (Ln : Nat) (xs : Nat → Int32) {r : zRs} (hk : zEv 93 129 16 212 [some (.ref 44), none] [.ref 60, .ref 44] (61, ziC60, (ziL48 Ln), ziF73, ziI33, (ziA47 xs)) r) : zEv 93 124 15 148 [some (.ref 44), none] [] (60, ziC59, (ziL47 Ln), ziF73, ziI33, (ziA46 xs)) r :=
  zEv.lift 3 (fun _ => by with_unfolding_all rfl) hk
set_option maxRecDepth 100000 in
theorem zin_12_X8_init_p31 (Ln : Nat) (xs : Nat → Int32) {r : zRs} (hk : zEv 93 132 16 212 [some (.ref 44), none] [] (61, ziC60, (ziL48 Ln), ziF74, ziI33, (ziA47 xs)) r) : zEv 93 129 16 212 [some (.ref 44), none] [.ref 60, .ref 44] (61, ziC60, (ziL48 Ln), ziF73, ziI33, (ziA47 xs)) r :=
  zEv.pfr (c := 7) rfl (by decide +kernel) (by decide) hk
set_option maxRecDepth 100000 in
theorem zin_12_X8_init_p32 (Ln : Nat) (xs : Nat → Int32) {r : zRs} (hk : zEv 93 137 17 276 [some (.ref 44), none] [.ref 61, .ref 44] (62, ziC61, (ziL49 Ln), ziF74, ziI33, (ziA48 xs)) r) : zEv 93 132 16 212 [some (.ref 44), none] [] (61, ziC60, (ziL48 Ln), ziF74, ziI33, (ziA47 xs)) r :=
  zEv.lift 3 (fun _ => by with_unfolding_all rfl) hk
set_option maxRecDepth 100000 in
theorem zin_12_X8_init_p33 (Ln : Nat) (xs : Nat → Int32) {r : zRs} (hk : zEv 93 140 17 276 [some (.ref 44), none] [] (62, ziC61, (ziL49 Ln), ziF75, ziI33, (ziA48 xs)) r) : zEv 93 137 17 276 [some (.ref 44), none] [.ref 61, .ref 44] (62, ziC61, (ziL49 Ln), ziF74, ziI33, (ziA48 xs)) r :=
  zEv.pfr (c := 7) rfl (by decide +kernel) (by decide) hk
set_option maxRecDepth 100000 in
theorem zin_12_X8_init_p34 (Ln : Nat) (xs : Nat → Int32) {r : zRs} (hk : zEv 93 145 18 282 [some (.ref 44), none] [.ref 62, .ref 44] (63, ziC62, (ziL50 Ln), ziF75, ziI33, (ziA49 xs)) r) : zEv 93 140 17 276 [some (.ref 44), none] [] (62, ziC61, (ziL49 Ln), ziF75, ziI33, (ziA48 xs)) r :=
  zEv.lift 3 (fun _ => by with_unfolding_all rfl) hk
set_option maxRecDepth 100000 in
theorem zin_12_X8_init_p35 (Ln : Nat) (xs : Nat → Int32) {r : zRs} (hk : zEv 93 148 18 282 [some (.ref 44), none] [] (63, ziC62, (ziL50 Ln), ziF76, ziI33, (ziA49 xs)) r) : zEv 93 145 18 282 [some (.ref 44), none] [.ref 62, .ref 44] (63, ziC62, (ziL50 Ln), ziF75, ziI33, (ziA49 xs)) r :=
  zEv.pfr (c := 7) rfl (by decide +kernel) (by decide) hk
set_option maxRecDepth 100000 in
theorem zin_12_X8_init_p36 (Ln : Nat) (xs : Nat → Int32) {r : zRs} (hk : zEv 93 153 19 288 [some (.ref 44), none] [.ref 63, .ref 44] (64, ziC63, (ziL51 Ln), ziF76, ziI33, (ziA50 xs)) r) : zEv 93 148 18 282 [some (.ref 44), none] [] (63, ziC62, (ziL50 Ln), ziF76, ziI33, (ziA49 xs)) r :=
  zEv.lift 3 (fun _ => by with_unfolding_all rfl) hk
set_option maxRecDepth 100000 in
theorem zin_12_X8_init_p37 (Ln : Nat) (xs : Nat → Int32) {r : zRs} (hk : zEv 93 156 19 288 [some (.ref 44), none] [] (64, ziC63, (ziL51 Ln), ziF77, ziI33, (ziA50 xs)) r) : zEv 93 153 19 288 [some (.ref 44), none] [.ref 63, .ref 44] (64, ziC63, (ziL51 Ln), ziF76, ziI33, (ziA50 xs)) r :=
  zEv.pfr (c := 7) rfl (by decide +kernel) (by decide) hk
