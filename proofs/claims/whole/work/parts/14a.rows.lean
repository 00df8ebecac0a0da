/-! every row of the code is as the bytes have it, and is checked: methods 0 to 44 -/
set_option maxRecDepth 40000 in
theorem zr_0 : ((zcode.getD 0 []).all fun ch => ch.all (zrowok 0 (zby 0))) = true := by decide +kernel
set_option maxRecDepth 40000 in
theorem zr_1 : ((zcode.getD 1 []).all fun ch => ch.all (zrowok 1 (zby 1))) = true := by decide +kernel
set_option maxRecDepth 40000 in
theorem zr_2 : ((zcode.getD 2 []).all fun ch => ch.all (zrowok 2 (zby 2))) = true := by decide +kernel
set_option maxRecDepth 40000 in
theorem zr_3 : ((zcode.getD 3 []).all fun ch => ch.all (zrowok 3 (zby 3))) = true := by decide +kernel
set_option maxRecDepth 40000 in
theorem zr_4 : ((zcode.getD 4 []).all fun ch => ch.all (zrowok 4 (zby 4))) = true := by decide +kernel
set_option maxRecDepth 40000 in
theorem zr_5 : ((zcode.getD 5 []).all fun ch => ch.all (zrowok 5 (zby 5))) = true := by decide +kernel
set_option maxRecDepth 40000 in
theorem zr_6 : ((zcode.getD 6 []).all fun ch => ch.all (zrowok 6 (zby 6))) = true := by decide +kernel
set_option maxRecDepth 40000 in
theorem zr_7 : ((zcode.getD 7 []).all fun ch => ch.all (zrowok 7 (zby 7))) = true := by decide +kernel
set_option maxRecDepth 40000 in
theorem zr_8 : ((zcode.getD 8 []).all fun ch => ch.all (zrowok 8 (zby 8))) = true := by decide +kernel
set_option maxRecDepth 40000 in
theorem zr_9 : ((zcode.getD 9 []).all fun ch => ch.all (zrowok 9 (zby 9))) = true := by decide +kernel
set_option maxRecDepth 40000 in
theorem zr_10 : ((zcode.getD 10 []).all fun ch => ch.all (zrowok 10 (zby 10))) = true := by decide +kernel
set_option maxRecDepth 40000 in
theorem zr_11 : ((zcode.getD 11 []).all fun ch => ch.all (zrowok 11 (zby 11))) = true := by decide +kernel
set_option maxRecDepth 40000 in
theorem zr_12 : ((zcode.getD 12 []).all fun ch => ch.all (zrowok 12 (zby 12))) = true := by decide +kernel
set_option maxRecDepth 40000 in
theorem zr_13 : ((zcode.getD 13 []).all fun ch => ch.all (zrowok 13 (zby 13))) = true := by decide +kernel
set_option maxRecDepth 40000 in
theorem zr_14 : ((zcode.getD 14 []).all fun ch => ch.all (zrowok 14 (zby 14))) = true := by decide +kernel
set_option maxRecDepth 40000 in
theorem zr_15 : ((zcode.getD 15 []).all fun ch => ch.all (zrowok 15 (zby 15))) = true := by decide +kernel
set_option maxRecDepth 40000 in
theorem zr_16 : ((zcode.getD 16 []).all fun ch => ch.all (zrowok 16 (zby 16))) = true := by decide +kernel
set_option maxRecDepth 40000 in
theorem zr_17 : ((zcode.getD 17 []).all fun ch => ch.all (zrowok 17 (zby 17))) = true := by decide +kernel
set_option maxRecDepth 40000 in
theorem zr_18 : ((zcode.getD 18 []).all fun ch => ch.all (zrowok 18 (zby 18))) = true := by decide +kernel
set_option maxRecDepth 40000 in
theorem zr_19 : ((zcode.getD 19 []).all fun ch => ch.all (zrowok 19 (zby 19))) = true := by decide +kernel
set_option maxRecDepth 40000 in
theorem zr_20 : ((zcode.getD 20 []).all fun ch => ch.all (zrowok 20 (zby 20))) = true := by decide +kernel
set_option maxRecDepth 40000 in
theorem zr_21 : ((zcode.getD 21 []).all fun ch => ch.all (zrowok 21 (zby 21))) = true := by decide +kernel
set_option maxRecDepth 40000 in
theorem zr_22 : ((zcode.getD 22 []).all fun ch => ch.all (zrowok 22 (zby 22))) = true := by decide +kernel
set_option maxRecDepth 40000 in
theorem zr_23 : ((zcode.getD 23 []).all fun ch => ch.all (zrowok 23 (zby 23))) = true := by decide +kernel
set_option maxRecDepth 40000 in
theorem zr_24 : ((zcode.getD 24 []).all fun ch => ch.all (zrowok 24 (zby 24))) = true := by decide +kernel
set_option maxRecDepth 40000 in
theorem zr_25 : ((zcode.getD 25 []).all fun ch => ch.all (zrowok 25 (zby 25))) = true := by decide +kernel
set_option maxRecDepth 40000 in
theorem zr_26 : ((zcode.getD 26 []).all fun ch => ch.all (zrowok 26 (zby 26))) = true := by decide +kernel
set_option maxRecDepth 40000 in
theorem zr_27 : ((zcode.getD 27 []).all fun ch => ch.all (zrowok 27 (zby 27))) = true := by decide +kernel
set_option maxRecDepth 40000 in
theorem zr_28 : ((zcode.getD 28 []).all fun ch => ch.all (zrowok 28 (zby 28))) = true := by decide +kernel
set_option maxRecDepth 40000 in
theorem zr_29 : ((zcode.getD 29 []).all fun ch => ch.all (zrowok 29 (zby 29))) = true := by decide +kernel
set_option maxRecDepth 40000 in
theorem zr_30 : ((zcode.getD 30 []).all fun ch => ch.all (zrowok 30 (zby 30))) = true := by decide +kernel
set_option maxRecDepth 40000 in
theorem zr_31 : ((zcode.getD 31 []).all fun ch => ch.all (zrowok 31 (zby 31))) = true := by decide +kernel
set_option maxRecDepth 40000 in
theorem zr_32 : ((zcode.getD 32 []).all fun ch => ch.all (zrowok 32 (zby 32))) = true := by decide +kernel
set_option maxRecDepth 40000 in
theorem zr_33 : ((zcode.getD 33 []).all fun ch => ch.all (zrowok 33 (zby 33))) = true := by decide +kernel
set_option maxRecDepth 40000 in
theorem zr_34 : ((zcode.getD 34 []).all fun ch => ch.all (zrowok 34 (zby 34))) = true := by decide +kernel
set_option maxRecDepth 40000 in
theorem zr_35 : ((zcode.getD 35 []).all fun ch => ch.all (zrowok 35 (zby 35))) = true := by decide +kernel
set_option maxRecDepth 40000 in
theorem zr_36 : ((zcode.getD 36 []).all fun ch => ch.all (zrowok 36 (zby 36))) = true := by decide +kernel
set_option maxRecDepth 40000 in
theorem zr_37 : ((zcode.getD 37 []).all fun ch => ch.all (zrowok 37 (zby 37))) = true := by decide +kernel
set_option maxRecDepth 40000 in
theorem zr_38 : ((zcode.getD 38 []).all fun ch => ch.all (zrowok 38 (zby 38))) = true := by decide +kernel
set_option maxRecDepth 40000 in
theorem zr_39 : ((zcode.getD 39 []).all fun ch => ch.all (zrowok 39 (zby 39))) = true := by decide +kernel
set_option maxRecDepth 40000 in
theorem zr_40 : ((zcode.getD 40 []).all fun ch => ch.all (zrowok 40 (zby 40))) = true := by decide +kernel
set_option maxRecDepth 40000 in
theorem zr_41 : ((zcode.getD 41 []).all fun ch => ch.all (zrowok 41 (zby 41))) = true := by decide +kernel
set_option maxRecDepth 40000 in
theorem zr_42 : ((zcode.getD 42 []).all fun ch => ch.all (zrowok 42 (zby 42))) = true := by decide +kernel
set_option maxRecDepth 40000 in
theorem zr_43 : ((zcode.getD 43 []).all fun ch => ch.all (zrowok 43 (zby 43))) = true := by decide +kernel
set_option maxRecDepth 40000 in
theorem zr_44 : ((zcode.getD 44 []).all fun ch => ch.all (zrowok 44 (zby 44))) = true := by decide +kernel
