/-! every row of the code is as the bytes have it, and is checked: methods 45 to 74 -/
set_option maxRecDepth 40000 in
theorem zr_45 : ((zcode.getD 45 []).all fun ch => ch.all (zrowok 45 (zby 45))) = true := by decide +kernel
set_option maxRecDepth 40000 in
theorem zr_46 : ((zcode.getD 46 []).all fun ch => ch.all (zrowok 46 (zby 46))) = true := by decide +kernel
set_option maxRecDepth 40000 in
theorem zr_47 : ((zcode.getD 47 []).all fun ch => ch.all (zrowok 47 (zby 47))) = true := by decide +kernel
set_option maxRecDepth 40000 in
theorem zr_48 : ((zcode.getD 48 []).all fun ch => ch.all (zrowok 48 (zby 48))) = true := by decide +kernel
set_option maxRecDepth 40000 in
theorem zr_49 : ((zcode.getD 49 []).all fun ch => ch.all (zrowok 49 (zby 49))) = true := by decide +kernel
set_option maxRecDepth 40000 in
theorem zr_50 : ((zcode.getD 50 []).all fun ch => ch.all (zrowok 50 (zby 50))) = true := by decide +kernel
set_option maxRecDepth 40000 in
theorem zr_51 : ((zcode.getD 51 []).all fun ch => ch.all (zrowok 51 (zby 51))) = true := by decide +kernel
set_option maxRecDepth 40000 in
theorem zr_52 : ((zcode.getD 52 []).all fun ch => ch.all (zrowok 52 (zby 52))) = true := by decide +kernel
set_option maxRecDepth 40000 in
theorem zr_53 : ((zcode.getD 53 []).all fun ch => ch.all (zrowok 53 (zby 53))) = true := by decide +kernel
set_option maxRecDepth 40000 in
theorem zr_54 : ((zcode.getD 54 []).all fun ch => ch.all (zrowok 54 (zby 54))) = true := by decide +kernel
set_option maxRecDepth 40000 in
theorem zr_55 : ((zcode.getD 55 []).all fun ch => ch.all (zrowok 55 (zby 55))) = true := by decide +kernel
set_option maxRecDepth 40000 in
theorem zr_56 : ((zcode.getD 56 []).all fun ch => ch.all (zrowok 56 (zby 56))) = true := by decide +kernel
set_option maxRecDepth 40000 in
theorem zr_57 : ((zcode.getD 57 []).all fun ch => ch.all (zrowok 57 (zby 57))) = true := by decide +kernel
set_option maxRecDepth 40000 in
theorem zr_58 : ((zcode.getD 58 []).all fun ch => ch.all (zrowok 58 (zby 58))) = true := by decide +kernel
set_option maxRecDepth 40000 in
theorem zr_59 : ((zcode.getD 59 []).all fun ch => ch.all (zrowok 59 (zby 59))) = true := by decide +kernel
set_option maxRecDepth 40000 in
theorem zr_60 : ((zcode.getD 60 []).all fun ch => ch.all (zrowok 60 (zby 60))) = true := by decide +kernel
set_option maxRecDepth 40000 in
theorem zr_61 : ((zcode.getD 61 []).all fun ch => ch.all (zrowok 61 (zby 61))) = true := by decide +kernel
set_option maxRecDepth 40000 in
theorem zr_62 : ((zcode.getD 62 []).all fun ch => ch.all (zrowok 62 (zby 62))) = true := by decide +kernel
set_option maxRecDepth 40000 in
theorem zr_63 : ((zcode.getD 63 []).all fun ch => ch.all (zrowok 63 (zby 63))) = true := by decide +kernel
set_option maxRecDepth 40000 in
theorem zr_64 : ((zcode.getD 64 []).all fun ch => ch.all (zrowok 64 (zby 64))) = true := by decide +kernel
set_option maxRecDepth 40000 in
theorem zr_65 : ((zcode.getD 65 []).all fun ch => ch.all (zrowok 65 (zby 65))) = true := by decide +kernel
set_option maxRecDepth 40000 in
theorem zr_66 : ((zcode.getD 66 []).all fun ch => ch.all (zrowok 66 (zby 66))) = true := by decide +kernel
set_option maxRecDepth 40000 in
theorem zr_67 : ((zcode.getD 67 []).all fun ch => ch.all (zrowok 67 (zby 67))) = true := by decide +kernel
set_option maxRecDepth 40000 in
theorem zr_68 : ((zcode.getD 68 []).all fun ch => ch.all (zrowok 68 (zby 68))) = true := by decide +kernel
set_option maxRecDepth 40000 in
theorem zr_69 : ((zcode.getD 69 []).all fun ch => ch.all (zrowok 69 (zby 69))) = true := by decide +kernel
set_option maxRecDepth 40000 in
theorem zr_70 : ((zcode.getD 70 []).all fun ch => ch.all (zrowok 70 (zby 70))) = true := by decide +kernel
set_option maxRecDepth 40000 in
theorem zr_71 : ((zcode.getD 71 []).all fun ch => ch.all (zrowok 71 (zby 71))) = true := by decide +kernel
set_option maxRecDepth 40000 in
theorem zr_72 : ((zcode.getD 72 []).all fun ch => ch.all (zrowok 72 (zby 72))) = true := by decide +kernel
set_option maxRecDepth 40000 in
theorem zr_73 : ((zcode.getD 73 []).all fun ch => ch.all (zrowok 73 (zby 73))) = true := by decide +kernel
set_option maxRecDepth 40000 in
theorem zr_74 : ((zcode.getD 74 []).all fun ch => ch.all (zrowok 74 (zby 74))) = true := by decide +kernel
