/-! every row of the code is as the bytes have it, and is checked: methods 75 to 92 -/
set_option maxRecDepth 40000 in
theorem zr_75 : ((zcode.getD 75 []).all fun ch => ch.all (zrowok 75 (zby 75))) = true := by decide +kernel
set_option maxRecDepth 40000 in
theorem zr_76 : ((zcode.getD 76 []).all fun ch => ch.all (zrowok 76 (zby 76))) = true := by decide +kernel
set_option maxRecDepth 40000 in
theorem zr_77 : ((zcode.getD 77 []).all fun ch => ch.all (zrowok 77 (zby 77))) = true := by decide +kernel
set_option maxRecDepth 40000 in
theorem zr_78 : ((zcode.getD 78 []).all fun ch => ch.all (zrowok 78 (zby 78))) = true := by decide +kernel
set_option maxRecDepth 40000 in
theorem zr_79 : ((zcode.getD 79 []).all fun ch => ch.all (zrowok 79 (zby 79))) = true := by decide +kernel
set_option maxRecDepth 40000 in
theorem zr_80 : ((zcode.getD 80 []).all fun ch => ch.all (zrowok 80 (zby 80))) = true := by decide +kernel
set_option maxRecDepth 40000 in
theorem zr_81 : ((zcode.getD 81 []).all fun ch => ch.all (zrowok 81 (zby 81))) = true := by decide +kernel
set_option maxRecDepth 40000 in
theorem zr_82 : ((zcode.getD 82 []).all fun ch => ch.all (zrowok 82 (zby 82))) = true := by decide +kernel
set_option maxRecDepth 40000 in
theorem zr_83 : ((zcode.getD 83 []).all fun ch => ch.all (zrowok 83 (zby 83))) = true := by decide +kernel
set_option maxRecDepth 40000 in
theorem zr_84 : ((zcode.getD 84 []).all fun ch => ch.all (zrowok 84 (zby 84))) = true := by decide +kernel
set_option maxRecDepth 40000 in
theorem zr_85 : ((zcode.getD 85 []).all fun ch => ch.all (zrowok 85 (zby 85))) = true := by decide +kernel
set_option maxRecDepth 40000 in
theorem zr_86 : ((zcode.getD 86 []).all fun ch => ch.all (zrowok 86 (zby 86))) = true := by decide +kernel
set_option maxRecDepth 40000 in
theorem zr_87 : ((zcode.getD 87 []).all fun ch => ch.all (zrowok 87 (zby 87))) = true := by decide +kernel
set_option maxRecDepth 40000 in
theorem zr_88 : ((zcode.getD 88 []).all fun ch => ch.all (zrowok 88 (zby 88))) = true := by decide +kernel
set_option maxRecDepth 40000 in
theorem zr_89 : ((zcode.getD 89 []).all fun ch => ch.all (zrowok 89 (zby 89))) = true := by decide +kernel
set_option maxRecDepth 40000 in
theorem zr_90 : ((zcode.getD 90 []).all fun ch => ch.all (zrowok 90 (zby 90))) = true := by decide +kernel
set_option maxRecDepth 40000 in
theorem zr_91 : ((zcode.getD 91 []).all fun ch => ch.all (zrowok 91 (zby 91))) = true := by decide +kernel
set_option maxRecDepth 40000 in
theorem zr_92 : ((zcode.getD 92 []).all fun ch => ch.all (zrowok 92 (zby 92))) = true := by decide +kernel
