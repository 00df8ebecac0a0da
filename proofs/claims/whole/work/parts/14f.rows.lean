/-! every row of the code is as the bytes have it, and is checked: methods 135 to 163 -/
set_option maxRecDepth 40000 in
theorem zr_135 : ((zcode.getD 135 []).all fun ch => ch.all (zrowok 135 (zby 135))) = true := by decide +kernel
set_option maxRecDepth 40000 in
theorem zr_136 : ((zcode.getD 136 []).all fun ch => ch.all (zrowok 136 (zby 136))) = true := by decide +kernel
set_option maxRecDepth 40000 in
theorem zr_137 : ((zcode.getD 137 []).all fun ch => ch.all (zrowok 137 (zby 137))) = true := by decide +kernel
set_option maxRecDepth 40000 in
theorem zr_138 : ((zcode.getD 138 []).all fun ch => ch.all (zrowok 138 (zby 138))) = true := by decide +kernel
set_option maxRecDepth 40000 in
theorem zr_139 : ((zcode.getD 139 []).all fun ch => ch.all (zrowok 139 (zby 139))) = true := by decide +kernel
set_option maxRecDepth 40000 in
theorem zr_140 : ((zcode.getD 140 []).all fun ch => ch.all (zrowok 140 (zby 140))) = true := by decide +kernel
set_option maxRecDepth 40000 in
theorem zr_141 : ((zcode.getD 141 []).all fun ch => ch.all (zrowok 141 (zby 141))) = true := by decide +kernel
set_option maxRecDepth 40000 in
theorem zr_142 : ((zcode.getD 142 []).all fun ch => ch.all (zrowok 142 (zby 142))) = true := by decide +kernel
set_option maxRecDepth 40000 in
theorem zr_143 : ((zcode.getD 143 []).all fun ch => ch.all (zrowok 143 (zby 143))) = true := by decide +kernel
set_option maxRecDepth 40000 in
theorem zr_144 : ((zcode.getD 144 []).all fun ch => ch.all (zrowok 144 (zby 144))) = true := by decide +kernel
set_option maxRecDepth 40000 in
theorem zr_145 : ((zcode.getD 145 []).all fun ch => ch.all (zrowok 145 (zby 145))) = true := by decide +kernel
set_option maxRecDepth 40000 in
theorem zr_146 : ((zcode.getD 146 []).all fun ch => ch.all (zrowok 146 (zby 146))) = true := by decide +kernel
set_option maxRecDepth 40000 in
theorem zr_147 : ((zcode.getD 147 []).all fun ch => ch.all (zrowok 147 (zby 147))) = true := by decide +kernel
set_option maxRecDepth 40000 in
theorem zr_148 : ((zcode.getD 148 []).all fun ch => ch.all (zrowok 148 (zby 148))) = true := by decide +kernel
set_option maxRecDepth 40000 in
theorem zr_149 : ((zcode.getD 149 []).all fun ch => ch.all (zrowok 149 (zby 149))) = true := by decide +kernel
set_option maxRecDepth 40000 in
theorem zr_150 : ((zcode.getD 150 []).all fun ch => ch.all (zrowok 150 (zby 150))) = true := by decide +kernel
set_option maxRecDepth 40000 in
theorem zr_151 : ((zcode.getD 151 []).all fun ch => ch.all (zrowok 151 (zby 151))) = true := by decide +kernel
set_option maxRecDepth 40000 in
theorem zr_152 : ((zcode.getD 152 []).all fun ch => ch.all (zrowok 152 (zby 152))) = true := by decide +kernel
set_option maxRecDepth 40000 in
theorem zr_153 : ((zcode.getD 153 []).all fun ch => ch.all (zrowok 153 (zby 153))) = true := by decide +kernel
set_option maxRecDepth 40000 in
theorem zr_154 : ((zcode.getD 154 []).all fun ch => ch.all (zrowok 154 (zby 154))) = true := by decide +kernel
set_option maxRecDepth 40000 in
theorem zr_155 : ((zcode.getD 155 []).all fun ch => ch.all (zrowok 155 (zby 155))) = true := by decide +kernel
set_option maxRecDepth 40000 in
theorem zr_156 : ((zcode.getD 156 []).all fun ch => ch.all (zrowok 156 (zby 156))) = true := by decide +kernel
set_option maxRecDepth 40000 in
theorem zr_157 : ((zcode.getD 157 []).all fun ch => ch.all (zrowok 157 (zby 157))) = true := by decide +kernel
set_option maxRecDepth 40000 in
theorem zr_158 : ((zcode.getD 158 []).all fun ch => ch.all (zrowok 158 (zby 158))) = true := by decide +kernel
set_option maxRecDepth 40000 in
theorem zr_159 : ((zcode.getD 159 []).all fun ch => ch.all (zrowok 159 (zby 159))) = true := by decide +kernel
set_option maxRecDepth 40000 in
theorem zr_160 : ((zcode.getD 160 []).all fun ch => ch.all (zrowok 160 (zby 160))) = true := by decide +kernel
set_option maxRecDepth 40000 in
theorem zr_161 : ((zcode.getD 161 []).all fun ch => ch.all (zrowok 161 (zby 161))) = true := by decide +kernel
set_option maxRecDepth 40000 in
theorem zr_162 : ((zcode.getD 162 []).all fun ch => ch.all (zrowok 162 (zby 162))) = true := by decide +kernel
set_option maxRecDepth 40000 in
theorem zr_163 : ((zcode.getD 163 []).all fun ch => ch.all (zrowok 163 (zby 163))) = true := by decide +kernel
