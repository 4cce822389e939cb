set_option maxRecDepth 100000 in
theorem q_c26_0 : q_chk 26 0 70 = true := by decide +kernel
set_option maxRecDepth 100000 in
theorem q_c26_70 : q_chk 26 70 12 = true := by decide +kernel
set_option maxRecDepth 100000 in
theorem q_c27_0 : q_chk 27 0 61 = true := by decide +kernel
set_option maxRecDepth 100000 in
theorem q_c28_0 : q_chk 28 0 46 = true := by decide +kernel
set_option maxRecDepth 100000 in
theorem q_c29_0 : q_chk 29 0 7 = true := by decide +kernel
set_option maxRecDepth 100000 in
theorem q_c30_0 : q_chk 30 0 20 = true := by decide +kernel
set_option maxRecDepth 100000 in
theorem q_c31_0 : q_chk 31 0 8 = true := by decide +kernel
set_option maxRecDepth 100000 in
theorem q_c32_0 : q_chk 32 0 43 = true := by decide +kernel
set_option maxRecDepth 100000 in
theorem q_c33_0 : q_chk 33 0 20 = true := by decide +kernel
set_option maxRecDepth 100000 in
theorem q_c34_0 : q_chk 34 0 63 = true := by decide +kernel
set_option maxRecDepth 100000 in
theorem q_c35_0 : q_chk 35 0 36 = true := by decide +kernel
set_option maxRecDepth 100000 in
theorem q_c36_0 : q_chk 36 0 31 = true := by decide +kernel
set_option maxRecDepth 100000 in
theorem q_c37_0 : q_chk 37 0 31 = true := by decide +kernel
set_option maxRecDepth 100000 in
theorem q_c38_0 : q_chk 38 0 21 = true := by decide +kernel
set_option maxRecDepth 100000 in
theorem q_c39_0 : q_chk 39 0 13 = true := by decide +kernel
set_option maxRecDepth 100000 in
theorem q_c40_0 : q_chk 40 0 30 = true := by decide +kernel
set_option maxRecDepth 100000 in
theorem q_c41_0 : q_chk 41 0 70 = true := by decide +kernel
set_option maxRecDepth 100000 in
theorem q_c41_70 : q_chk 41 70 3 = true := by decide +kernel
set_option maxRecDepth 100000 in
theorem q_c42_0 : q_chk 42 0 34 = true := by decide +kernel
set_option maxRecDepth 100000 in
theorem q_c43_0 : q_chk 43 0 19 = true := by decide +kernel
set_option maxRecDepth 100000 in
theorem q_c44_0 : q_chk 44 0 54 = true := by decide +kernel
set_option maxRecDepth 100000 in
theorem q_c45_0 : q_chk 45 0 11 = true := by decide +kernel
set_option maxRecDepth 100000 in
theorem q_c46_0 : q_chk 46 0 35 = true := by decide +kernel
set_option maxRecDepth 100000 in
theorem q_c47_0 : q_chk 47 0 56 = true := by decide +kernel
set_option maxRecDepth 100000 in
theorem q_c48_0 : q_chk 48 0 18 = true := by decide +kernel
set_option maxRecDepth 100000 in
theorem q_c49_0 : q_chk 49 0 70 = true := by decide +kernel
