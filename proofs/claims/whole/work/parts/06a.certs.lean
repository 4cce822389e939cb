set_option maxRecDepth 100000 in
theorem q_c0_0 : q_chk 0 0 19 = true := by decide +kernel
set_option maxRecDepth 100000 in
theorem q_c1_0 : q_chk 1 0 46 = true := by decide +kernel
set_option maxRecDepth 100000 in
theorem q_c2_0 : q_chk 2 0 58 = true := by decide +kernel
set_option maxRecDepth 100000 in
theorem q_c3_0 : q_chk 3 0 13 = true := by decide +kernel
set_option maxRecDepth 100000 in
theorem q_c4_0 : q_chk 4 0 12 = true := by decide +kernel
set_option maxRecDepth 100000 in
theorem q_c5_0 : q_chk 5 0 36 = true := by decide +kernel
set_option maxRecDepth 100000 in
theorem q_c6_0 : q_chk 6 0 21 = true := by decide +kernel
set_option maxRecDepth 100000 in
theorem q_c7_0 : q_chk 7 0 30 = true := by decide +kernel
set_option maxRecDepth 100000 in
theorem q_c8_0 : q_chk 8 0 25 = true := by decide +kernel
set_option maxRecDepth 100000 in
theorem q_c9_0 : q_chk 9 0 11 = true := by decide +kernel
set_option maxRecDepth 100000 in
theorem q_c10_0 : q_chk 10 0 55 = true := by decide +kernel
set_option maxRecDepth 100000 in
theorem q_c11_0 : q_chk 11 0 21 = true := by decide +kernel
set_option maxRecDepth 100000 in
theorem q_c12_0 : q_chk 12 0 66 = true := by decide +kernel
set_option maxRecDepth 100000 in
theorem q_c13_0 : q_chk 13 0 34 = true := by decide +kernel
set_option maxRecDepth 100000 in
theorem q_c14_0 : q_chk 14 0 14 = true := by decide +kernel
set_option maxRecDepth 100000 in
theorem q_c15_0 : q_chk 15 0 21 = true := by decide +kernel
set_option maxRecDepth 100000 in
theorem q_c16_0 : q_chk 16 0 33 = true := by decide +kernel
set_option maxRecDepth 100000 in
theorem q_c17_0 : q_chk 17 0 15 = true := by decide +kernel
set_option maxRecDepth 100000 in
theorem q_c18_0 : q_chk 18 0 22 = true := by decide +kernel
set_option maxRecDepth 100000 in
theorem q_c19_0 : q_chk 19 0 20 = true := by decide +kernel
set_option maxRecDepth 100000 in
theorem q_c20_0 : q_chk 20 0 15 = true := by decide +kernel
set_option maxRecDepth 100000 in
theorem q_c21_0 : q_chk 21 0 28 = true := by decide +kernel
set_option maxRecDepth 100000 in
theorem q_c22_0 : q_chk 22 0 54 = true := by decide +kernel
set_option maxRecDepth 100000 in
theorem q_c23_0 : q_chk 23 0 67 = true := by decide +kernel
set_option maxRecDepth 100000 in
theorem q_c24_0 : q_chk 24 0 67 = true := by decide +kernel
set_option maxRecDepth 100000 in
theorem q_c25_0 : q_chk 25 0 70 = true := by decide +kernel
set_option maxRecDepth 100000 in
theorem q_c25_70 : q_chk 25 70 17 = true := by decide +kernel
