set_option maxRecDepth 100000 in
theorem q_c50_0 : q_chk 50 0 70 = true := by decide +kernel
set_option maxRecDepth 100000 in
theorem q_c50_70 : q_chk 50 70 4 = true := by decide +kernel
set_option maxRecDepth 100000 in
theorem q_c51_0 : q_chk 51 0 18 = true := by decide +kernel
set_option maxRecDepth 100000 in
theorem q_c52_0 : q_chk 52 0 4 = true := by decide +kernel
set_option maxRecDepth 100000 in
theorem q_c53_0 : q_chk 53 0 46 = true := by decide +kernel
set_option maxRecDepth 100000 in
theorem q_c54_0 : q_chk 54 0 31 = true := by decide +kernel
set_option maxRecDepth 100000 in
theorem q_c55_0 : q_chk 55 0 50 = true := by decide +kernel
set_option maxRecDepth 100000 in
theorem q_c56_0 : q_chk 56 0 48 = true := by decide +kernel
set_option maxRecDepth 100000 in
theorem q_c57_0 : q_chk 57 0 46 = true := by decide +kernel
set_option maxRecDepth 100000 in
theorem q_c58_0 : q_chk 58 0 17 = true := by decide +kernel
set_option maxRecDepth 100000 in
theorem q_c59_0 : q_chk 59 0 49 = true := by decide +kernel
set_option maxRecDepth 100000 in
theorem q_c60_0 : q_chk 60 0 15 = true := by decide +kernel
set_option maxRecDepth 100000 in
theorem q_c61_0 : q_chk 61 0 36 = true := by decide +kernel
set_option maxRecDepth 100000 in
theorem q_c62_0 : q_chk 62 0 32 = true := by decide +kernel
set_option maxRecDepth 100000 in
theorem q_c63_0 : q_chk 63 0 46 = true := by decide +kernel
set_option maxRecDepth 100000 in
theorem q_c64_0 : q_chk 64 0 70 = true := by decide +kernel
set_option maxRecDepth 100000 in
theorem q_c64_70 : q_chk 64 70 15 = true := by decide +kernel
set_option maxRecDepth 100000 in
theorem q_c65_0 : q_chk 65 0 47 = true := by decide +kernel
set_option maxRecDepth 100000 in
theorem q_c66_0 : q_chk 66 0 6 = true := by decide +kernel
set_option maxRecDepth 100000 in
theorem q_c67_0 : q_chk 67 0 30 = true := by decide +kernel
set_option maxRecDepth 100000 in
theorem q_c68_0 : q_chk 68 0 20 = true := by decide +kernel
set_option maxRecDepth 100000 in
theorem q_c69_0 : q_chk 69 0 28 = true := by decide +kernel
set_option maxRecDepth 100000 in
theorem q_c70_0 : q_chk 70 0 10 = true := by decide +kernel
set_option maxRecDepth 100000 in
theorem q_c71_0 : q_chk 71 0 20 = true := by decide +kernel
set_option maxRecDepth 100000 in
theorem q_c72_0 : q_chk 72 0 7 = true := by decide +kernel
set_option maxRecDepth 100000 in
theorem q_c73_0 : q_chk 73 0 27 = true := by decide +kernel
set_option maxRecDepth 100000 in
theorem q_c74_0 : q_chk 74 0 32 = true := by decide +kernel
set_option maxRecDepth 100000 in
theorem q_c75_0 : q_chk 75 0 42 = true := by decide +kernel
set_option maxRecDepth 100000 in
theorem q_c76_0 : q_chk 76 0 9 = true := by decide +kernel
set_option maxRecDepth 100000 in
theorem q_c77_0 : q_chk 77 0 9 = true := by decide +kernel
set_option maxRecDepth 100000 in
theorem q_c78_0 : q_chk 78 0 12 = true := by decide +kernel
