set_option maxRecDepth 100000 in
theorem q_c79_0 : q_chk 79 0 23 = true := by decide +kernel
set_option maxRecDepth 100000 in
theorem q_c80_0 : q_chk 80 0 17 = true := by decide +kernel
set_option maxRecDepth 100000 in
theorem q_c81_0 : q_chk 81 0 25 = true := by decide +kernel
set_option maxRecDepth 100000 in
theorem q_c82_0 : q_chk 82 0 26 = true := by decide +kernel
set_option maxRecDepth 100000 in
theorem q_c83_0 : q_chk 83 0 54 = true := by decide +kernel
set_option maxRecDepth 100000 in
theorem q_c84_0 : q_chk 84 0 60 = true := by decide +kernel
set_option maxRecDepth 100000 in
theorem q_c85_0 : q_chk 85 0 10 = true := by decide +kernel
set_option maxRecDepth 100000 in
theorem q_c86_0 : q_chk 86 0 11 = true := by decide +kernel
set_option maxRecDepth 100000 in
theorem q_c87_0 : q_chk 87 0 5 = true := by decide +kernel
set_option maxRecDepth 100000 in
theorem q_c88_0 : q_chk 88 0 14 = true := by decide +kernel
set_option maxRecDepth 100000 in
theorem q_c89_0 : q_chk 89 0 21 = true := by decide +kernel
set_option maxRecDepth 100000 in
theorem q_c90_0 : q_chk 90 0 38 = true := by decide +kernel
set_option maxRecDepth 100000 in
theorem q_c91_0 : q_chk 91 0 59 = true := by decide +kernel
set_option maxRecDepth 100000 in
theorem q_c92_0 : q_chk 92 0 12 = true := by decide +kernel
set_option maxRecDepth 100000 in
theorem q_c93_0 : q_chk 93 0 12 = true := by decide +kernel
set_option maxRecDepth 100000 in
theorem q_c94_0 : q_chk 94 0 17 = true := by decide +kernel
set_option maxRecDepth 100000 in
theorem q_c95_0 : q_chk 95 0 54 = true := by decide +kernel
set_option maxRecDepth 100000 in
theorem q_c96_0 : q_chk 96 0 29 = true := by decide +kernel
set_option maxRecDepth 100000 in
theorem q_c97_0 : q_chk 97 0 34 = true := by decide +kernel
set_option maxRecDepth 100000 in
theorem q_c98_0 : q_chk 98 0 49 = true := by decide +kernel
set_option maxRecDepth 100000 in
theorem q_c99_0 : q_chk 99 0 51 = true := by decide +kernel
set_option maxRecDepth 100000 in
theorem q_c100_0 : q_chk 100 0 47 = true := by decide +kernel
set_option maxRecDepth 100000 in
theorem q_c101_0 : q_chk 101 0 70 = true := by decide +kernel
set_option maxRecDepth 100000 in
theorem q_c101_70 : q_chk 101 70 39 = true := by decide +kernel
set_option maxRecDepth 100000 in
theorem q_c102_0 : q_chk 102 0 19 = true := by decide +kernel
set_option maxRecDepth 100000 in
theorem q_c103_0 : q_chk 103 0 67 = true := by decide +kernel
