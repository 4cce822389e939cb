set_option maxRecDepth 100000 in
theorem q_c146_0 : q_chk 146 0 70 = true := by decide +kernel
set_option maxRecDepth 100000 in
theorem q_c146_70 : q_chk 146 70 68 = true := by decide +kernel
set_option maxRecDepth 100000 in
theorem q_c147_0 : q_chk 147 0 55 = true := by decide +kernel
set_option maxRecDepth 100000 in
theorem q_c148_0 : q_chk 148 0 42 = true := by decide +kernel
set_option maxRecDepth 100000 in
theorem q_c149_0 : q_chk 149 0 7 = true := by decide +kernel
set_option maxRecDepth 100000 in
theorem q_c150_0 : q_chk 150 0 7 = true := by decide +kernel
set_option maxRecDepth 100000 in
theorem q_c151_0 : q_chk 151 0 50 = true := by decide +kernel
set_option maxRecDepth 100000 in
theorem q_c151_50 : q_chk 151 50 50 = true := by decide +kernel
set_option maxRecDepth 100000 in
theorem q_c151_100 : q_chk 151 100 50 = true := by decide +kernel
