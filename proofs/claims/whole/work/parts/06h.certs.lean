set_option maxRecDepth 100000 in
theorem q_c151_150 : q_chk 151 150 50 = true := by decide +kernel
set_option maxRecDepth 100000 in
theorem q_c151_200 : q_chk 151 200 50 = true := by decide +kernel
set_option maxRecDepth 100000 in
theorem q_c151_250 : q_chk 151 250 50 = true := by decide +kernel
set_option maxRecDepth 100000 in
theorem q_c151_300 : q_chk 151 300 50 = true := by decide +kernel
