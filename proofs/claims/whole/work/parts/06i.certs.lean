set_option maxRecDepth 100000 in
theorem q_c151_350 : q_chk 151 350 50 = true := by decide +kernel
set_option maxRecDepth 100000 in
theorem q_c151_400 : q_chk 151 400 50 = true := by decide +kernel
set_option maxRecDepth 100000 in
theorem q_c151_450 : q_chk 151 450 50 = true := by decide +kernel
set_option maxRecDepth 100000 in
theorem q_c151_500 : q_chk 151 500 50 = true := by decide +kernel
set_option maxRecDepth 100000 in
theorem q_c151_550 : q_chk 151 550 1 = true := by decide +kernel
