set_option maxRecDepth 100000 in
theorem q_c104_0 : q_chk 104 0 70 = true := by decide +kernel
set_option maxRecDepth 100000 in
theorem q_c104_70 : q_chk 104 70 8 = true := by decide +kernel
set_option maxRecDepth 100000 in
theorem q_c105_0 : q_chk 105 0 18 = true := by decide +kernel
set_option maxRecDepth 100000 in
theorem q_c106_0 : q_chk 106 0 17 = true := by decide +kernel
set_option maxRecDepth 100000 in
theorem q_c107_0 : q_chk 107 0 17 = true := by decide +kernel
set_option maxRecDepth 100000 in
theorem q_c108_0 : q_chk 108 0 27 = true := by decide +kernel
set_option maxRecDepth 100000 in
theorem q_c109_0 : q_chk 109 0 17 = true := by decide +kernel
set_option maxRecDepth 100000 in
theorem q_c110_0 : q_chk 110 0 32 = true := by decide +kernel
set_option maxRecDepth 100000 in
theorem q_c111_0 : q_chk 111 0 19 = true := by decide +kernel
set_option maxRecDepth 100000 in
theorem q_c112_0 : q_chk 112 0 31 = true := by decide +kernel
set_option maxRecDepth 100000 in
theorem q_c113_0 : q_chk 113 0 36 = true := by decide +kernel
set_option maxRecDepth 100000 in
theorem q_c114_0 : q_chk 114 0 34 = true := by decide +kernel
set_option maxRecDepth 100000 in
theorem q_c115_0 : q_chk 115 0 51 = true := by decide +kernel
set_option maxRecDepth 100000 in
theorem q_c116_0 : q_chk 116 0 24 = true := by decide +kernel
set_option maxRecDepth 100000 in
theorem q_c117_0 : q_chk 117 0 43 = true := by decide +kernel
set_option maxRecDepth 100000 in
theorem q_c118_0 : q_chk 118 0 47 = true := by decide +kernel
set_option maxRecDepth 100000 in
theorem q_c119_0 : q_chk 119 0 70 = true := by decide +kernel
set_option maxRecDepth 100000 in
theorem q_c119_70 : q_chk 119 70 15 = true := by decide +kernel
set_option maxRecDepth 100000 in
theorem q_c120_0 : q_chk 120 0 70 = true := by decide +kernel
set_option maxRecDepth 100000 in
theorem q_c120_70 : q_chk 120 70 61 = true := by decide +kernel
set_option maxRecDepth 100000 in
theorem q_c121_0 : q_chk 121 0 46 = true := by decide +kernel
set_option maxRecDepth 100000 in
theorem q_c122_0 : q_chk 122 0 45 = true := by decide +kernel
set_option maxRecDepth 100000 in
theorem q_c123_0 : q_chk 123 0 48 = true := by decide +kernel
set_option maxRecDepth 100000 in
theorem q_c124_0 : q_chk 124 0 11 = true := by decide +kernel
