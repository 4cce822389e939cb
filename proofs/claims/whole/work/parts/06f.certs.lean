set_option maxRecDepth 100000 in
theorem q_c125_0 : q_chk 125 0 62 = true := by decide +kernel
set_option maxRecDepth 100000 in
theorem q_c126_0 : q_chk 126 0 30 = true := by decide +kernel
set_option maxRecDepth 100000 in
theorem q_c127_0 : q_chk 127 0 70 = true := by decide +kernel
set_option maxRecDepth 100000 in
theorem q_c127_70 : q_chk 127 70 12 = true := by decide +kernel
set_option maxRecDepth 100000 in
theorem q_c128_0 : q_chk 128 0 7 = true := by decide +kernel
set_option maxRecDepth 100000 in
theorem q_c129_0 : q_chk 129 0 31 = true := by decide +kernel
set_option maxRecDepth 100000 in
theorem q_c130_0 : q_chk 130 0 48 = true := by decide +kernel
set_option maxRecDepth 100000 in
theorem q_c131_0 : q_chk 131 0 8 = true := by decide +kernel
set_option maxRecDepth 100000 in
theorem q_c132_0 : q_chk 132 0 51 = true := by decide +kernel
set_option maxRecDepth 100000 in
theorem q_c133_0 : q_chk 133 0 40 = true := by decide +kernel
set_option maxRecDepth 100000 in
theorem q_c134_0 : q_chk 134 0 70 = true := by decide +kernel
set_option maxRecDepth 100000 in
theorem q_c134_70 : q_chk 134 70 24 = true := by decide +kernel
set_option maxRecDepth 100000 in
theorem q_c135_0 : q_chk 135 0 37 = true := by decide +kernel
set_option maxRecDepth 100000 in
theorem q_c136_0 : q_chk 136 0 42 = true := by decide +kernel
set_option maxRecDepth 100000 in
theorem q_c137_0 : q_chk 137 0 42 = true := by decide +kernel
set_option maxRecDepth 100000 in
theorem q_c138_0 : q_chk 138 0 49 = true := by decide +kernel
set_option maxRecDepth 100000 in
theorem q_c139_0 : q_chk 139 0 28 = true := by decide +kernel
set_option maxRecDepth 100000 in
theorem q_c140_0 : q_chk 140 0 8 = true := by decide +kernel
set_option maxRecDepth 100000 in
theorem q_c141_0 : q_chk 141 0 19 = true := by decide +kernel
set_option maxRecDepth 100000 in
theorem q_c142_0 : q_chk 142 0 70 = true := by decide +kernel
set_option maxRecDepth 100000 in
theorem q_c142_70 : q_chk 142 70 70 = true := by decide +kernel
set_option maxRecDepth 100000 in
theorem q_c143_0 : q_chk 143 0 18 = true := by decide +kernel
set_option maxRecDepth 100000 in
theorem q_c144_0 : q_chk 144 0 16 = true := by decide +kernel
set_option maxRecDepth 100000 in
theorem q_c145_0 : q_chk 145 0 10 = true := by decide +kernel
