set_option maxRecDepth 100000 in
theorem q_cw_0 : (List.range' 0 20).all q_chw = true := by decide +kernel
set_option maxRecDepth 100000 in
theorem q_cw_20 : (List.range' 20 20).all q_chw = true := by decide +kernel
set_option maxRecDepth 100000 in
theorem q_cw_40 : (List.range' 40 20).all q_chw = true := by decide +kernel
set_option maxRecDepth 100000 in
theorem q_cw_60 : (List.range' 60 20).all q_chw = true := by decide +kernel
set_option maxRecDepth 100000 in
theorem q_cw_80 : (List.range' 80 20).all q_chw = true := by decide +kernel
set_option maxRecDepth 100000 in
theorem q_cw_100 : (List.range' 100 20).all q_chw = true := by decide +kernel
set_option maxRecDepth 100000 in
theorem q_cw_120 : (List.range' 120 20).all q_chw = true := by decide +kernel
set_option maxRecDepth 100000 in
theorem q_cw_140 : (List.range' 140 9).all q_chw = true := by decide +kernel
