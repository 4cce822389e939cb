/-! ===== the certificates joined ===== -/
def q_chd (M : Nat) : Bool := decide ((parseMethodDescriptor (q_y M).desc).map (fun d => d.parameters.length) = some (q_np M)) && decide ((q_y M).cls ≠ "java/lang/invoke/MethodHandle" ∧ (q_y M).cls ≠ "java/lang/invoke/VarHandle") && plainName (q_y M).cls && decide ((q_y M).cls = q_own M)
def q_chw (M : Nat) : Bool := decide (lw_tbl[q_cp M]? = some (.code (q_y M) (q_b M) (q_ml M) (q_ret M)))
set_option maxRecDepth 100000 in
theorem q_cd_0 : (List.range' 0 40).all q_chd = true := by decide +kernel
set_option maxRecDepth 100000 in
theorem q_cd_40 : (List.range' 40 40).all q_chd = true := by decide +kernel
set_option maxRecDepth 100000 in
theorem q_cd_80 : (List.range' 80 40).all q_chd = true := by decide +kernel
set_option maxRecDepth 100000 in
theorem q_cd_120 : (List.range' 120 29).all q_chd = true := by decide +kernel
