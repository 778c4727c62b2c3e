def x_log1 : Option (Option Value × Nat × pO) := p_ey 6000 false 21 106 (p_mc 106) (p_msl 106) 0 (lv_args 0 [.ref 0, .int 1]) [] 311 ([], f_M) 0 0
set_option maxRecDepth 1000000 in
theorem x_log1_ok : d_chk (some (.int (-1))) 294 311 f_M x_log1 = true := by decide +kernel
def y_log1 : Option (Option Value × Nat × pO) := p_ey 6000 false 21 260 (p_mc 260) (p_msl 260) 0 (lv_args 0 [.ref 294, .int 1]) [] 311 ([], f_lo) 0 0
set_option maxRecDepth 1000000 in
theorem y_log1_ok : d_chk (some (.int (-1))) 311 311 f_M y_log1 = true := by decide +kernel
