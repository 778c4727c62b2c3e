def x_strays : Option (Option Value × Nat × pO) := p_ey 8000 false 21 131 (p_mc 131) (p_msl 131) 0 (lv_args 0 [.ref 0]) [] 311 ([], f_M) 0 0
set_option maxRecDepth 1000000 in
theorem x_strays_ok : d_chk (some (.int (-1))) 294 311 f_M x_strays = true := by decide +kernel
