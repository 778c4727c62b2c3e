def y_strays : Option (Option Value × Nat × pO) := p_ey 8000 false 21 242 (p_mc 242) (p_msl 242) 0 (lv_args 0 [.ref 294]) [] 311 ([], f_lo) 0 0
set_option maxRecDepth 1000000 in
theorem y_strays_ok : d_chk (some (.int (-1))) 311 311 f_M y_strays = true := by decide +kernel
