def x_beach : Option (Option Value × Nat × pO) := p_ey 12000 false 21 102 (p_mc 102) (p_msl 102) 0 (lv_args 0 [.ref 0]) [] 311 ([], f_M) 0 0
set_option maxRecDepth 1000000 in
theorem x_beach_ok : d_chk (some (.int 0)) 294 311 f_M x_beach = true := by decide +kernel
def y_beach : Option (Option Value × Nat × pO) := p_ey 12000 false 21 194 (p_mc 194) (p_msl 194) 0 (lv_args 0 [.ref 294]) [] 311 ([], f_lo) 0 0
set_option maxRecDepth 1000000 in
theorem y_beach_ok : d_chk (some (.int 0)) 311 311 f_M y_beach = true := by decide +kernel
