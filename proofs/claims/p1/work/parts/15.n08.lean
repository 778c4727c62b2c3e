def x_image1 : Option (Option Value × Nat × pO) := p_ey 9000 false 21 125 (p_mc 125) (p_msl 125) 0 (lv_args 0 [.ref 0, .int 1]) [] 311 ([], f_M) 0 0
set_option maxRecDepth 1000000 in
theorem x_image1_ok : d_chk (some (.int 1)) 294 311 f_M x_image1 = true := by decide +kernel
def y_image1 : Option (Option Value × Nat × pO) := p_ey 9000 false 21 273 (p_mc 273) (p_msl 273) 0 (lv_args 0 [.ref 294, .int 1]) [] 311 ([], f_lo) 0 0
set_option maxRecDepth 1000000 in
theorem y_image1_ok : d_chk (some (.int 1)) 311 311 f_M y_image1 = true := by decide +kernel
