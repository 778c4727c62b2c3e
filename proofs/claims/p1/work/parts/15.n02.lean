def x_fault : Option (Option Value × Nat × pO) := p_ey 200 false 21 103 (p_mc 103) (p_msl 103) 0 (lv_args 0 [.ref 0]) [] 311 ([], f_M) 0 0
set_option maxRecDepth 1000000 in
theorem x_fault_ok : d_chk (some (.int 0)) 294 311 f_M x_fault = true := by decide +kernel
def y_fault : Option (Option Value × Nat × pO) := p_ey 200 false 21 195 (p_mc 195) (p_msl 195) 0 (lv_args 0 [.ref 294]) [] 311 ([], f_lo) 0 0
set_option maxRecDepth 1000000 in
theorem y_fault_ok : d_chk (some (.int 0)) 311 311 f_M y_fault = true := by decide +kernel
def x_undo : Option (Option Value × Nat × pO) := p_ey 500 false 21 124 (p_mc 124) (p_msl 124) 0 (lv_args 0 [.ref 0]) [] 311 ([], f_M) 0 0
set_option maxRecDepth 1000000 in
theorem x_undo_ok : d_chk (some (.int (-1))) 294 311 f_M x_undo = true := by decide +kernel
def y_undo : Option (Option Value × Nat × pO) := p_ey 500 false 21 222 (p_mc 222) (p_msl 222) 0 (lv_args 0 [.ref 294]) [] 311 ([], f_lo) 0 0
set_option maxRecDepth 1000000 in
theorem y_undo_ok : d_chk (some (.int (-1))) 311 311 f_M y_undo = true := by decide +kernel
def x_dearest : Option (Option Value × Nat × pO) := p_ey 500 false 21 114 (p_mc 114) (p_msl 114) 0 (lv_args 0 [.ref 0]) [] 311 ([], f_M) 0 0
set_option maxRecDepth 1000000 in
theorem x_dearest_ok : d_chk (some (.int (-1))) 294 311 f_M x_dearest = true := by decide +kernel
def y_dearest : Option (Option Value × Nat × pO) := p_ey 500 false 21 231 (p_mc 231) (p_msl 231) 0 (lv_args 0 [.ref 294]) [] 311 ([], f_lo) 0 0
set_option maxRecDepth 1000000 in
theorem y_dearest_ok : d_chk (some (.int (-1))) 311 311 f_M y_dearest = true := by decide +kernel
def x_prints : Option (Option Value × Nat × pO) := p_ey 500 false 21 135 (p_mc 135) (p_msl 135) 0 (lv_args 0 [.ref 0]) [] 311 ([], f_M) 0 0
set_option maxRecDepth 1000000 in
theorem x_prints_ok : d_chk (some (.int (-1))) 294 311 f_M x_prints = true := by decide +kernel
def y_prints : Option (Option Value × Nat × pO) := p_ey 500 false 21 246 (p_mc 246) (p_msl 246) 0 (lv_args 0 [.ref 294]) [] 311 ([], f_lo) 0 0
set_option maxRecDepth 1000000 in
theorem y_prints_ok : d_chk (some (.int (-1))) 311 311 f_M y_prints = true := by decide +kernel
def x_laws : Option (Option Value × Nat × pO) := p_ey 500 false 21 137 (p_mc 137) (p_msl 137) 0 (lv_args 0 [.ref 0]) [] 311 ([], f_M) 0 0
set_option maxRecDepth 1000000 in
theorem x_laws_ok : d_chk (some (.int (-1))) 294 311 f_M x_laws = true := by decide +kernel
def y_laws : Option (Option Value × Nat × pO) := p_ey 500 false 21 249 (p_mc 249) (p_msl 249) 0 (lv_args 0 [.ref 294]) [] 311 ([], f_lo) 0 0
set_option maxRecDepth 1000000 in
theorem y_laws_ok : d_chk (some (.int (-1))) 311 311 f_M y_laws = true := by decide +kernel
def x_sentence : Option (Option Value × Nat × pO) := p_ey 1000 false 21 104 (p_mc 104) (p_msl 104) 0 (lv_args 0 [.ref 0]) [] 311 ([], f_M) 0 0
set_option maxRecDepth 1000000 in
theorem x_sentence_ok : d_chk (some (.int (-1))) 294 311 f_M x_sentence = true := by decide +kernel
def y_sentence : Option (Option Value × Nat × pO) := p_ey 1000 false 21 268 (p_mc 268) (p_msl 268) 0 (lv_args 0 [.ref 294]) [] 311 ([], f_lo) 0 0
set_option maxRecDepth 1000000 in
theorem y_sentence_ok : d_chk (some (.int (-1))) 311 311 f_M y_sentence = true := by decide +kernel
