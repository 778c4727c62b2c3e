def p_msR0 : List (Nat × Nat × Nat × Nat × Nat) := [(11, 130, 275, 863, 864), (2, 16, 18, 1349, 1350), (3, 163, 92, 682, 683), (3, 171, 30, 703, 704), (4, 72, 39, 786, 787), (5, 188, 63, 966, 967), (6, 81, 69, 894, 895), (7, 61, 80, 610, 611), (7, 65, 81, 613, 614), (7, 74, 82, 630, 631), (7, 84, 73, 620, 621), (7, 107, 92, 702, 683), (13, 53, 279, 1254, 1255), (13, 59, 280, 1323, 1324), (13, 123, 281, 1330, 1331), (13, 127, 282, 1352, 1353), (13, 131, 283, 1363, 1364), (12, 147, 175, 1559, 1560), (12, 151, 176, 1562, 1563), (12, 176, 166, 1592, 1593), (12, 198, 167, 1577, 1578), (12, 244, 170, 1717, 1718), (12, 260, 205, 1732, 1733), (12, 268, 169, 1711, 1712), (12, 271, 168, 1714, 1715), (12, 317, 171, 1799, 1800)]
set_option maxRecDepth 100000 in
set_option maxHeartbeats 4000000 in
theorem p_msR0_w0 : p_msR0.map (fun r => lw_tbl[r.2.2.2.1]?) = p_msR0.map (fun r => some (Cond.methodLink (p_own r.1) r.2.1 (p_mY r.2.2.1))) := rfl
set_option maxRecDepth 100000 in
set_option maxHeartbeats 4000000 in
theorem p_msR0_w1 : p_msR0.map (fun r => lw_tbl[r.2.2.2.2]?) = p_msR0.map (fun r => some (Cond.static (p_mY r.2.2.1))) := rfl
def p_msR : List (Nat × Nat × Nat × Nat × Nat) := p_msR0
theorem p_msR_w0 : ∀ r ∈ p_msR, Cond.methodLink (p_own r.1) r.2.1 (p_mY r.2.2.1) ∈ lw_tbl := by
  have key : p_msR.map (fun r => lw_tbl[r.2.2.2.1]?) = p_msR.map (fun r => some (Cond.methodLink (p_own r.1) r.2.1 (p_mY r.2.2.1))) := by
    unfold p_msR
    simp only [List.map_append, p_msR0_w0]
  intro r hr
  exact List.mem_of_getElem? (List.map_inj_left.mp key r hr)
theorem p_msR_w1 : ∀ r ∈ p_msR, Cond.static (p_mY r.2.2.1) ∈ lw_tbl := by
  have key : p_msR.map (fun r => lw_tbl[r.2.2.2.2]?) = p_msR.map (fun r => some (Cond.static (p_mY r.2.2.1))) := by
    unfold p_msR
    simp only [List.map_append, p_msR0_w1]
  intro r hr
  exact List.mem_of_getElem? (List.map_inj_left.mp key r hr)
def p_miR0 : List (Nat × Nat × Nat × Nat × Nat) := [(11, 9, 72, 137, 138), (11, 18, 97, 191, 192), (11, 33, 11, 465, 466), (11, 40, 19, 484, 198), (11, 47, 32, 486, 424), (11, 54, 65, 489, 490), (11, 61, 46, 525, 292), (1, 17, 46, 471, 292), (5, 31, 0, 346, 347), (10, 9, 19, 197, 198), (10, 18, 46, 291, 292), (10, 25, 32, 423, 424), (13, 30, 99, 129, 130), (13, 33, 173, 1384, 1385)]
set_option maxRecDepth 100000 in
set_option maxHeartbeats 4000000 in
theorem p_miR0_w0 : p_miR0.map (fun r => lw_tbl[r.2.2.2.1]?) = p_miR0.map (fun r => some (Cond.methodLink (p_own r.1) r.2.1 (p_mY r.2.2.1))) := rfl
set_option maxRecDepth 100000 in
set_option maxHeartbeats 4000000 in
theorem p_miR0_w1 : p_miR0.map (fun r => lw_tbl[r.2.2.2.2]?) = p_miR0.map (fun r => some (Cond.instanceMethod (p_mY r.2.2.1))) := rfl
theorem p_miR0_ok : (p_miR0.all fun r => decide ((p_mY r.2.2.1).name = "<init>")) = true := by decide +kernel
def p_miR : List (Nat × Nat × Nat × Nat × Nat) := p_miR0
theorem p_miR_w0 : ∀ r ∈ p_miR, Cond.methodLink (p_own r.1) r.2.1 (p_mY r.2.2.1) ∈ lw_tbl := by
  have key : p_miR.map (fun r => lw_tbl[r.2.2.2.1]?) = p_miR.map (fun r => some (Cond.methodLink (p_own r.1) r.2.1 (p_mY r.2.2.1))) := by
    unfold p_miR
    simp only [List.map_append, p_miR0_w0]
  intro r hr
  exact List.mem_of_getElem? (List.map_inj_left.mp key r hr)
theorem p_miR_w1 : ∀ r ∈ p_miR, Cond.instanceMethod (p_mY r.2.2.1) ∈ lw_tbl := by
  have key : p_miR.map (fun r => lw_tbl[r.2.2.2.2]?) = p_miR.map (fun r => some (Cond.instanceMethod (p_mY r.2.2.1))) := by
    unfold p_miR
    simp only [List.map_append, p_miR0_w1]
  intro r hr
  exact List.mem_of_getElem? (List.map_inj_left.mp key r hr)
theorem p_miR_ok : (p_miR.all fun r => decide ((p_mY r.2.2.1).name = "<init>")) = true := p_miR0_ok
def p_mnR0 : List (Nat × Nat × Nat × Nat × Nat) := [(11, 68, 15, 528, 529), (5, 24, 93, 298, 299)]
set_option maxRecDepth 100000 in
set_option maxHeartbeats 4000000 in
theorem p_mnR0_w0 : p_mnR0.map (fun r => lw_tbl[r.2.2.2.1]?) = p_mnR0.map (fun r => some (Cond.methodLinkNest (p_own r.1) r.2.1 (p_mY r.2.2.1) RX11)) := rfl
set_option maxRecDepth 100000 in
set_option maxHeartbeats 4000000 in
theorem p_mnR0_w1 : p_mnR0.map (fun r => lw_tbl[r.2.2.2.2]?) = p_mnR0.map (fun r => some (Cond.instanceMethod (p_mY r.2.2.1))) := rfl
theorem p_mnR0_ok : (p_mnR0.all fun r => decide ((p_mY r.2.2.1).name = "<init>")) = true := by decide +kernel
def p_mnR : List (Nat × Nat × Nat × Nat × Nat) := p_mnR0
theorem p_mnR_w0 : ∀ r ∈ p_mnR, Cond.methodLinkNest (p_own r.1) r.2.1 (p_mY r.2.2.1) RX11 ∈ lw_tbl := by
  have key : p_mnR.map (fun r => lw_tbl[r.2.2.2.1]?) = p_mnR.map (fun r => some (Cond.methodLinkNest (p_own r.1) r.2.1 (p_mY r.2.2.1) RX11)) := by
    unfold p_mnR
    simp only [List.map_append, p_mnR0_w0]
  intro r hr
  exact List.mem_of_getElem? (List.map_inj_left.mp key r hr)
theorem p_mnR_w1 : ∀ r ∈ p_mnR, Cond.instanceMethod (p_mY r.2.2.1) ∈ lw_tbl := by
  have key : p_mnR.map (fun r => lw_tbl[r.2.2.2.2]?) = p_mnR.map (fun r => some (Cond.instanceMethod (p_mY r.2.2.1))) := by
    unfold p_mnR
    simp only [List.map_append, p_mnR0_w1]
  intro r hr
  exact List.mem_of_getElem? (List.map_inj_left.mp key r hr)
theorem p_mnR_ok : (p_mnR.all fun r => decide ((p_mY r.2.2.1).name = "<init>")) = true := p_mnR0_ok
def p_moR0 : List (Nat × Nat × Nat × Nat × Nat × Nat) := [(11, 1, 0, 132, 133, 134), (0, 3, 0, 349, 133, 134), (1, 3, 0, 468, 133, 134), (2, 1, 0, 531, 133, 134), (3, 3, 0, 200, 133, 134), (4, 3, 0, 426, 133, 134), (5, 3, 0, 294, 133, 134), (6, 3, 0, 492, 133, 134), (7, 3, 0, 140, 133, 134), (8, 3, 0, 301, 133, 134), (10, 1, 0, 194, 133, 134), (12, 27, 0, 1387, 133, 134)]
set_option maxRecDepth 100000 in
set_option maxHeartbeats 4000000 in
theorem p_moR0_w0 : p_moR0.map (fun r => lw_tbl[r.2.2.2.1]?) = p_moR0.map (fun r => some (Cond.methodLink (p_own r.1) r.2.1 objectInit)) := rfl
set_option maxRecDepth 100000 in
set_option maxHeartbeats 4000000 in
theorem p_moR0_w1 : p_moR0.map (fun r => lw_tbl[r.2.2.2.2.1]?) = p_moR0.map (fun r => some (Cond.instanceMethod objectInit)) := rfl
set_option maxRecDepth 100000 in
set_option maxHeartbeats 4000000 in
theorem p_moR0_w2 : p_moR0.map (fun r => lw_tbl[r.2.2.2.2.2]?) = p_moR0.map (fun r => some (Cond.code objectInit ⟨#[0xb1]⟩ 1 none)) := rfl
def p_moR : List (Nat × Nat × Nat × Nat × Nat × Nat) := p_moR0
theorem p_moR_w0 : ∀ r ∈ p_moR, Cond.methodLink (p_own r.1) r.2.1 objectInit ∈ lw_tbl := by
  have key : p_moR.map (fun r => lw_tbl[r.2.2.2.1]?) = p_moR.map (fun r => some (Cond.methodLink (p_own r.1) r.2.1 objectInit)) := by
    unfold p_moR
    simp only [List.map_append, p_moR0_w0]
  intro r hr
  exact List.mem_of_getElem? (List.map_inj_left.mp key r hr)
theorem p_moR_w1 : ∀ r ∈ p_moR, Cond.instanceMethod objectInit ∈ lw_tbl := by
  have key : p_moR.map (fun r => lw_tbl[r.2.2.2.2.1]?) = p_moR.map (fun r => some (Cond.instanceMethod objectInit)) := by
    unfold p_moR
    simp only [List.map_append, p_moR0_w1]
  intro r hr
  exact List.mem_of_getElem? (List.map_inj_left.mp key r hr)
theorem p_moR_w2 : ∀ r ∈ p_moR, Cond.code objectInit ⟨#[0xb1]⟩ 1 none ∈ lw_tbl := by
  have key : p_moR.map (fun r => lw_tbl[r.2.2.2.2.2]?) = p_moR.map (fun r => some (Cond.code objectInit ⟨#[0xb1]⟩ 1 none)) := by
    unfold p_moR
    simp only [List.map_append, p_moR0_w2]
  intro r hr
  exact List.mem_of_getElem? (List.map_inj_left.mp key r hr)
def p_ctR0 : List (Nat × Nat × Nat × Nat × Nat × Nat) := [(11, 7, 7, 135, 136, 107), (11, 16, 9, 189, 190, 110), (11, 31, 1, 463, 464, 116), (11, 38, 3, 483, 196, 111), (11, 45, 4, 485, 422, 115), (11, 52, 6, 487, 488, 117), (11, 59, 5, 524, 290, 112), (11, 66, 2, 526, 527, 118), (1, 9, 5, 469, 290, 112), (5, 18, 8, 295, 297, 113), (5, 25, 0, 343, 345, 114), (10, 7, 3, 195, 196, 111), (10, 16, 5, 289, 290, 112), (10, 23, 4, 421, 422, 115), (13, 8, 10, 127, 128, 106), (13, 31, 11, 1383, 1377, 119)]
set_option maxRecDepth 100000 in
set_option maxHeartbeats 4000000 in
theorem p_ctR0_w0 : p_ctR0.map (fun r => lw_tbl[r.2.2.2.1]?) = p_ctR0.map (fun r => some (Cond.classLink (p_own r.1) r.2.1 (p_cl r.2.2.1).1)) := rfl
set_option maxRecDepth 100000 in
set_option maxHeartbeats 4000000 in
theorem p_ctR0_w1 : p_ctR0.map (fun r => lw_tbl[r.2.2.2.2.1]?) = p_ctR0.map (fun r => some (Cond.instantiable (p_cl r.2.2.1).1 (p_cl r.2.2.1).2.2)) := rfl
set_option maxRecDepth 100000 in
set_option maxHeartbeats 4000000 in
theorem p_ctR0_w2 : p_ctR0.map (fun r => lw_tbl[r.2.2.2.2.2]?) = p_ctR0.map (fun r => some (Cond.initialized (p_cl r.2.2.1).1)) := rfl
theorem p_ctR0_ok : (p_ctR0.all fun r => decide (r.2.2.1 < 12)) = true := by decide +kernel
def p_ctR : List (Nat × Nat × Nat × Nat × Nat × Nat) := p_ctR0
theorem p_ctR_w0 : ∀ r ∈ p_ctR, Cond.classLink (p_own r.1) r.2.1 (p_cl r.2.2.1).1 ∈ lw_tbl := by
  have key : p_ctR.map (fun r => lw_tbl[r.2.2.2.1]?) = p_ctR.map (fun r => some (Cond.classLink (p_own r.1) r.2.1 (p_cl r.2.2.1).1)) := by
    unfold p_ctR
    simp only [List.map_append, p_ctR0_w0]
  intro r hr
  exact List.mem_of_getElem? (List.map_inj_left.mp key r hr)
theorem p_ctR_w1 : ∀ r ∈ p_ctR, Cond.instantiable (p_cl r.2.2.1).1 (p_cl r.2.2.1).2.2 ∈ lw_tbl := by
  have key : p_ctR.map (fun r => lw_tbl[r.2.2.2.2.1]?) = p_ctR.map (fun r => some (Cond.instantiable (p_cl r.2.2.1).1 (p_cl r.2.2.1).2.2)) := by
    unfold p_ctR
    simp only [List.map_append, p_ctR0_w1]
  intro r hr
  exact List.mem_of_getElem? (List.map_inj_left.mp key r hr)
theorem p_ctR_w2 : ∀ r ∈ p_ctR, Cond.initialized (p_cl r.2.2.1).1 ∈ lw_tbl := by
  have key : p_ctR.map (fun r => lw_tbl[r.2.2.2.2.2]?) = p_ctR.map (fun r => some (Cond.initialized (p_cl r.2.2.1).1)) := by
    unfold p_ctR
    simp only [List.map_append, p_ctR0_w2]
  intro r hr
  exact List.mem_of_getElem? (List.map_inj_left.mp key r hr)
theorem p_ctR_ok : (p_ctR.all fun r => decide (r.2.2.1 < 12)) = true := p_ctR0_ok
theorem p_ms_eq : p_ms = p_msR.map (fun r => (r.1, r.2.1, r.2.2.1)) := by decide +kernel
theorem p_mi_eq : p_mi = p_miR.map (fun r => (r.1, r.2.1, r.2.2.1)) := by decide +kernel
theorem p_mn_eq : p_mn = p_mnR.map (fun r => (r.1, r.2.1, r.2.2.1)) := by decide +kernel
theorem p_mo_eq : p_mo = p_moR.map (fun r => (r.1, r.2.1, r.2.2.1)) := by decide +kernel
theorem p_ct_eq : p_ct = p_ctR.map (fun r => (r.1, r.2.1, r.2.2.1)) := by decide +kernel
theorem p_ms_k : (p_ms.all fun r => decide (r.1 = 13) || p_okK r.2.2) = true := by decide +kernel
theorem p_mi_k : (p_mi.all fun r => p_okK r.2.2) = true := by decide +kernel
theorem p_mn_k : (p_mn.all fun r => p_okK r.2.2) = true := by decide +kernel
def p_ty : Nat → FieldType
  | 0 => .byte
  | 1 => .int
  | 2 => .long
  | 3 => .boolean
  | 4 => .object RX0
  | 5 => .object RX5
  | 6 => .object RX8
  | 7 => .object RX10
  | _ => .object RX9
def p_tn : Nat → String
  | 4 => RX0
  | 5 => RX5
  | 6 => RX8
  | 7 => RX10
  | _ => RX9
def p_atR0 : List (Nat × Nat × Nat × Nat) := [(11, 16, 7, 189), (1, 9, 5, 469), (4, 11, 8, 427), (5, 18, 6, 295), (5, 25, 4, 343), (6, 9, 8, 493)]
set_option maxRecDepth 100000 in
set_option maxHeartbeats 4000000 in
theorem p_atR0_w0 : p_atR0.map (fun r => lw_tbl[r.2.2.2]?) = p_atR0.map (fun r => some (Cond.classLink (p_own r.1) r.2.1 (p_tn r.2.2.1))) := rfl
theorem p_atR0_ok : (p_atR0.all fun r => decide (4 ≤ r.2.2.1) && decide (r.2.2.1 < 9)) = true := by decide +kernel
def p_atR : List (Nat × Nat × Nat × Nat) := p_atR0
theorem p_atR_w0 : ∀ r ∈ p_atR, Cond.classLink (p_own r.1) r.2.1 (p_tn r.2.2.1) ∈ lw_tbl := by
  have key : p_atR.map (fun r => lw_tbl[r.2.2.2]?) = p_atR.map (fun r => some (Cond.classLink (p_own r.1) r.2.1 (p_tn r.2.2.1))) := by
    unfold p_atR
    simp only [List.map_append, p_atR0_w0]
  intro r hr
  exact List.mem_of_getElem? (List.map_inj_left.mp key r hr)
theorem p_atR_ok : (p_atR.all fun r => decide (4 ≤ r.2.2.1) && decide (r.2.2.1 < 9)) = true := p_atR0_ok
theorem p_at_eq : p_at = p_atR.map (fun r => (r.1, r.2.1, r.2.2.1)) := by decide +kernel
def p_ltR0 : List (Nat × Nat × Int64 × Nat) := [(7, 24, 32, 623), (12, 78, 1818848869, 1388), (12, 80, 1651467385, 1389), (12, 82, 461262647411, 1390), (12, 84, 131260314510706, 1391), (12, 86, 1650549611, 1392), (12, 88, 6582119, 1393), (12, 90, 478694368626, 1394), (12, 92, 1852137842, 1395), (12, 94, 1818325876, 1396), (12, 96, 1667329132, 1397), (12, 98, 499985311091, 1398), (12, 100, 495874699379, 1399), (12, 102, 512735603571, 1400), (12, 104, 500186639987, 1401), (12, 106, 426836257907, 1402), (12, 108, 127991945328499, 1403), (12, 110, 126879297138276, 1404), (12, 112, 28530, 1405), (12, 114, 6385252, 1406), (12, 116, 7237492, 1407), (12, 118, 126943688025203, 1408), (12, 120, 448311224179, 1409), (12, 122, 126922548275316, 1410), (12, 124, 25209, 1411), (12, 126, 482854658917, 1412), (12, 128, 1885430629, 1413), (12, 130, 130195279934579, 1414), (12, 132, 121450625394034, 1415)]
set_option maxRecDepth 100000 in
set_option maxHeartbeats 4000000 in
theorem p_ltR0_w0 : p_ltR0.map (fun r => lw_tbl[r.2.2.2]?) = p_ltR0.map (fun r => some (Cond.constantLong (p_own r.1) r.2.1 r.2.2.1)) := rfl
def p_ltR : List (Nat × Nat × Int64 × Nat) := p_ltR0
theorem p_ltR_w0 : ∀ r ∈ p_ltR, Cond.constantLong (p_own r.1) r.2.1 r.2.2.1 ∈ lw_tbl := by
  have key : p_ltR.map (fun r => lw_tbl[r.2.2.2]?) = p_ltR.map (fun r => some (Cond.constantLong (p_own r.1) r.2.1 r.2.2.1)) := by
    unfold p_ltR
    simp only [List.map_append, p_ltR0_w0]
  intro r hr
  exact List.mem_of_getElem? (List.map_inj_left.mp key r hr)
def p_itR0 : List (Nat × Nat × Int32 × Nat) := [(5, 143, 1103515245, 1115), (12, 359, 1103515245, 1898), (14, 265, 1431655765, 866), (14, 266, 858993459, 867), (14, 267, 252645135, 868)]
set_option maxRecDepth 100000 in
set_option maxHeartbeats 4000000 in
theorem p_itR0_w0 : p_itR0.map (fun r => lw_tbl[r.2.2.2]?) = p_itR0.map (fun r => some (Cond.constant (p_own r.1) r.2.1 r.2.2.1)) := rfl
def p_itR : List (Nat × Nat × Int32 × Nat) := p_itR0
theorem p_itR_w0 : ∀ r ∈ p_itR, Cond.constant (p_own r.1) r.2.1 r.2.2.1 ∈ lw_tbl := by
  have key : p_itR.map (fun r => lw_tbl[r.2.2.2]?) = p_itR.map (fun r => some (Cond.constant (p_own r.1) r.2.1 r.2.2.1)) := by
    unfold p_itR
    simp only [List.map_append, p_itR0_w0]
  intro r hr
  exact List.mem_of_getElem? (List.map_inj_left.mp key r hr)
theorem p_lt_eq : p_lt = p_ltR.map (fun r => (r.1, r.2.1, r.2.2.1)) := by decide +kernel
theorem p_it_eq : p_it = p_itR.map (fun r => (r.1, r.2.1, r.2.2.1)) := by decide +kernel
set_option maxRecDepth 100000 in
theorem p_dc0 : (List.range 10).map (fun k => ((p_cl 0).2.1 k).1) = (List.range 10).map (fun _ => (p_cl 0).1) := rfl
set_option maxRecDepth 100000 in
theorem p_u0 : [373, 375, 377, 379, 381, 383, 385, 387, 389, 391].map (fun k => lw_tbl[k]?) = (u_ws (p_cl 0).1 (p_cl 0).2.1 (p_cl 0).2.2).map some := rfl
set_option maxRecDepth 100000 in
theorem p_dc1 : (List.range 3).map (fun k => ((p_cl 1).2.1 k).1) = (List.range 3).map (fun _ => (p_cl 1).1) := rfl
set_option maxRecDepth 100000 in
theorem p_u1 : [476, 478, 480].map (fun k => lw_tbl[k]?) = (u_ws (p_cl 1).1 (p_cl 1).2.1 (p_cl 1).2.2).map some := rfl
set_option maxRecDepth 100000 in
theorem p_dc2 : (List.range 2).map (fun k => ((p_cl 2).2.1 k).1) = (List.range 2).map (fun _ => (p_cl 2).1) := rfl
set_option maxRecDepth 100000 in
theorem p_u2 : [536, 538].map (fun k => lw_tbl[k]?) = (u_ws (p_cl 2).1 (p_cl 2).2.1 (p_cl 2).2.2).map some := rfl
set_option maxRecDepth 100000 in
theorem p_dc3 : (List.range 18).map (fun k => ((p_cl 3).2.1 k).1) = (List.range 18).map (fun _ => (p_cl 3).1) := rfl
set_option maxRecDepth 100000 in
theorem p_u3 : [249, 251, 253, 255, 257, 259, 261, 263, 265, 267, 269, 271, 273, 275, 277, 279, 281, 283].map (fun k => lw_tbl[k]?) = (u_ws (p_cl 3).1 (p_cl 3).2.1 (p_cl 3).2.2).map some := rfl
set_option maxRecDepth 100000 in
theorem p_dc4 : (List.range 6).map (fun k => ((p_cl 4).2.1 k).1) = (List.range 6).map (fun _ => (p_cl 4).1) := rfl
set_option maxRecDepth 100000 in
theorem p_u4 : [436, 438, 440, 442, 444, 446].map (fun k => lw_tbl[k]?) = (u_ws (p_cl 4).1 (p_cl 4).2.1 (p_cl 4).2.2).map some := rfl
set_option maxRecDepth 100000 in
theorem p_dc5 : (List.range 6).map (fun k => ((p_cl 5).2.1 k).1) = (List.range 6).map (fun _ => (p_cl 5).1) := rfl
set_option maxRecDepth 100000 in
theorem p_u5 : [408, 410, 412, 414, 416, 418].map (fun k => lw_tbl[k]?) = (u_ws (p_cl 5).1 (p_cl 5).2.1 (p_cl 5).2.2).map some := rfl
set_option maxRecDepth 100000 in
theorem p_dc6 : (List.range 8).map (fun k => ((p_cl 6).2.1 k).1) = (List.range 8).map (fun _ => (p_cl 6).1) := rfl
set_option maxRecDepth 100000 in
theorem p_u6 : [507, 509, 511, 513, 515, 517, 519, 521].map (fun k => lw_tbl[k]?) = (u_ws (p_cl 6).1 (p_cl 6).2.1 (p_cl 6).2.2).map some := rfl
set_option maxRecDepth 100000 in
theorem p_dc7 : (List.range 12).map (fun k => ((p_cl 7).2.1 k).1) = (List.range 12).map (fun _ => (p_cl 7).1) := rfl
set_option maxRecDepth 100000 in
theorem p_u7 : [163, 165, 167, 169, 171, 173, 175, 177, 179, 181, 183, 185].map (fun k => lw_tbl[k]?) = (u_ws (p_cl 7).1 (p_cl 7).2.1 (p_cl 7).2.2).map some := rfl
set_option maxRecDepth 100000 in
theorem p_dc8 : (List.range 8).map (fun k => ((p_cl 8).2.1 k).1) = (List.range 8).map (fun _ => (p_cl 8).1) := rfl
set_option maxRecDepth 100000 in
theorem p_u8 : [326, 328, 330, 332, 334, 336, 338, 340].map (fun k => lw_tbl[k]?) = (u_ws (p_cl 8).1 (p_cl 8).2.1 (p_cl 8).2.2).map some := rfl
set_option maxRecDepth 100000 in
theorem p_dc9 : (List.range 3).map (fun k => ((p_cl 9).2.1 k).1) = (List.range 3).map (fun _ => (p_cl 9).1) := rfl
set_option maxRecDepth 100000 in
theorem p_u9 : [455, 457, 459].map (fun k => lw_tbl[k]?) = (u_ws (p_cl 9).1 (p_cl 9).2.1 (p_cl 9).2.2).map some := rfl
set_option maxRecDepth 100000 in
theorem p_dc10 : (List.range 11).map (fun k => ((p_cl 10).2.1 k).1) = (List.range 11).map (fun _ => (p_cl 10).1) := rfl
set_option maxRecDepth 100000 in
theorem p_u10 : [552, 554, 556, 558, 560, 562, 564, 566, 568, 570, 572].map (fun k => lw_tbl[k]?) = (u_ws (p_cl 10).1 (p_cl 10).2.1 (p_cl 10).2.2).map some := rfl
set_option maxRecDepth 100000 in
theorem p_dc11 : (List.range 42).map (fun k => ((p_cl 11).2.1 k).1) = (List.range 42).map (fun _ => (p_cl 11).1) := rfl
set_option maxRecDepth 100000 in
theorem p_u11 : [1458, 1460, 1462, 1464, 1466, 1468, 1470, 1472, 1474, 1476, 1478, 1480, 1482, 1484, 1486, 1488, 1490, 1492, 1494, 1496, 1498, 1500, 1502, 1504, 1506, 1508, 1510, 1512, 1514, 1516, 1518, 1520, 1522, 1524, 1526, 1528, 1530, 1532, 1534, 1536, 1538, 1540].map (fun k => lw_tbl[k]?) = (u_ws (p_cl 11).1 (p_cl 11).2.1 (p_cl 11).2.2).map some := rfl
