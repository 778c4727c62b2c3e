def p_ftR0 : List (Nat × Nat × Nat × Nat × Nat) := [(11, 10, 10, 0, 541), (11, 19, 10, 1, 542), (11, 23, 10, 2, 543), (11, 27, 10, 3, 544), (11, 34, 10, 4, 545), (11, 41, 10, 5, 546), (11, 48, 10, 6, 547), (11, 55, 10, 7, 548), (11, 62, 10, 8, 549), (11, 69, 10, 9, 550), (11, 88, 10, 10, 551), (0, 9, 0, 4, 360), (0, 15, 0, 7, 369), (0, 19, 0, 8, 371), (0, 22, 0, 9, 372), (0, 25, 0, 0, 350), (0, 28, 0, 1, 353), (0, 31, 0, 2, 355), (0, 34, 0, 3, 357), (0, 37, 0, 5, 363), (0, 44, 0, 6, 366), (1, 11, 1, 0, 472), (1, 18, 1, 1, 473), (1, 22, 1, 2, 474), (2, 7, 2, 0, 532), (2, 13, 2, 1, 534), (3, 9, 3, 8, 226), (3, 15, 3, 9, 229), (3, 19, 3, 10, 231), (3, 22, 3, 11, 235), (3, 26, 3, 12, 237), (3, 29, 3, 13, 238), (3, 32, 3, 14, 240), (3, 35, 3, 15, 242), (3, 38, 3, 16, 244), (3, 41, 3, 17, 247), (3, 47, 3, 0, 205), (3, 51, 3, 1, 207), (3, 54, 3, 2, 210), (3, 57, 3, 3, 213)]
set_option maxRecDepth 100000 in
set_option maxHeartbeats 4000000 in
theorem p_ftR0_w0 : p_ftR0.map (fun r => lw_tbl[r.2.2.2.2]?) = p_ftR0.map (fun r => some (Cond.fieldLink (p_own r.1) r.2.1 (p_cl r.2.2.1).1 ((p_cl r.2.2.1).2.1 r.2.2.2.1).2.1 ((p_cl r.2.2.1).2.1 r.2.2.2.1).2.2.1)) := rfl
theorem p_ftR0_ok : (p_ftR0.all fun r => decide (r.2.2.1 < 12) && decide (r.2.2.2.1 < (p_cl r.2.2.1).2.2)) = true := by decide +kernel
def p_ftR1 : List (Nat × Nat × Nat × Nat × Nat) := [(3, 60, 3, 4, 216), (3, 64, 3, 5, 217), (3, 67, 3, 6, 218), (3, 70, 3, 7, 223), (4, 13, 4, 2, 432), (4, 17, 4, 3, 433), (4, 21, 4, 4, 434), (4, 24, 4, 5, 435), (4, 27, 4, 0, 429), (4, 31, 4, 1, 431), (5, 9, 5, 1, 397), (5, 15, 5, 2, 399), (5, 20, 5, 3, 401), (5, 27, 5, 4, 404), (5, 32, 5, 5, 406), (5, 36, 5, 0, 394), (6, 11, 6, 1, 495), (6, 17, 6, 2, 496), (6, 21, 6, 0, 494), (6, 108, 6, 4, 499), (6, 111, 6, 5, 501), (6, 118, 6, 3, 497), (6, 125, 6, 6, 503), (6, 128, 6, 7, 505), (7, 9, 7, 0, 143), (7, 21, 7, 6, 151), (7, 26, 7, 1, 145), (7, 30, 7, 2, 146), (7, 33, 7, 3, 147), (7, 36, 7, 10, 160), (7, 39, 7, 11, 162), (7, 55, 7, 4, 148), (7, 58, 7, 5, 149), (7, 71, 7, 9, 157), (7, 77, 7, 7, 154), (7, 81, 7, 8, 156), (8, 9, 8, 0, 302), (8, 15, 8, 1, 306), (8, 19, 8, 2, 309), (8, 22, 8, 3, 312)]
set_option maxRecDepth 100000 in
set_option maxHeartbeats 4000000 in
theorem p_ftR1_w0 : p_ftR1.map (fun r => lw_tbl[r.2.2.2.2]?) = p_ftR1.map (fun r => some (Cond.fieldLink (p_own r.1) r.2.1 (p_cl r.2.2.1).1 ((p_cl r.2.2.1).2.1 r.2.2.2.1).2.1 ((p_cl r.2.2.1).2.1 r.2.2.2.1).2.2.1)) := rfl
theorem p_ftR1_ok : (p_ftR1.all fun r => decide (r.2.2.1 < 12) && decide (r.2.2.2.1 < (p_cl r.2.2.1).2.2)) = true := by decide +kernel
def p_ftR2 : List (Nat × Nat × Nat × Nat × Nat) := [(8, 25, 8, 4, 316), (8, 28, 8, 5, 318), (8, 31, 8, 6, 322), (8, 34, 8, 7, 324), (10, 10, 9, 0, 449), (10, 19, 9, 1, 451), (10, 26, 9, 2, 453), (12, 1, 11, 0, 1416), (12, 7, 11, 2, 1418), (12, 14, 11, 1, 1417), (12, 18, 11, 3, 1419), (12, 21, 11, 4, 1420), (12, 24, 11, 5, 1421), (12, 33, 11, 6, 1422), (12, 37, 11, 7, 1423), (12, 40, 11, 8, 1424), (12, 43, 11, 9, 1425), (12, 47, 11, 10, 1426), (12, 50, 11, 21, 1437), (12, 53, 11, 22, 1438), (12, 56, 11, 24, 1440), (12, 59, 11, 30, 1446), (12, 62, 11, 32, 1448), (12, 65, 11, 38, 1454), (12, 69, 11, 39, 1455), (12, 72, 11, 40, 1456), (12, 75, 11, 41, 1457), (12, 138, 11, 12, 1428), (12, 141, 11, 13, 1429), (12, 144, 11, 11, 1427), (12, 154, 11, 14, 1430), (12, 157, 11, 17, 1433), (12, 161, 11, 15, 1431), (12, 164, 11, 16, 1432), (12, 180, 11, 18, 1434), (12, 195, 11, 20, 1436), (12, 229, 11, 19, 1435), (12, 238, 11, 23, 1439), (12, 331, 11, 25, 1441), (12, 334, 11, 26, 1442)]
set_option maxRecDepth 100000 in
set_option maxHeartbeats 4000000 in
theorem p_ftR2_w0 : p_ftR2.map (fun r => lw_tbl[r.2.2.2.2]?) = p_ftR2.map (fun r => some (Cond.fieldLink (p_own r.1) r.2.1 (p_cl r.2.2.1).1 ((p_cl r.2.2.1).2.1 r.2.2.2.1).2.1 ((p_cl r.2.2.1).2.1 r.2.2.2.1).2.2.1)) := rfl
theorem p_ftR2_ok : (p_ftR2.all fun r => decide (r.2.2.1 < 12) && decide (r.2.2.2.1 < (p_cl r.2.2.1).2.2)) = true := by decide +kernel
def p_ftR3 : List (Nat × Nat × Nat × Nat × Nat) := [(12, 340, 11, 27, 1443), (12, 356, 11, 28, 1444), (12, 369, 11, 29, 1445), (12, 378, 11, 31, 1447), (12, 382, 11, 33, 1449), (12, 385, 11, 35, 1451), (12, 392, 11, 36, 1452), (12, 398, 11, 34, 1450), (12, 401, 11, 37, 1453)]
set_option maxRecDepth 100000 in
set_option maxHeartbeats 4000000 in
theorem p_ftR3_w0 : p_ftR3.map (fun r => lw_tbl[r.2.2.2.2]?) = p_ftR3.map (fun r => some (Cond.fieldLink (p_own r.1) r.2.1 (p_cl r.2.2.1).1 ((p_cl r.2.2.1).2.1 r.2.2.2.1).2.1 ((p_cl r.2.2.1).2.1 r.2.2.2.1).2.2.1)) := rfl
theorem p_ftR3_ok : (p_ftR3.all fun r => decide (r.2.2.1 < 12) && decide (r.2.2.2.1 < (p_cl r.2.2.1).2.2)) = true := by decide +kernel
def p_ftR : List (Nat × Nat × Nat × Nat × Nat) := p_ftR0 ++ (p_ftR1 ++ (p_ftR2 ++ (p_ftR3)))
theorem p_ftR_w0 : ∀ r ∈ p_ftR, Cond.fieldLink (p_own r.1) r.2.1 (p_cl r.2.2.1).1 ((p_cl r.2.2.1).2.1 r.2.2.2.1).2.1 ((p_cl r.2.2.1).2.1 r.2.2.2.1).2.2.1 ∈ lw_tbl := by
  have key : p_ftR.map (fun r => lw_tbl[r.2.2.2.2]?) = p_ftR.map (fun r => some (Cond.fieldLink (p_own r.1) r.2.1 (p_cl r.2.2.1).1 ((p_cl r.2.2.1).2.1 r.2.2.2.1).2.1 ((p_cl r.2.2.1).2.1 r.2.2.2.1).2.2.1)) := by
    unfold p_ftR
    simp only [List.map_append, p_ftR0_w0, p_ftR1_w0, p_ftR2_w0, p_ftR3_w0]
  intro r hr
  exact List.mem_of_getElem? (List.map_inj_left.mp key r hr)
theorem p_ftR_ok : (p_ftR.all fun r => decide (r.2.2.1 < 12) && decide (r.2.2.2.1 < (p_cl r.2.2.1).2.2)) = true := by
  unfold p_ftR
  simp only [List.all_append, Bool.and_true, p_ftR0_ok, p_ftR1_ok, p_ftR2_ok, p_ftR3_ok]
theorem p_ft_eq : p_ft = p_ftR.map (fun r => (r.1, r.2.1, r.2.2.1, r.2.2.2.1)) := by decide +kernel
def p_fNR0 : List (Nat × Nat × Nat × Nat × Nat) := [(11, 73, 7, 1, 144), (11, 85, 7, 10, 159), (11, 91, 7, 11, 161), (11, 94, 9, 0, 450), (11, 101, 9, 1, 452), (11, 107, 9, 2, 454), (11, 114, 3, 0, 206), (11, 123, 4, 0, 430), (11, 136, 3, 6, 220), (11, 153, 6, 3, 498), (11, 157, 6, 4, 500), (11, 160, 6, 5, 502), (11, 163, 6, 6, 504), (11, 166, 6, 7, 506), (11, 176, 5, 3, 402), (11, 179, 8, 0, 304), (11, 184, 3, 10, 232), (11, 188, 8, 1, 308), (11, 191, 8, 2, 311), (11, 194, 8, 3, 314), (11, 197, 8, 5, 319), (11, 200, 8, 6, 323), (11, 206, 5, 4, 405), (11, 210, 0, 0, 351), (11, 213, 0, 1, 354), (11, 215, 0, 2, 356), (11, 218, 0, 3, 359), (11, 221, 0, 4, 362), (11, 224, 0, 5, 364), (11, 227, 0, 6, 367), (11, 230, 5, 0, 396), (11, 233, 5, 1, 398), (11, 236, 5, 2, 400), (11, 249, 3, 7, 225), (11, 251, 3, 1, 209), (11, 254, 3, 2, 211), (11, 257, 3, 3, 215), (11, 264, 5, 5, 407), (11, 308, 1, 2, 475), (11, 321, 3, 16, 246)]
set_option maxRecDepth 100000 in
set_option maxHeartbeats 4000000 in
theorem p_fNR0_w0 : p_fNR0.map (fun r => lw_tbl[r.2.2.2.2]?) = p_fNR0.map (fun r => some (Cond.fieldLinkNest (p_own r.1) r.2.1 (p_cl r.2.2.1).1 ((p_cl r.2.2.1).2.1 r.2.2.2.1).2.1 ((p_cl r.2.2.1).2.1 r.2.2.2.1).2.2.1 RX11)) := rfl
theorem p_fNR0_ok : (p_fNR0.all fun r => decide (r.2.2.1 < 12) && decide (r.2.2.2.1 < (p_cl r.2.2.1).2.2)) = true := by decide +kernel
def p_fNR1 : List (Nat × Nat × Nat × Nat × Nat) := [(11, 359, 2, 0, 533), (11, 363, 2, 1, 535), (3, 150, 7, 7, 155), (3, 160, 7, 5, 150), (4, 123, 7, 6, 153), (4, 126, 3, 8, 228), (4, 132, 3, 6, 221), (4, 139, 7, 9, 158), (4, 153, 5, 3, 403), (4, 158, 8, 4, 317), (4, 164, 8, 3, 315), (4, 173, 3, 2, 212), (4, 176, 8, 0, 305), (4, 183, 3, 10, 234), (4, 186, 8, 5, 320), (5, 39, 3, 9, 230), (5, 44, 3, 11, 236), (5, 52, 3, 7, 224), (5, 54, 3, 13, 239), (5, 57, 3, 14, 241), (5, 76, 8, 0, 303), (5, 84, 8, 3, 313), (5, 88, 8, 2, 310), (5, 91, 0, 3, 358), (5, 94, 0, 4, 361), (5, 112, 8, 1, 307), (5, 117, 3, 6, 222), (5, 119, 3, 10, 233), (5, 122, 3, 1, 208), (5, 133, 3, 3, 214), (5, 136, 8, 7, 325), (5, 151, 0, 5, 365), (5, 154, 3, 16, 245), (5, 165, 0, 6, 368), (5, 171, 3, 15, 243), (5, 174, 3, 17, 248), (5, 181, 8, 5, 321), (5, 191, 0, 0, 352), (5, 192, 0, 7, 370), (6, 68, 3, 8, 227)]
set_option maxRecDepth 100000 in
set_option maxHeartbeats 4000000 in
theorem p_fNR1_w0 : p_fNR1.map (fun r => lw_tbl[r.2.2.2.2]?) = p_fNR1.map (fun r => some (Cond.fieldLinkNest (p_own r.1) r.2.1 (p_cl r.2.2.1).1 ((p_cl r.2.2.1).2.1 r.2.2.2.1).2.1 ((p_cl r.2.2.1).2.1 r.2.2.2.1).2.2.1 RX11)) := rfl
theorem p_fNR1_ok : (p_fNR1.all fun r => decide (r.2.2.1 < 12) && decide (r.2.2.2.1 < (p_cl r.2.2.1).2.2)) = true := by decide +kernel
def p_fNR2 : List (Nat × Nat × Nat × Nat × Nat) := [(6, 74, 3, 6, 219), (6, 84, 7, 6, 152), (6, 122, 5, 0, 395)]
set_option maxRecDepth 100000 in
set_option maxHeartbeats 4000000 in
theorem p_fNR2_w0 : p_fNR2.map (fun r => lw_tbl[r.2.2.2.2]?) = p_fNR2.map (fun r => some (Cond.fieldLinkNest (p_own r.1) r.2.1 (p_cl r.2.2.1).1 ((p_cl r.2.2.1).2.1 r.2.2.2.1).2.1 ((p_cl r.2.2.1).2.1 r.2.2.2.1).2.2.1 RX11)) := rfl
theorem p_fNR2_ok : (p_fNR2.all fun r => decide (r.2.2.1 < 12) && decide (r.2.2.2.1 < (p_cl r.2.2.1).2.2)) = true := by decide +kernel
def p_fNR : List (Nat × Nat × Nat × Nat × Nat) := p_fNR0 ++ (p_fNR1 ++ (p_fNR2))
theorem p_fNR_w0 : ∀ r ∈ p_fNR, Cond.fieldLinkNest (p_own r.1) r.2.1 (p_cl r.2.2.1).1 ((p_cl r.2.2.1).2.1 r.2.2.2.1).2.1 ((p_cl r.2.2.1).2.1 r.2.2.2.1).2.2.1 RX11 ∈ lw_tbl := by
  have key : p_fNR.map (fun r => lw_tbl[r.2.2.2.2]?) = p_fNR.map (fun r => some (Cond.fieldLinkNest (p_own r.1) r.2.1 (p_cl r.2.2.1).1 ((p_cl r.2.2.1).2.1 r.2.2.2.1).2.1 ((p_cl r.2.2.1).2.1 r.2.2.2.1).2.2.1 RX11)) := by
    unfold p_fNR
    simp only [List.map_append, p_fNR0_w0, p_fNR1_w0, p_fNR2_w0]
  intro r hr
  exact List.mem_of_getElem? (List.map_inj_left.mp key r hr)
theorem p_fNR_ok : (p_fNR.all fun r => decide (r.2.2.1 < 12) && decide (r.2.2.2.1 < (p_cl r.2.2.1).2.2)) = true := by
  unfold p_fNR
  simp only [List.all_append, Bool.and_true, p_fNR0_ok, p_fNR1_ok, p_fNR2_ok]
theorem p_fN_eq : p_fN = p_fNR.map (fun r => (r.1, r.2.1, r.2.2.1, r.2.2.2.1)) := by decide +kernel
def p_stR0 : List (Nat × Nat × Nat × Nat) := [(11, 273, 11, 1070), (11, 283, 12, 1081), (11, 286, 13, 1086), (11, 289, 14, 1091), (11, 292, 15, 1096), (3, 94, 0, 641), (3, 107, 1, 660), (3, 113, 2, 666), (3, 119, 3, 672), (3, 125, 5, 692), (3, 131, 10, 714), (3, 154, 4, 685), (3, 175, 6, 706), (3, 178, 7, 708), (3, 181, 8, 710), (3, 184, 9, 712), (4, 54, 17, 825), (4, 69, 18, 823), (4, 80, 19, 790), (4, 99, 23, 793), (4, 102, 20, 795), (4, 105, 21, 797), (4, 108, 22, 799), (4, 111, 24, 801), (4, 114, 25, 803), (4, 117, 26, 805), (4, 120, 27, 807), (5, 97, 11, 990), (5, 103, 12, 991), (5, 106, 15, 992), (5, 109, 13, 997), (5, 114, 14, 998), (6, 35, 16, 879), (6, 87, 11, 897), (6, 90, 12, 899), (6, 93, 13, 901), (6, 96, 14, 903), (6, 99, 15, 905), (7, 15, 0, 141)]
set_option maxRecDepth 100000 in
set_option maxHeartbeats 4000000 in
theorem p_stR0_w0 : p_stR0.map (fun r => lw_tbl[r.2.2.2]?) = p_stR0.map (fun r => some (Cond.fieldLink (p_own r.1) r.2.1 RX9 (p_nm.getD r.2.2.1 "") "LBetweenThem$Word;")) := rfl
theorem p_stR0_ok : (p_stR0.all fun r => decide (r.2.2.1 < 28)) = true := by decide +kernel
def p_stR : List (Nat × Nat × Nat × Nat) := p_stR0
theorem p_stR_w0 : ∀ r ∈ p_stR, Cond.fieldLink (p_own r.1) r.2.1 RX9 (p_nm.getD r.2.2.1 "") "LBetweenThem$Word;" ∈ lw_tbl := by
  have key : p_stR.map (fun r => lw_tbl[r.2.2.2]?) = p_stR.map (fun r => some (Cond.fieldLink (p_own r.1) r.2.1 RX9 (p_nm.getD r.2.2.1 "") "LBetweenThem$Word;")) := by
    unfold p_stR
    simp only [List.map_append, p_stR0_w0]
  intro r hr
  exact List.mem_of_getElem? (List.map_inj_left.mp key r hr)
theorem p_stR_ok : (p_stR.all fun r => decide (r.2.2.1 < 28)) = true := p_stR0_ok
theorem p_st_eq : p_st = p_stR.map (fun r => (r.1, r.2.1, r.2.2.1)) := by decide +kernel
