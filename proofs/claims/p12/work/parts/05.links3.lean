def p_okC (o : Nat) : Bool := decide (p_own o ≠ "java/lang/invoke/MethodHandle") && decide (p_own o ≠ "java/lang/invoke/VarHandle") && decide (plainName (p_own o) = true)
theorem p_okC_ok : ((List.range 15).all p_okC) = true := by decide +kernel
def p_kR0 : List (Nat × Nat × Nat) := [(0, 348, 114), (1, 747, 114), (2, 751, 114), (3, 924, 114), (4, 972, 114), (5, 977, 114), (6, 981, 114), (7, 985, 114), (8, 1053, 114), (9, 1065, 114), (10, 1057, 114), (11, 467, 116), (12, 759, 116), (13, 1002, 116), (14, 1128, 116), (15, 530, 118), (16, 1344, 118), (17, 1348, 118), (18, 1351, 118), (19, 199, 111)]
set_option maxRecDepth 100000 in
set_option maxHeartbeats 4000000 in
theorem p_kR0_w0 : p_kR0.map (fun r => lw_tbl[r.2.1]?) = p_kR0.map (fun r => some (Cond.code (p_mY r.1) (p_mC r.1) (p_mL r.1) (p_mR r.1))) := rfl
set_option maxRecDepth 100000 in
set_option maxHeartbeats 4000000 in
theorem p_kR0_w1 : p_kR0.map (fun r => lw_tbl[r.2.2]?) = p_kR0.map (fun r => some (Cond.initialized (p_mY r.1).cls)) := rfl
theorem p_kR0_ok : (p_kR0.all fun r => decide ((parseMethodDescriptor (p_mY r.1).desc).map (fun d => d.parameters.length) = some (p_mN r.1)) && decide (p_mL r.1 ≤ 40) && decide (p_mK r.1 < 15)) = true := by decide +kernel
def p_kR1 : List (Nat × Nat × Nat) := [(20, 204, 111), (21, 735, 111), (22, 594, 111), (23, 640, 111), (24, 649, 111), (25, 665, 111), (26, 671, 111), (27, 677, 111), (28, 681, 111), (29, 697, 111), (30, 705, 111), (31, 719, 111), (32, 425, 115), (33, 755, 115), (34, 831, 115), (35, 771, 115), (36, 777, 115), (37, 781, 115), (38, 785, 115), (39, 788, 115)]
set_option maxRecDepth 100000 in
set_option maxHeartbeats 4000000 in
theorem p_kR1_w0 : p_kR1.map (fun r => lw_tbl[r.2.1]?) = p_kR1.map (fun r => some (Cond.code (p_mY r.1) (p_mC r.1) (p_mL r.1) (p_mR r.1))) := rfl
set_option maxRecDepth 100000 in
set_option maxHeartbeats 4000000 in
theorem p_kR1_w1 : p_kR1.map (fun r => lw_tbl[r.2.2]?) = p_kR1.map (fun r => some (Cond.initialized (p_mY r.1).cls)) := rfl
theorem p_kR1_ok : (p_kR1.all fun r => decide ((parseMethodDescriptor (p_mY r.1).desc).map (fun d => d.parameters.length) = some (p_mN r.1)) && decide (p_mL r.1 ≤ 40) && decide (p_mK r.1 < 15)) = true := by decide +kernel
def p_kR2 : List (Nat × Nat × Nat) := [(40, 820, 115), (41, 814, 115), (42, 839, 115), (43, 843, 115), (44, 847, 115), (45, 862, 115), (46, 293, 112), (47, 739, 112), (48, 916, 112), (49, 855, 112), (50, 1015, 112), (51, 1019, 112), (52, 936, 112), (53, 851, 112), (54, 989, 112), (55, 996, 112), (56, 944, 112), (57, 1105, 112), (58, 1114, 112), (59, 1119, 112)]
set_option maxRecDepth 100000 in
set_option maxHeartbeats 4000000 in
theorem p_kR2_w0 : p_kR2.map (fun r => lw_tbl[r.2.1]?) = p_kR2.map (fun r => some (Cond.code (p_mY r.1) (p_mC r.1) (p_mL r.1) (p_mR r.1))) := rfl
set_option maxRecDepth 100000 in
set_option maxHeartbeats 4000000 in
theorem p_kR2_w1 : p_kR2.map (fun r => lw_tbl[r.2.2]?) = p_kR2.map (fun r => some (Cond.initialized (p_mY r.1).cls)) := rfl
theorem p_kR2_ok : (p_kR2.all fun r => decide ((parseMethodDescriptor (p_mY r.1).desc).map (fun d => d.parameters.length) = some (p_mN r.1)) && decide (p_mL r.1 ≤ 40) && decide (p_mK r.1 < 15)) = true := by decide +kernel
def p_kR3 : List (Nat × Nat × Nat) := [(60, 957, 112), (61, 961, 112), (62, 965, 112), (63, 968, 112), (64, 1236, 112), (65, 491, 117), (66, 876, 117), (67, 885, 117), (68, 892, 117), (69, 896, 117), (70, 932, 117), (71, 940, 117), (72, 139, 107), (73, 622, 107), (74, 582, 107), (75, 609, 107), (76, 598, 107), (77, 602, 107), (78, 619, 107), (79, 627, 107)]
set_option maxRecDepth 100000 in
set_option maxHeartbeats 4000000 in
theorem p_kR3_w0 : p_kR3.map (fun r => lw_tbl[r.2.1]?) = p_kR3.map (fun r => some (Cond.code (p_mY r.1) (p_mC r.1) (p_mL r.1) (p_mR r.1))) := rfl
set_option maxRecDepth 100000 in
set_option maxHeartbeats 4000000 in
theorem p_kR3_w1 : p_kR3.map (fun r => lw_tbl[r.2.2]?) = p_kR3.map (fun r => some (Cond.initialized (p_mY r.1).cls)) := rfl
theorem p_kR3_ok : (p_kR3.all fun r => decide ((parseMethodDescriptor (p_mY r.1).desc).map (fun d => d.parameters.length) = some (p_mN r.1)) && decide (p_mL r.1 ≤ 40) && decide (p_mK r.1 < 15)) = true := by decide +kernel
def p_kR4 : List (Nat × Nat × Nat) := [(80, 612, 107), (81, 615, 107), (82, 632, 107), (83, 653, 107), (84, 636, 107), (85, 731, 107), (86, 645, 107), (87, 727, 107), (88, 690, 107), (89, 723, 107), (90, 658, 107), (91, 701, 107), (92, 684, 107), (93, 300, 113), (94, 743, 113), (95, 920, 113), (96, 948, 113), (97, 193, 110), (98, 1136, 110), (99, 131, 106)]
set_option maxRecDepth 100000 in
set_option maxHeartbeats 4000000 in
theorem p_kR4_w0 : p_kR4.map (fun r => lw_tbl[r.2.1]?) = p_kR4.map (fun r => some (Cond.code (p_mY r.1) (p_mC r.1) (p_mL r.1) (p_mR r.1))) := rfl
set_option maxRecDepth 100000 in
set_option maxHeartbeats 4000000 in
theorem p_kR4_w1 : p_kR4.map (fun r => lw_tbl[r.2.2]?) = p_kR4.map (fun r => some (Cond.initialized (p_mY r.1).cls)) := rfl
theorem p_kR4_ok : (p_kR4.all fun r => decide ((parseMethodDescriptor (p_mY r.1).desc).map (fun d => d.parameters.length) = some (p_mN r.1)) && decide (p_mL r.1 ≤ 40) && decide (p_mK r.1 < 15)) = true := by decide +kernel
def p_kR5 : List (Nat × Nat × Nat) := [(100, 578, 106), (101, 586, 106), (102, 590, 106), (103, 763, 106), (104, 767, 106), (105, 835, 106), (106, 872, 106), (107, 1007, 106), (108, 1261, 106), (109, 1329, 106), (110, 1011, 106), (111, 1024, 106), (112, 1028, 106), (113, 1037, 106), (114, 1041, 106), (115, 1045, 106), (116, 1061, 106), (117, 1069, 106), (118, 1080, 106), (119, 1085, 106)]
set_option maxRecDepth 100000 in
set_option maxHeartbeats 4000000 in
theorem p_kR5_w0 : p_kR5.map (fun r => lw_tbl[r.2.1]?) = p_kR5.map (fun r => some (Cond.code (p_mY r.1) (p_mC r.1) (p_mL r.1) (p_mR r.1))) := rfl
set_option maxRecDepth 100000 in
set_option maxHeartbeats 4000000 in
theorem p_kR5_w1 : p_kR5.map (fun r => lw_tbl[r.2.2]?) = p_kR5.map (fun r => some (Cond.initialized (p_mY r.1).cls)) := rfl
theorem p_kR5_ok : (p_kR5.all fun r => decide ((parseMethodDescriptor (p_mY r.1).desc).map (fun d => d.parameters.length) = some (p_mN r.1)) && decide (p_mL r.1 ≤ 40) && decide (p_mK r.1 < 15)) = true := by decide +kernel
def p_kR6 : List (Nat × Nat × Nat) := [(120, 1090, 106), (121, 1095, 106), (122, 1100, 106), (123, 1110, 106), (124, 1124, 106), (125, 1132, 106), (126, 1143, 106), (127, 1147, 106), (128, 1152, 106), (129, 1156, 106), (130, 1160, 106), (131, 1165, 106), (132, 1169, 106), (133, 1181, 106), (134, 1185, 106), (135, 1189, 106), (136, 1203, 106), (137, 1215, 106), (138, 1336, 106), (139, 1358, 106)]
set_option maxRecDepth 100000 in
set_option maxHeartbeats 4000000 in
theorem p_kR6_w0 : p_kR6.map (fun r => lw_tbl[r.2.1]?) = p_kR6.map (fun r => some (Cond.code (p_mY r.1) (p_mC r.1) (p_mL r.1) (p_mR r.1))) := rfl
set_option maxRecDepth 100000 in
set_option maxHeartbeats 4000000 in
theorem p_kR6_w1 : p_kR6.map (fun r => lw_tbl[r.2.2]?) = p_kR6.map (fun r => some (Cond.initialized (p_mY r.1).cls)) := rfl
theorem p_kR6_ok : (p_kR6.all fun r => decide ((parseMethodDescriptor (p_mY r.1).desc).map (fun d => d.parameters.length) = some (p_mN r.1)) && decide (p_mL r.1 ≤ 40) && decide (p_mK r.1 < 15)) = true := by decide +kernel
def p_kR7 : List (Nat × Nat × Nat) := [(140, 1369, 106), (141, 1241, 106), (142, 1253, 106), (143, 1032, 106), (144, 1049, 106), (145, 1074, 106), (146, 912, 106), (147, 1173, 106), (148, 1177, 106), (149, 1193, 106), (150, 1199, 106), (151, 1211, 106), (152, 1207, 106), (153, 1219, 106), (154, 1223, 106), (155, 1227, 106), (156, 1231, 106), (157, 1245, 106), (158, 1249, 106), (159, 1340, 106)]
set_option maxRecDepth 100000 in
set_option maxHeartbeats 4000000 in
theorem p_kR7_w0 : p_kR7.map (fun r => lw_tbl[r.2.1]?) = p_kR7.map (fun r => some (Cond.code (p_mY r.1) (p_mC r.1) (p_mL r.1) (p_mR r.1))) := rfl
set_option maxRecDepth 100000 in
set_option maxHeartbeats 4000000 in
theorem p_kR7_w1 : p_kR7.map (fun r => lw_tbl[r.2.2]?) = p_kR7.map (fun r => some (Cond.initialized (p_mY r.1).cls)) := rfl
theorem p_kR7_ok : (p_kR7.all fun r => decide ((parseMethodDescriptor (p_mY r.1).desc).map (fun d => d.parameters.length) = some (p_mN r.1)) && decide (p_mL r.1 ≤ 40) && decide (p_mK r.1 < 15)) = true := by decide +kernel
def p_kR8 : List (Nat × Nat × Nat) := [(160, 1362, 106), (161, 1646, 119), (162, 1373, 119), (163, 1378, 119), (164, 1382, 119), (165, 1550, 119), (166, 1594, 119), (167, 1579, 119), (168, 1716, 119), (169, 1713, 119), (170, 1719, 119), (171, 1801, 119), (172, 1857, 119), (173, 1386, 119), (174, 1558, 119), (175, 1561, 119), (176, 1564, 119), (177, 1554, 119), (178, 1583, 119), (179, 1572, 119)]
set_option maxRecDepth 100000 in
set_option maxHeartbeats 4000000 in
theorem p_kR8_w0 : p_kR8.map (fun r => lw_tbl[r.2.1]?) = p_kR8.map (fun r => some (Cond.code (p_mY r.1) (p_mC r.1) (p_mL r.1) (p_mR r.1))) := rfl
set_option maxRecDepth 100000 in
set_option maxHeartbeats 4000000 in
theorem p_kR8_w1 : p_kR8.map (fun r => lw_tbl[r.2.2]?) = p_kR8.map (fun r => some (Cond.initialized (p_mY r.1).cls)) := rfl
theorem p_kR8_ok : (p_kR8.all fun r => decide ((parseMethodDescriptor (p_mY r.1).desc).map (fun d => d.parameters.length) = some (p_mN r.1)) && decide (p_mL r.1 ≤ 40) && decide (p_mK r.1 < 15)) = true := by decide +kernel
def p_kR9 : List (Nat × Nat × Nat) := [(180, 1630, 119), (181, 1626, 119), (182, 1606, 119), (183, 1591, 119), (184, 1587, 119), (185, 1610, 119), (186, 1602, 119), (187, 1618, 119), (188, 1576, 119), (189, 1568, 119), (190, 1598, 119), (191, 1622, 119), (192, 1614, 119), (193, 1546, 119), (194, 1634, 119), (195, 1642, 119), (196, 1654, 119), (197, 1762, 119), (198, 1754, 119), (199, 1638, 119)]
set_option maxRecDepth 100000 in
set_option maxHeartbeats 4000000 in
theorem p_kR9_w0 : p_kR9.map (fun r => lw_tbl[r.2.1]?) = p_kR9.map (fun r => some (Cond.code (p_mY r.1) (p_mC r.1) (p_mL r.1) (p_mR r.1))) := rfl
set_option maxRecDepth 100000 in
set_option maxHeartbeats 4000000 in
theorem p_kR9_w1 : p_kR9.map (fun r => lw_tbl[r.2.2]?) = p_kR9.map (fun r => some (Cond.initialized (p_mY r.1).cls)) := rfl
theorem p_kR9_ok : (p_kR9.all fun r => decide ((parseMethodDescriptor (p_mY r.1).desc).map (fun d => d.parameters.length) = some (p_mN r.1)) && decide (p_mL r.1 ≤ 40) && decide (p_mK r.1 < 15)) = true := by decide +kernel
def p_kR10 : List (Nat × Nat × Nat) := [(200, 1650, 119), (201, 1662, 119), (202, 1658, 119), (203, 1738, 119), (204, 1731, 119), (205, 1734, 119), (206, 1727, 119), (207, 1710, 119), (208, 1742, 119), (209, 1723, 119), (210, 1706, 119), (211, 1702, 119), (212, 1674, 119), (213, 1686, 119), (214, 1666, 119), (215, 1678, 119), (216, 1682, 119), (217, 1690, 119), (218, 1694, 119), (219, 1698, 119)]
set_option maxRecDepth 100000 in
set_option maxHeartbeats 4000000 in
theorem p_kR10_w0 : p_kR10.map (fun r => lw_tbl[r.2.1]?) = p_kR10.map (fun r => some (Cond.code (p_mY r.1) (p_mC r.1) (p_mL r.1) (p_mR r.1))) := rfl
set_option maxRecDepth 100000 in
set_option maxHeartbeats 4000000 in
theorem p_kR10_w1 : p_kR10.map (fun r => lw_tbl[r.2.2]?) = p_kR10.map (fun r => some (Cond.initialized (p_mY r.1).cls)) := rfl
theorem p_kR10_ok : (p_kR10.all fun r => decide ((parseMethodDescriptor (p_mY r.1).desc).map (fun d => d.parameters.length) = some (p_mN r.1)) && decide (p_mL r.1 ≤ 40) && decide (p_mK r.1 < 15)) = true := by decide +kernel
def p_kR11 : List (Nat × Nat × Nat) := [(220, 1670, 119), (221, 1746, 119), (222, 1766, 119), (223, 1770, 119), (224, 1750, 119), (225, 1758, 119), (226, 1774, 119), (227, 1778, 119), (228, 1782, 119), (229, 1786, 119), (230, 1790, 119), (231, 1798, 119), (232, 1809, 119), (233, 1813, 119), (234, 1794, 119), (235, 1805, 119), (236, 1817, 119), (237, 1829, 119), (238, 1825, 119), (239, 1821, 119)]
set_option maxRecDepth 100000 in
set_option maxHeartbeats 4000000 in
theorem p_kR11_w0 : p_kR11.map (fun r => lw_tbl[r.2.1]?) = p_kR11.map (fun r => some (Cond.code (p_mY r.1) (p_mC r.1) (p_mL r.1) (p_mR r.1))) := rfl
set_option maxRecDepth 100000 in
set_option maxHeartbeats 4000000 in
theorem p_kR11_w1 : p_kR11.map (fun r => lw_tbl[r.2.2]?) = p_kR11.map (fun r => some (Cond.initialized (p_mY r.1).cls)) := rfl
theorem p_kR11_ok : (p_kR11.all fun r => decide ((parseMethodDescriptor (p_mY r.1).desc).map (fun d => d.parameters.length) = some (p_mN r.1)) && decide (p_mL r.1 ≤ 40) && decide (p_mK r.1 < 15)) = true := by decide +kernel
def p_kR12 : List (Nat × Nat × Nat) := [(240, 1833, 119), (241, 1837, 119), (242, 1845, 119), (243, 1841, 119), (244, 1849, 119), (245, 1853, 119), (246, 1861, 119), (247, 1869, 119), (248, 1865, 119), (249, 1877, 119), (250, 1873, 119), (251, 1881, 119), (252, 1897, 119), (253, 1893, 119), (254, 1889, 119), (255, 1885, 119), (256, 1902, 119), (257, 1910, 119), (258, 1914, 119), (259, 1906, 119)]
set_option maxRecDepth 100000 in
set_option maxHeartbeats 4000000 in
theorem p_kR12_w0 : p_kR12.map (fun r => lw_tbl[r.2.1]?) = p_kR12.map (fun r => some (Cond.code (p_mY r.1) (p_mC r.1) (p_mL r.1) (p_mR r.1))) := rfl
set_option maxRecDepth 100000 in
set_option maxHeartbeats 4000000 in
theorem p_kR12_w1 : p_kR12.map (fun r => lw_tbl[r.2.2]?) = p_kR12.map (fun r => some (Cond.initialized (p_mY r.1).cls)) := rfl
theorem p_kR12_ok : (p_kR12.all fun r => decide ((parseMethodDescriptor (p_mY r.1).desc).map (fun d => d.parameters.length) = some (p_mN r.1)) && decide (p_mL r.1 ≤ 40) && decide (p_mK r.1 < 15)) = true := by decide +kernel
def p_kR13 : List (Nat × Nat × Nat) := [(260, 1918, 119), (261, 1930, 119), (262, 1934, 119), (263, 1926, 119), (264, 1946, 119), (265, 1942, 119), (266, 1938, 119), (267, 1922, 119), (268, 1962, 119), (269, 1958, 119), (270, 1954, 119), (271, 1950, 119), (272, 1966, 119), (273, 1970, 119), (274, 1974, 119), (275, 865, 126)]
set_option maxRecDepth 100000 in
set_option maxHeartbeats 4000000 in
theorem p_kR13_w0 : p_kR13.map (fun r => lw_tbl[r.2.1]?) = p_kR13.map (fun r => some (Cond.code (p_mY r.1) (p_mC r.1) (p_mL r.1) (p_mR r.1))) := rfl
set_option maxRecDepth 100000 in
set_option maxHeartbeats 4000000 in
theorem p_kR13_w1 : p_kR13.map (fun r => lw_tbl[r.2.2]?) = p_kR13.map (fun r => some (Cond.initialized (p_mY r.1).cls)) := rfl
theorem p_kR13_ok : (p_kR13.all fun r => decide ((parseMethodDescriptor (p_mY r.1).desc).map (fun d => d.parameters.length) = some (p_mN r.1)) && decide (p_mL r.1 ≤ 40) && decide (p_mK r.1 < 15)) = true := by decide +kernel
def p_kR : List (Nat × Nat × Nat) := p_kR0 ++ (p_kR1 ++ (p_kR2 ++ (p_kR3 ++ (p_kR4 ++ (p_kR5 ++ (p_kR6 ++ (p_kR7 ++ (p_kR8 ++ (p_kR9 ++ (p_kR10 ++ (p_kR11 ++ (p_kR12 ++ (p_kR13)))))))))))))
theorem p_kR_w0 : ∀ r ∈ p_kR, Cond.code (p_mY r.1) (p_mC r.1) (p_mL r.1) (p_mR r.1) ∈ lw_tbl := by
  have key : p_kR.map (fun r => lw_tbl[r.2.1]?) = p_kR.map (fun r => some (Cond.code (p_mY r.1) (p_mC r.1) (p_mL r.1) (p_mR r.1))) := by
    unfold p_kR
    simp only [List.map_append, p_kR0_w0, p_kR1_w0, p_kR2_w0, p_kR3_w0, p_kR4_w0, p_kR5_w0, p_kR6_w0, p_kR7_w0, p_kR8_w0, p_kR9_w0, p_kR10_w0, p_kR11_w0, p_kR12_w0, p_kR13_w0]
  intro r hr
  exact List.mem_of_getElem? (List.map_inj_left.mp key r hr)
theorem p_kR_w1 : ∀ r ∈ p_kR, Cond.initialized (p_mY r.1).cls ∈ lw_tbl := by
  have key : p_kR.map (fun r => lw_tbl[r.2.2]?) = p_kR.map (fun r => some (Cond.initialized (p_mY r.1).cls)) := by
    unfold p_kR
    simp only [List.map_append, p_kR0_w1, p_kR1_w1, p_kR2_w1, p_kR3_w1, p_kR4_w1, p_kR5_w1, p_kR6_w1, p_kR7_w1, p_kR8_w1, p_kR9_w1, p_kR10_w1, p_kR11_w1, p_kR12_w1, p_kR13_w1]
  intro r hr
  exact List.mem_of_getElem? (List.map_inj_left.mp key r hr)
theorem p_kR_ok : (p_kR.all fun r => decide ((parseMethodDescriptor (p_mY r.1).desc).map (fun d => d.parameters.length) = some (p_mN r.1)) && decide (p_mL r.1 ≤ 40) && decide (p_mK r.1 < 15)) = true := by
  unfold p_kR
  simp only [List.all_append, Bool.and_true, p_kR0_ok, p_kR1_ok, p_kR2_ok, p_kR3_ok, p_kR4_ok, p_kR5_ok, p_kR6_ok, p_kR7_ok, p_kR8_ok, p_kR9_ok, p_kR10_ok, p_kR11_ok, p_kR12_ok, p_kR13_ok]
set_option maxRecDepth 100000 in
theorem p_kR0_o : p_kR0.map (fun r => p_mO r.1) = p_kR0.map (fun r => (p_mY r.1).cls) := rfl
set_option maxRecDepth 100000 in
theorem p_kR1_o : p_kR1.map (fun r => p_mO r.1) = p_kR1.map (fun r => (p_mY r.1).cls) := rfl
set_option maxRecDepth 100000 in
theorem p_kR2_o : p_kR2.map (fun r => p_mO r.1) = p_kR2.map (fun r => (p_mY r.1).cls) := rfl
set_option maxRecDepth 100000 in
theorem p_kR3_o : p_kR3.map (fun r => p_mO r.1) = p_kR3.map (fun r => (p_mY r.1).cls) := rfl
set_option maxRecDepth 100000 in
theorem p_kR4_o : p_kR4.map (fun r => p_mO r.1) = p_kR4.map (fun r => (p_mY r.1).cls) := rfl
set_option maxRecDepth 100000 in
theorem p_kR5_o : p_kR5.map (fun r => p_mO r.1) = p_kR5.map (fun r => (p_mY r.1).cls) := rfl
set_option maxRecDepth 100000 in
theorem p_kR6_o : p_kR6.map (fun r => p_mO r.1) = p_kR6.map (fun r => (p_mY r.1).cls) := rfl
set_option maxRecDepth 100000 in
theorem p_kR7_o : p_kR7.map (fun r => p_mO r.1) = p_kR7.map (fun r => (p_mY r.1).cls) := rfl
set_option maxRecDepth 100000 in
theorem p_kR8_o : p_kR8.map (fun r => p_mO r.1) = p_kR8.map (fun r => (p_mY r.1).cls) := rfl
set_option maxRecDepth 100000 in
theorem p_kR9_o : p_kR9.map (fun r => p_mO r.1) = p_kR9.map (fun r => (p_mY r.1).cls) := rfl
set_option maxRecDepth 100000 in
theorem p_kR10_o : p_kR10.map (fun r => p_mO r.1) = p_kR10.map (fun r => (p_mY r.1).cls) := rfl
set_option maxRecDepth 100000 in
theorem p_kR11_o : p_kR11.map (fun r => p_mO r.1) = p_kR11.map (fun r => (p_mY r.1).cls) := rfl
set_option maxRecDepth 100000 in
theorem p_kR12_o : p_kR12.map (fun r => p_mO r.1) = p_kR12.map (fun r => (p_mY r.1).cls) := rfl
set_option maxRecDepth 100000 in
theorem p_kR13_o : p_kR13.map (fun r => p_mO r.1) = p_kR13.map (fun r => (p_mY r.1).cls) := rfl
theorem p_kR_o : ∀ r ∈ p_kR, p_mO r.1 = (p_mY r.1).cls := by
  have key : p_kR.map (fun r => p_mO r.1) = p_kR.map (fun r => (p_mY r.1).cls) := by
    unfold p_kR
    simp only [List.map_append, p_kR0_o, p_kR1_o, p_kR2_o, p_kR3_o, p_kR4_o, p_kR5_o, p_kR6_o, p_kR7_o, p_kR8_o, p_kR9_o, p_kR10_o, p_kR11_o, p_kR12_o, p_kR13_o]
  exact List.map_inj_left.mp key
def p_okK (k : Nat) : Bool := (p_kR.map (fun r => r.1)).contains k
def p_GW : List Cond := lw_tbl.filter goodWord
theorem p_gi {w : Cond} (h : w ∈ lw_tbl) (g : goodWord w = true) : w ∈ p_GW := List.mem_filter.mpr ⟨h, g⟩
theorem p_okK_spec {k : Nat} (h : p_okK k = true) : ((p_mY k).cls ≠ "java/lang/invoke/MethodHandle" ∧ (p_mY k).cls ≠ "java/lang/invoke/VarHandle") ∧ Cond.code (p_mY k) (p_mC k) (p_mL k) (p_mR k) ∈ p_GW ∧ Cond.initialized (p_mY k).cls ∈ p_GW ∧ (parseMethodDescriptor (p_mY k).desc).map (fun d => d.parameters.length) = some (p_mN k) ∧ p_mL k ≤ 40 ∧ p_mO k = (p_mY k).cls ∧ plainName (p_mY k).cls = true := by
  unfold p_okK at h
  rw [List.contains_iff_mem] at h
  obtain ⟨r, hr, rfl⟩ := List.mem_map.mp h
  have h := List.all_eq_true.mp p_kR_ok r hr
  simp only [Bool.and_eq_true, decide_eq_true_eq] at h
  have hO := p_kR_o r hr
  have hc := List.all_eq_true.mp p_okC_ok (p_mK r.1) (List.mem_range.mpr h.2)
  simp only [p_okC, Bool.and_eq_true, decide_eq_true_eq] at hc
  have e : p_own (p_mK r.1) = (p_mY r.1).cls := hO
  rw [e] at hc
  exact ⟨hc.1, p_gi (p_kR_w0 r hr) rfl, p_gi (p_kR_w1 r hr) rfl, h.1.1, h.1.2, hO, hc.2⟩
