def p_okC (o : Nat) : Bool := decide (p_own o ≠ "java/lang/invoke/MethodHandle") && decide (p_own o ≠ "java/lang/invoke/VarHandle") && decide (plainName (p_own o) = true)
theorem p_okC_ok : ((List.range 15).all p_okC) = true := by decide +kernel
def p_kR0 : List (Nat × Nat × Nat) := [(0, 8195, 4105), (1, 12450, 4105), (2, 12454, 4105), (3, 16483, 4105), (4, 16531, 4105), (5, 16536, 4105), (6, 16540, 4105), (7, 16544, 4105), (8, 16612, 4105), (9, 20480, 4105), (10, 16616, 4105), (11, 8314, 4107), (12, 12462, 4107), (13, 16561, 4107), (14, 20543, 4107), (15, 8377, 4109), (16, 24615, 4109), (17, 24619, 4109), (18, 24622, 4109), (19, 4190, 4102)]
set_option maxRecDepth 100000 in
set_option maxHeartbeats 4000000 in
theorem p_kR0_w0 : p_kR0.map (fun r => p_bk (r.2.1)) = p_kR0.map (fun r => some (Cond.code (p_mY r.1) (p_mC r.1) (p_mL r.1) (p_mR r.1))) := rfl
set_option maxRecDepth 100000 in
set_option maxHeartbeats 4000000 in
theorem p_kR0_w1 : p_kR0.map (fun r => p_bk (r.2.2)) = p_kR0.map (fun r => some (Cond.initialized (p_mY r.1).cls)) := rfl
theorem p_kR0_ok : (p_kR0.all fun r => decide ((parseMethodDescriptor (p_mY r.1).desc).map (fun d => d.parameters.length) = some (p_mN r.1)) && decide (p_mL r.1 ≤ 40) && decide (p_mK r.1 < 15)) = true := by decide +kernel
def p_kR1 : List (Nat × Nat × Nat) := [(20, 4195, 4102), (21, 12438, 4102), (22, 12297, 4102), (23, 12343, 4102), (24, 12352, 4102), (25, 12368, 4102), (26, 12374, 4102), (27, 12380, 4102), (28, 12384, 4102), (29, 12400, 4102), (30, 12408, 4102), (31, 12422, 4102), (32, 8272, 4106), (33, 12458, 4106), (34, 16390, 4106), (35, 12474, 4106), (36, 12480, 4106), (37, 12484, 4106), (38, 12488, 4106), (39, 12491, 4106)]
set_option maxRecDepth 100000 in
set_option maxHeartbeats 4000000 in
theorem p_kR1_w0 : p_kR1.map (fun r => p_bk (r.2.1)) = p_kR1.map (fun r => some (Cond.code (p_mY r.1) (p_mC r.1) (p_mL r.1) (p_mR r.1))) := rfl
set_option maxRecDepth 100000 in
set_option maxHeartbeats 4000000 in
theorem p_kR1_w1 : p_kR1.map (fun r => p_bk (r.2.2)) = p_kR1.map (fun r => some (Cond.initialized (p_mY r.1).cls)) := rfl
theorem p_kR1_ok : (p_kR1.all fun r => decide ((parseMethodDescriptor (p_mY r.1).desc).map (fun d => d.parameters.length) = some (p_mN r.1)) && decide (p_mL r.1 ≤ 40) && decide (p_mK r.1 < 15)) = true := by decide +kernel
def p_kR2 : List (Nat × Nat × Nat) := [(40, 12523, 4106), (41, 12517, 4106), (42, 16398, 4106), (43, 16402, 4106), (44, 16406, 4106), (45, 16421, 4106), (46, 4284, 4103), (47, 12442, 4103), (48, 16475, 4103), (49, 16414, 4103), (50, 16574, 4103), (51, 16578, 4103), (52, 16495, 4103), (53, 16410, 4103), (54, 16548, 4103), (55, 16555, 4103), (56, 16503, 4103), (57, 20520, 4103), (58, 20529, 4103), (59, 20534, 4103)]
set_option maxRecDepth 100000 in
set_option maxHeartbeats 4000000 in
theorem p_kR2_w0 : p_kR2.map (fun r => p_bk (r.2.1)) = p_kR2.map (fun r => some (Cond.code (p_mY r.1) (p_mC r.1) (p_mL r.1) (p_mR r.1))) := rfl
set_option maxRecDepth 100000 in
set_option maxHeartbeats 4000000 in
theorem p_kR2_w1 : p_kR2.map (fun r => p_bk (r.2.2)) = p_kR2.map (fun r => some (Cond.initialized (p_mY r.1).cls)) := rfl
theorem p_kR2_ok : (p_kR2.all fun r => decide ((parseMethodDescriptor (p_mY r.1).desc).map (fun d => d.parameters.length) = some (p_mN r.1)) && decide (p_mL r.1 ≤ 40) && decide (p_mK r.1 < 15)) = true := by decide +kernel
def p_kR3 : List (Nat × Nat × Nat) := [(60, 16516, 4103), (61, 16520, 4103), (62, 16524, 4103), (63, 16527, 4103), (64, 20651, 4103), (65, 8338, 4108), (66, 16435, 4108), (67, 16444, 4108), (68, 16451, 4108), (69, 16455, 4108), (70, 16491, 4108), (71, 16499, 4108), (72, 4130, 4098), (73, 12325, 4098), (74, 8429, 4098), (75, 12312, 4098), (76, 12301, 4098), (77, 12305, 4098), (78, 12322, 4098), (79, 12330, 4098)]
set_option maxRecDepth 100000 in
set_option maxHeartbeats 4000000 in
theorem p_kR3_w0 : p_kR3.map (fun r => p_bk (r.2.1)) = p_kR3.map (fun r => some (Cond.code (p_mY r.1) (p_mC r.1) (p_mL r.1) (p_mR r.1))) := rfl
set_option maxRecDepth 100000 in
set_option maxHeartbeats 4000000 in
theorem p_kR3_w1 : p_kR3.map (fun r => p_bk (r.2.2)) = p_kR3.map (fun r => some (Cond.initialized (p_mY r.1).cls)) := rfl
theorem p_kR3_ok : (p_kR3.all fun r => decide ((parseMethodDescriptor (p_mY r.1).desc).map (fun d => d.parameters.length) = some (p_mN r.1)) && decide (p_mL r.1 ≤ 40) && decide (p_mK r.1 < 15)) = true := by decide +kernel
def p_kR4 : List (Nat × Nat × Nat) := [(80, 12315, 4098), (81, 12318, 4098), (82, 12335, 4098), (83, 12356, 4098), (84, 12339, 4098), (85, 12434, 4098), (86, 12348, 4098), (87, 12430, 4098), (88, 12393, 4098), (89, 12426, 4098), (90, 12361, 4098), (91, 12404, 4098), (92, 12387, 4098), (93, 4291, 4104), (94, 12446, 4104), (95, 16479, 4104), (96, 16507, 4104), (97, 4184, 4101), (98, 20551, 4101), (99, 4122, 4097)]
set_option maxRecDepth 100000 in
set_option maxHeartbeats 4000000 in
theorem p_kR4_w0 : p_kR4.map (fun r => p_bk (r.2.1)) = p_kR4.map (fun r => some (Cond.code (p_mY r.1) (p_mC r.1) (p_mL r.1) (p_mR r.1))) := rfl
set_option maxRecDepth 100000 in
set_option maxHeartbeats 4000000 in
theorem p_kR4_w1 : p_kR4.map (fun r => p_bk (r.2.2)) = p_kR4.map (fun r => some (Cond.initialized (p_mY r.1).cls)) := rfl
theorem p_kR4_ok : (p_kR4.all fun r => decide ((parseMethodDescriptor (p_mY r.1).desc).map (fun d => d.parameters.length) = some (p_mN r.1)) && decide (p_mL r.1 ≤ 40) && decide (p_mK r.1 < 15)) = true := by decide +kernel
def p_kR5 : List (Nat × Nat × Nat) := [(100, 8425, 4097), (101, 12289, 4097), (102, 12293, 4097), (103, 12466, 4097), (104, 12470, 4097), (105, 16394, 4097), (106, 16431, 4097), (107, 16566, 4097), (108, 20676, 4097), (109, 24600, 4097), (110, 16570, 4097), (111, 16583, 4097), (112, 16587, 4097), (113, 16596, 4097), (114, 16600, 4097), (115, 16604, 4097), (116, 16620, 4097), (117, 20484, 4097), (118, 20495, 4097), (119, 20500, 4097)]
set_option maxRecDepth 100000 in
set_option maxHeartbeats 4000000 in
theorem p_kR5_w0 : p_kR5.map (fun r => p_bk (r.2.1)) = p_kR5.map (fun r => some (Cond.code (p_mY r.1) (p_mC r.1) (p_mL r.1) (p_mR r.1))) := rfl
set_option maxRecDepth 100000 in
set_option maxHeartbeats 4000000 in
theorem p_kR5_w1 : p_kR5.map (fun r => p_bk (r.2.2)) = p_kR5.map (fun r => some (Cond.initialized (p_mY r.1).cls)) := rfl
theorem p_kR5_ok : (p_kR5.all fun r => decide ((parseMethodDescriptor (p_mY r.1).desc).map (fun d => d.parameters.length) = some (p_mN r.1)) && decide (p_mL r.1 ≤ 40) && decide (p_mK r.1 < 15)) = true := by decide +kernel
def p_kR6 : List (Nat × Nat × Nat) := [(120, 20505, 4097), (121, 20510, 4097), (122, 20515, 4097), (123, 20525, 4097), (124, 20539, 4097), (125, 20547, 4097), (126, 20558, 4097), (127, 20562, 4097), (128, 20567, 4097), (129, 20571, 4097), (130, 20575, 4097), (131, 20580, 4097), (132, 20584, 4097), (133, 20596, 4097), (134, 20600, 4097), (135, 20604, 4097), (136, 20618, 4097), (137, 20630, 4097), (138, 24607, 4097), (139, 24629, 4097)]
set_option maxRecDepth 100000 in
set_option maxHeartbeats 4000000 in
theorem p_kR6_w0 : p_kR6.map (fun r => p_bk (r.2.1)) = p_kR6.map (fun r => some (Cond.code (p_mY r.1) (p_mC r.1) (p_mL r.1) (p_mR r.1))) := rfl
set_option maxRecDepth 100000 in
set_option maxHeartbeats 4000000 in
theorem p_kR6_w1 : p_kR6.map (fun r => p_bk (r.2.2)) = p_kR6.map (fun r => some (Cond.initialized (p_mY r.1).cls)) := rfl
theorem p_kR6_ok : (p_kR6.all fun r => decide ((parseMethodDescriptor (p_mY r.1).desc).map (fun d => d.parameters.length) = some (p_mN r.1)) && decide (p_mL r.1 ≤ 40) && decide (p_mK r.1 < 15)) = true := by decide +kernel
def p_kR7 : List (Nat × Nat × Nat) := [(140, 24640, 4097), (141, 20656, 4097), (142, 20668, 4097), (143, 16591, 4097), (144, 16608, 4097), (145, 20489, 4097), (146, 16471, 4097), (147, 20588, 4097), (148, 20592, 4097), (149, 20608, 4097), (150, 20614, 4097), (151, 20626, 4097), (152, 20622, 4097), (153, 20634, 4097), (154, 20638, 4097), (155, 20642, 4097), (156, 20646, 4097), (157, 20660, 4097), (158, 20664, 4097), (159, 24611, 4097)]
set_option maxRecDepth 100000 in
set_option maxHeartbeats 4000000 in
theorem p_kR7_w0 : p_kR7.map (fun r => p_bk (r.2.1)) = p_kR7.map (fun r => some (Cond.code (p_mY r.1) (p_mC r.1) (p_mL r.1) (p_mR r.1))) := rfl
set_option maxRecDepth 100000 in
set_option maxHeartbeats 4000000 in
theorem p_kR7_w1 : p_kR7.map (fun r => p_bk (r.2.2)) = p_kR7.map (fun r => some (Cond.initialized (p_mY r.1).cls)) := rfl
theorem p_kR7_ok : (p_kR7.all fun r => decide ((parseMethodDescriptor (p_mY r.1).desc).map (fun d => d.parameters.length) = some (p_mN r.1)) && decide (p_mL r.1 ≤ 40) && decide (p_mK r.1 < 15)) = true := by decide +kernel
def p_kR8 : List (Nat × Nat × Nat) := [(160, 24633, 4097), (161, 28773, 4110), (162, 24644, 4110), (163, 24649, 4110), (164, 24653, 4110), (165, 28677, 4110), (166, 28721, 4110), (167, 28706, 4110), (168, 28843, 4110), (169, 28840, 4110), (170, 28846, 4110), (171, 32784, 4110), (172, 32840, 4110), (173, 24657, 4110), (174, 28685, 4110), (175, 28688, 4110), (176, 28691, 4110), (177, 28681, 4110), (178, 28710, 4110), (179, 28699, 4110)]
set_option maxRecDepth 100000 in
set_option maxHeartbeats 4000000 in
theorem p_kR8_w0 : p_kR8.map (fun r => p_bk (r.2.1)) = p_kR8.map (fun r => some (Cond.code (p_mY r.1) (p_mC r.1) (p_mL r.1) (p_mR r.1))) := rfl
set_option maxRecDepth 100000 in
set_option maxHeartbeats 4000000 in
theorem p_kR8_w1 : p_kR8.map (fun r => p_bk (r.2.2)) = p_kR8.map (fun r => some (Cond.initialized (p_mY r.1).cls)) := rfl
theorem p_kR8_ok : (p_kR8.all fun r => decide ((parseMethodDescriptor (p_mY r.1).desc).map (fun d => d.parameters.length) = some (p_mN r.1)) && decide (p_mL r.1 ≤ 40) && decide (p_mK r.1 < 15)) = true := by decide +kernel
def p_kR9 : List (Nat × Nat × Nat) := [(180, 28757, 4110), (181, 28753, 4110), (182, 28733, 4110), (183, 28718, 4110), (184, 28714, 4110), (185, 28737, 4110), (186, 28729, 4110), (187, 28745, 4110), (188, 28703, 4110), (189, 28695, 4110), (190, 28725, 4110), (191, 28749, 4110), (192, 28741, 4110), (193, 28673, 4110), (194, 28761, 4110), (195, 28769, 4110), (196, 28781, 4110), (197, 28889, 4110), (198, 28881, 4110), (199, 28765, 4110)]
set_option maxRecDepth 100000 in
set_option maxHeartbeats 4000000 in
theorem p_kR9_w0 : p_kR9.map (fun r => p_bk (r.2.1)) = p_kR9.map (fun r => some (Cond.code (p_mY r.1) (p_mC r.1) (p_mL r.1) (p_mR r.1))) := rfl
set_option maxRecDepth 100000 in
set_option maxHeartbeats 4000000 in
theorem p_kR9_w1 : p_kR9.map (fun r => p_bk (r.2.2)) = p_kR9.map (fun r => some (Cond.initialized (p_mY r.1).cls)) := rfl
theorem p_kR9_ok : (p_kR9.all fun r => decide ((parseMethodDescriptor (p_mY r.1).desc).map (fun d => d.parameters.length) = some (p_mN r.1)) && decide (p_mL r.1 ≤ 40) && decide (p_mK r.1 < 15)) = true := by decide +kernel
def p_kR10 : List (Nat × Nat × Nat) := [(200, 28777, 4110), (201, 28789, 4110), (202, 28785, 4110), (203, 28865, 4110), (204, 28858, 4110), (205, 28861, 4110), (206, 28854, 4110), (207, 28837, 4110), (208, 28869, 4110), (209, 28850, 4110), (210, 28833, 4110), (211, 28829, 4110), (212, 28801, 4110), (213, 28813, 4110), (214, 28793, 4110), (215, 28805, 4110), (216, 28809, 4110), (217, 28817, 4110), (218, 28821, 4110), (219, 28825, 4110)]
set_option maxRecDepth 100000 in
set_option maxHeartbeats 4000000 in
theorem p_kR10_w0 : p_kR10.map (fun r => p_bk (r.2.1)) = p_kR10.map (fun r => some (Cond.code (p_mY r.1) (p_mC r.1) (p_mL r.1) (p_mR r.1))) := rfl
set_option maxRecDepth 100000 in
set_option maxHeartbeats 4000000 in
theorem p_kR10_w1 : p_kR10.map (fun r => p_bk (r.2.2)) = p_kR10.map (fun r => some (Cond.initialized (p_mY r.1).cls)) := rfl
theorem p_kR10_ok : (p_kR10.all fun r => decide ((parseMethodDescriptor (p_mY r.1).desc).map (fun d => d.parameters.length) = some (p_mN r.1)) && decide (p_mL r.1 ≤ 40) && decide (p_mK r.1 < 15)) = true := by decide +kernel
def p_kR11 : List (Nat × Nat × Nat) := [(220, 28797, 4110), (221, 28873, 4110), (222, 28893, 4110), (223, 28897, 4110), (224, 28877, 4110), (225, 28885, 4110), (226, 28901, 4110), (227, 28905, 4110), (228, 28909, 4110), (229, 32769, 4110), (230, 32773, 4110), (231, 32781, 4110), (232, 32792, 4110), (233, 32796, 4110), (234, 32777, 4110), (235, 32788, 4110), (236, 32800, 4110), (237, 32812, 4110), (238, 32808, 4110), (239, 32804, 4110)]
set_option maxRecDepth 100000 in
set_option maxHeartbeats 4000000 in
theorem p_kR11_w0 : p_kR11.map (fun r => p_bk (r.2.1)) = p_kR11.map (fun r => some (Cond.code (p_mY r.1) (p_mC r.1) (p_mL r.1) (p_mR r.1))) := rfl
set_option maxRecDepth 100000 in
set_option maxHeartbeats 4000000 in
theorem p_kR11_w1 : p_kR11.map (fun r => p_bk (r.2.2)) = p_kR11.map (fun r => some (Cond.initialized (p_mY r.1).cls)) := rfl
theorem p_kR11_ok : (p_kR11.all fun r => decide ((parseMethodDescriptor (p_mY r.1).desc).map (fun d => d.parameters.length) = some (p_mN r.1)) && decide (p_mL r.1 ≤ 40) && decide (p_mK r.1 < 15)) = true := by decide +kernel
def p_kR12 : List (Nat × Nat × Nat) := [(240, 32816, 4110), (241, 32820, 4110), (242, 32828, 4110), (243, 32824, 4110), (244, 32832, 4110), (245, 32836, 4110), (246, 32844, 4110), (247, 32852, 4110), (248, 32848, 4110), (249, 32860, 4110), (250, 32856, 4110), (251, 32864, 4110), (252, 32880, 4110), (253, 32876, 4110), (254, 32872, 4110), (255, 32868, 4110), (256, 32885, 4110), (257, 32893, 4110), (258, 32897, 4110), (259, 32889, 4110)]
set_option maxRecDepth 100000 in
set_option maxHeartbeats 4000000 in
theorem p_kR12_w0 : p_kR12.map (fun r => p_bk (r.2.1)) = p_kR12.map (fun r => some (Cond.code (p_mY r.1) (p_mC r.1) (p_mL r.1) (p_mR r.1))) := rfl
set_option maxRecDepth 100000 in
set_option maxHeartbeats 4000000 in
theorem p_kR12_w1 : p_kR12.map (fun r => p_bk (r.2.2)) = p_kR12.map (fun r => some (Cond.initialized (p_mY r.1).cls)) := rfl
theorem p_kR12_ok : (p_kR12.all fun r => decide ((parseMethodDescriptor (p_mY r.1).desc).map (fun d => d.parameters.length) = some (p_mN r.1)) && decide (p_mL r.1 ≤ 40) && decide (p_mK r.1 < 15)) = true := by decide +kernel
def p_kR13 : List (Nat × Nat × Nat) := [(260, 32901, 4110), (261, 32913, 4110), (262, 32917, 4110), (263, 32909, 4110), (264, 32929, 4110), (265, 32925, 4110), (266, 32921, 4110), (267, 32905, 4110), (268, 32945, 4110), (269, 32941, 4110), (270, 32937, 4110), (271, 32933, 4110), (272, 32949, 4110), (273, 32953, 4110), (274, 32957, 4110), (275, 16424, 4117)]
set_option maxRecDepth 100000 in
set_option maxHeartbeats 4000000 in
theorem p_kR13_w0 : p_kR13.map (fun r => p_bk (r.2.1)) = p_kR13.map (fun r => some (Cond.code (p_mY r.1) (p_mC r.1) (p_mL r.1) (p_mR r.1))) := rfl
set_option maxRecDepth 100000 in
set_option maxHeartbeats 4000000 in
theorem p_kR13_w1 : p_kR13.map (fun r => p_bk (r.2.2)) = p_kR13.map (fun r => some (Cond.initialized (p_mY r.1).cls)) := rfl
theorem p_kR13_ok : (p_kR13.all fun r => decide ((parseMethodDescriptor (p_mY r.1).desc).map (fun d => d.parameters.length) = some (p_mN r.1)) && decide (p_mL r.1 ≤ 40) && decide (p_mK r.1 < 15)) = true := by decide +kernel
def p_kR : List (Nat × Nat × Nat) := p_kR0 ++ (p_kR1 ++ (p_kR2 ++ (p_kR3 ++ (p_kR4 ++ (p_kR5 ++ (p_kR6 ++ (p_kR7 ++ (p_kR8 ++ (p_kR9 ++ (p_kR10 ++ (p_kR11 ++ (p_kR12 ++ (p_kR13)))))))))))))
theorem p_kR_w0 : ∀ r ∈ p_kR, Cond.code (p_mY r.1) (p_mC r.1) (p_mL r.1) (p_mR r.1) ∈ lw_tbl := by
  have key : p_kR.map (fun r => p_bk (r.2.1)) = p_kR.map (fun r => some (Cond.code (p_mY r.1) (p_mC r.1) (p_mL r.1) (p_mR r.1))) := by
    unfold p_kR
    simp only [List.map_append, p_kR0_w0, p_kR1_w0, p_kR2_w0, p_kR3_w0, p_kR4_w0, p_kR5_w0, p_kR6_w0, p_kR7_w0, p_kR8_w0, p_kR9_w0, p_kR10_w0, p_kR11_w0, p_kR12_w0, p_kR13_w0]
  intro r hr
  exact p_bk_in (List.map_inj_left.mp key r hr)
theorem p_kR_w1 : ∀ r ∈ p_kR, Cond.initialized (p_mY r.1).cls ∈ lw_tbl := by
  have key : p_kR.map (fun r => p_bk (r.2.2)) = p_kR.map (fun r => some (Cond.initialized (p_mY r.1).cls)) := by
    unfold p_kR
    simp only [List.map_append, p_kR0_w1, p_kR1_w1, p_kR2_w1, p_kR3_w1, p_kR4_w1, p_kR5_w1, p_kR6_w1, p_kR7_w1, p_kR8_w1, p_kR9_w1, p_kR10_w1, p_kR11_w1, p_kR12_w1, p_kR13_w1]
  intro r hr
  exact p_bk_in (List.map_inj_left.mp key r hr)
theorem p_kR_ok : (p_kR.all fun r => decide ((parseMethodDescriptor (p_mY r.1).desc).map (fun d => d.parameters.length) = some (p_mN r.1)) && decide (p_mL r.1 ≤ 40) && decide (p_mK r.1 < 15)) = true := by
  unfold p_kR
  simp only [List.all_append, Bool.and_true, p_kR0_ok, p_kR1_ok, p_kR2_ok, p_kR3_ok, p_kR4_ok, p_kR5_ok, p_kR6_ok, p_kR7_ok, p_kR8_ok, p_kR9_ok, p_kR10_ok, p_kR11_ok, p_kR12_ok, p_kR13_ok]
set_option maxRecDepth 100000 in
theorem p_kR0_o : p_kR0.map (fun r => p_mO r.1) = p_kR0.map (fun r => (p_mY r.1).cls) := rfl
set_option maxRecDepth 100000 in
theorem p_kR1_o : p_kR1.map (fun r => p_mO r.1) = p_kR1.map (fun r => (p_mY r.1).cls) := rfl
set_option maxRecDepth 100000 in
theorem p_kR2_o : p_kR2.map (fun r => p_mO r.1) = p_kR2.map (fun r => (p_mY r.1).cls) := rfl
set_option maxRecDepth 100000 in
theorem p_kR3_o : p_kR3.map (fun r => p_mO r.1) = p_kR3.map (fun r => (p_mY r.1).cls) := rfl
set_option maxRecDepth 100000 in
theorem p_kR4_o : p_kR4.map (fun r => p_mO r.1) = p_kR4.map (fun r => (p_mY r.1).cls) := rfl
set_option maxRecDepth 100000 in
theorem p_kR5_o : p_kR5.map (fun r => p_mO r.1) = p_kR5.map (fun r => (p_mY r.1).cls) := rfl
set_option maxRecDepth 100000 in
theorem p_kR6_o : p_kR6.map (fun r => p_mO r.1) = p_kR6.map (fun r => (p_mY r.1).cls) := rfl
set_option maxRecDepth 100000 in
theorem p_kR7_o : p_kR7.map (fun r => p_mO r.1) = p_kR7.map (fun r => (p_mY r.1).cls) := rfl
set_option maxRecDepth 100000 in
theorem p_kR8_o : p_kR8.map (fun r => p_mO r.1) = p_kR8.map (fun r => (p_mY r.1).cls) := rfl
set_option maxRecDepth 100000 in
theorem p_kR9_o : p_kR9.map (fun r => p_mO r.1) = p_kR9.map (fun r => (p_mY r.1).cls) := rfl
set_option maxRecDepth 100000 in
theorem p_kR10_o : p_kR10.map (fun r => p_mO r.1) = p_kR10.map (fun r => (p_mY r.1).cls) := rfl
set_option maxRecDepth 100000 in
theorem p_kR11_o : p_kR11.map (fun r => p_mO r.1) = p_kR11.map (fun r => (p_mY r.1).cls) := rfl
set_option maxRecDepth 100000 in
theorem p_kR12_o : p_kR12.map (fun r => p_mO r.1) = p_kR12.map (fun r => (p_mY r.1).cls) := rfl
set_option maxRecDepth 100000 in
theorem p_kR13_o : p_kR13.map (fun r => p_mO r.1) = p_kR13.map (fun r => (p_mY r.1).cls) := rfl
theorem p_kR_o : ∀ r ∈ p_kR, p_mO r.1 = (p_mY r.1).cls := by
  have key : p_kR.map (fun r => p_mO r.1) = p_kR.map (fun r => (p_mY r.1).cls) := by
    unfold p_kR
    simp only [List.map_append, p_kR0_o, p_kR1_o, p_kR2_o, p_kR3_o, p_kR4_o, p_kR5_o, p_kR6_o, p_kR7_o, p_kR8_o, p_kR9_o, p_kR10_o, p_kR11_o, p_kR12_o, p_kR13_o]
  exact List.map_inj_left.mp key
def p_okK (k : Nat) : Bool := (p_kR.map (fun r => r.1)).contains k
def p_GW : List Cond := lw_tbl.filter goodWord
theorem p_gi {w : Cond} (h : w ∈ lw_tbl) (g : goodWord w = true) : w ∈ p_GW := List.mem_filter.mpr ⟨h, g⟩
theorem p_okK_spec {k : Nat} (h : p_okK k = true) : ((p_mY k).cls ≠ "java/lang/invoke/MethodHandle" ∧ (p_mY k).cls ≠ "java/lang/invoke/VarHandle") ∧ Cond.code (p_mY k) (p_mC k) (p_mL k) (p_mR k) ∈ p_GW ∧ Cond.initialized (p_mY k).cls ∈ p_GW ∧ (parseMethodDescriptor (p_mY k).desc).map (fun d => d.parameters.length) = some (p_mN k) ∧ p_mL k ≤ 40 ∧ p_mO k = (p_mY k).cls ∧ plainName (p_mY k).cls = true := by
  unfold p_okK at h
  rw [List.contains_iff_mem] at h
  obtain ⟨r, hr, rfl⟩ := List.mem_map.mp h
  have h := List.all_eq_true.mp p_kR_ok r hr
  simp only [Bool.and_eq_true, decide_eq_true_eq] at h
  have hO := p_kR_o r hr
  have hc := List.all_eq_true.mp p_okC_ok (p_mK r.1) (List.mem_range.mpr h.2)
  simp only [p_okC, Bool.and_eq_true, decide_eq_true_eq] at hc
  have e : p_own (p_mK r.1) = (p_mY r.1).cls := hO
  rw [e] at hc
  exact ⟨hc.1, p_gi (p_kR_w0 r hr) rfl, p_gi (p_kR_w1 r hr) rfl, h.1.1, h.1.2, hO, hc.2⟩
