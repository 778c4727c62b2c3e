def p_msR0 : List (Nat × Nat × Nat × Nat × Nat) := [(11, 130, 275, 16422, 16423), (2, 16, 18, 24620, 24621), (3, 163, 92, 12385, 12386), (3, 171, 30, 12406, 12407), (4, 72, 39, 12489, 12490), (5, 188, 63, 16525, 16526), (6, 81, 69, 16453, 16454), (7, 61, 80, 12313, 12314), (7, 65, 81, 12316, 12317), (7, 74, 82, 12333, 12334), (7, 84, 73, 12323, 12324), (7, 107, 92, 12405, 12386), (13, 53, 279, 20669, 20670), (13, 59, 280, 24594, 24595), (13, 123, 281, 24601, 24602), (13, 127, 282, 24623, 24624), (13, 131, 283, 24634, 24635), (12, 147, 175, 28686, 28687), (12, 151, 176, 28689, 28690), (12, 176, 166, 28719, 28720), (12, 198, 167, 28704, 28705), (12, 244, 170, 28844, 28845), (12, 260, 205, 28859, 28860), (12, 268, 169, 28838, 28839), (12, 271, 168, 28841, 28842), (12, 317, 171, 32782, 32783)]
set_option maxRecDepth 100000 in
set_option maxHeartbeats 4000000 in
theorem p_msR0_w0 : p_msR0.map (fun r => p_bk (r.2.2.2.1)) = p_msR0.map (fun r => some (Cond.methodLink (p_own r.1) r.2.1 (p_mY r.2.2.1))) := rfl
set_option maxRecDepth 100000 in
set_option maxHeartbeats 4000000 in
theorem p_msR0_w1 : p_msR0.map (fun r => p_bk (r.2.2.2.2)) = p_msR0.map (fun r => some (Cond.static (p_mY r.2.2.1))) := rfl
def p_msR : List (Nat × Nat × Nat × Nat × Nat) := p_msR0
theorem p_msR_w0 : ∀ r ∈ p_msR, Cond.methodLink (p_own r.1) r.2.1 (p_mY r.2.2.1) ∈ lw_tbl := by
  have key : p_msR.map (fun r => p_bk (r.2.2.2.1)) = p_msR.map (fun r => some (Cond.methodLink (p_own r.1) r.2.1 (p_mY r.2.2.1))) := by
    unfold p_msR
    simp only [List.map_append, p_msR0_w0]
  intro r hr
  exact p_bk_in (List.map_inj_left.mp key r hr)
theorem p_msR_w1 : ∀ r ∈ p_msR, Cond.static (p_mY r.2.2.1) ∈ lw_tbl := by
  have key : p_msR.map (fun r => p_bk (r.2.2.2.2)) = p_msR.map (fun r => some (Cond.static (p_mY r.2.2.1))) := by
    unfold p_msR
    simp only [List.map_append, p_msR0_w1]
  intro r hr
  exact p_bk_in (List.map_inj_left.mp key r hr)
def p_miR0 : List (Nat × Nat × Nat × Nat × Nat) := [(11, 9, 72, 4128, 4129), (11, 18, 97, 4182, 4183), (11, 33, 11, 8312, 8313), (11, 40, 19, 8331, 4189), (11, 47, 32, 8333, 8271), (11, 54, 65, 8336, 8337), (11, 61, 46, 8372, 4283), (1, 17, 46, 8318, 4283), (5, 31, 0, 8193, 8194), (10, 9, 19, 4188, 4189), (10, 18, 46, 4282, 4283), (10, 25, 32, 8270, 8271), (13, 30, 99, 4120, 4121), (13, 33, 173, 24655, 24656)]
set_option maxRecDepth 100000 in
set_option maxHeartbeats 4000000 in
theorem p_miR0_w0 : p_miR0.map (fun r => p_bk (r.2.2.2.1)) = p_miR0.map (fun r => some (Cond.methodLink (p_own r.1) r.2.1 (p_mY r.2.2.1))) := rfl
set_option maxRecDepth 100000 in
set_option maxHeartbeats 4000000 in
theorem p_miR0_w1 : p_miR0.map (fun r => p_bk (r.2.2.2.2)) = p_miR0.map (fun r => some (Cond.instanceMethod (p_mY r.2.2.1))) := rfl
theorem p_miR0_ok : (p_miR0.all fun r => decide ((p_mY r.2.2.1).name = "<init>")) = true := by decide +kernel
def p_miR : List (Nat × Nat × Nat × Nat × Nat) := p_miR0
theorem p_miR_w0 : ∀ r ∈ p_miR, Cond.methodLink (p_own r.1) r.2.1 (p_mY r.2.2.1) ∈ lw_tbl := by
  have key : p_miR.map (fun r => p_bk (r.2.2.2.1)) = p_miR.map (fun r => some (Cond.methodLink (p_own r.1) r.2.1 (p_mY r.2.2.1))) := by
    unfold p_miR
    simp only [List.map_append, p_miR0_w0]
  intro r hr
  exact p_bk_in (List.map_inj_left.mp key r hr)
theorem p_miR_w1 : ∀ r ∈ p_miR, Cond.instanceMethod (p_mY r.2.2.1) ∈ lw_tbl := by
  have key : p_miR.map (fun r => p_bk (r.2.2.2.2)) = p_miR.map (fun r => some (Cond.instanceMethod (p_mY r.2.2.1))) := by
    unfold p_miR
    simp only [List.map_append, p_miR0_w1]
  intro r hr
  exact p_bk_in (List.map_inj_left.mp key r hr)
theorem p_miR_ok : (p_miR.all fun r => decide ((p_mY r.2.2.1).name = "<init>")) = true := p_miR0_ok
def p_mnR0 : List (Nat × Nat × Nat × Nat × Nat) := [(11, 68, 15, 8375, 8376), (5, 24, 93, 4289, 4290)]
set_option maxRecDepth 100000 in
set_option maxHeartbeats 4000000 in
theorem p_mnR0_w0 : p_mnR0.map (fun r => p_bk (r.2.2.2.1)) = p_mnR0.map (fun r => some (Cond.methodLinkNest (p_own r.1) r.2.1 (p_mY r.2.2.1) RX11)) := rfl
set_option maxRecDepth 100000 in
set_option maxHeartbeats 4000000 in
theorem p_mnR0_w1 : p_mnR0.map (fun r => p_bk (r.2.2.2.2)) = p_mnR0.map (fun r => some (Cond.instanceMethod (p_mY r.2.2.1))) := rfl
theorem p_mnR0_ok : (p_mnR0.all fun r => decide ((p_mY r.2.2.1).name = "<init>")) = true := by decide +kernel
def p_mnR : List (Nat × Nat × Nat × Nat × Nat) := p_mnR0
theorem p_mnR_w0 : ∀ r ∈ p_mnR, Cond.methodLinkNest (p_own r.1) r.2.1 (p_mY r.2.2.1) RX11 ∈ lw_tbl := by
  have key : p_mnR.map (fun r => p_bk (r.2.2.2.1)) = p_mnR.map (fun r => some (Cond.methodLinkNest (p_own r.1) r.2.1 (p_mY r.2.2.1) RX11)) := by
    unfold p_mnR
    simp only [List.map_append, p_mnR0_w0]
  intro r hr
  exact p_bk_in (List.map_inj_left.mp key r hr)
theorem p_mnR_w1 : ∀ r ∈ p_mnR, Cond.instanceMethod (p_mY r.2.2.1) ∈ lw_tbl := by
  have key : p_mnR.map (fun r => p_bk (r.2.2.2.2)) = p_mnR.map (fun r => some (Cond.instanceMethod (p_mY r.2.2.1))) := by
    unfold p_mnR
    simp only [List.map_append, p_mnR0_w1]
  intro r hr
  exact p_bk_in (List.map_inj_left.mp key r hr)
theorem p_mnR_ok : (p_mnR.all fun r => decide ((p_mY r.2.2.1).name = "<init>")) = true := p_mnR0_ok
def p_moR0 : List (Nat × Nat × Nat × Nat × Nat × Nat) := [(11, 1, 0, 4123, 4124, 4125), (0, 3, 0, 8196, 4124, 4125), (1, 3, 0, 8315, 4124, 4125), (2, 1, 0, 8378, 4124, 4125), (3, 3, 0, 4191, 4124, 4125), (4, 3, 0, 8273, 4124, 4125), (5, 3, 0, 4285, 4124, 4125), (6, 3, 0, 8339, 4124, 4125), (7, 3, 0, 4131, 4124, 4125), (8, 3, 0, 4292, 4124, 4125), (10, 1, 0, 4185, 4124, 4125), (12, 27, 0, 24658, 4124, 4125)]
set_option maxRecDepth 100000 in
set_option maxHeartbeats 4000000 in
theorem p_moR0_w0 : p_moR0.map (fun r => p_bk (r.2.2.2.1)) = p_moR0.map (fun r => some (Cond.methodLink (p_own r.1) r.2.1 objectInit)) := rfl
set_option maxRecDepth 100000 in
set_option maxHeartbeats 4000000 in
theorem p_moR0_w1 : p_moR0.map (fun r => p_bk (r.2.2.2.2.1)) = p_moR0.map (fun r => some (Cond.instanceMethod objectInit)) := rfl
set_option maxRecDepth 100000 in
set_option maxHeartbeats 4000000 in
theorem p_moR0_w2 : p_moR0.map (fun r => p_bk (r.2.2.2.2.2)) = p_moR0.map (fun r => some (Cond.code objectInit ⟨#[0xb1]⟩ 1 none)) := rfl
def p_moR : List (Nat × Nat × Nat × Nat × Nat × Nat) := p_moR0
theorem p_moR_w0 : ∀ r ∈ p_moR, Cond.methodLink (p_own r.1) r.2.1 objectInit ∈ lw_tbl := by
  have key : p_moR.map (fun r => p_bk (r.2.2.2.1)) = p_moR.map (fun r => some (Cond.methodLink (p_own r.1) r.2.1 objectInit)) := by
    unfold p_moR
    simp only [List.map_append, p_moR0_w0]
  intro r hr
  exact p_bk_in (List.map_inj_left.mp key r hr)
theorem p_moR_w1 : ∀ r ∈ p_moR, Cond.instanceMethod objectInit ∈ lw_tbl := by
  have key : p_moR.map (fun r => p_bk (r.2.2.2.2.1)) = p_moR.map (fun r => some (Cond.instanceMethod objectInit)) := by
    unfold p_moR
    simp only [List.map_append, p_moR0_w1]
  intro r hr
  exact p_bk_in (List.map_inj_left.mp key r hr)
theorem p_moR_w2 : ∀ r ∈ p_moR, Cond.code objectInit ⟨#[0xb1]⟩ 1 none ∈ lw_tbl := by
  have key : p_moR.map (fun r => p_bk (r.2.2.2.2.2)) = p_moR.map (fun r => some (Cond.code objectInit ⟨#[0xb1]⟩ 1 none)) := by
    unfold p_moR
    simp only [List.map_append, p_moR0_w2]
  intro r hr
  exact p_bk_in (List.map_inj_left.mp key r hr)
def p_ctR0 : List (Nat × Nat × Nat × Nat × Nat × Nat) := [(11, 7, 7, 4126, 4127, 4098), (11, 16, 9, 4180, 4181, 4101), (11, 31, 1, 8310, 8311, 4107), (11, 38, 3, 8330, 4187, 4102), (11, 45, 4, 8332, 8269, 4106), (11, 52, 6, 8334, 8335, 4108), (11, 59, 5, 8371, 4281, 4103), (11, 66, 2, 8373, 8374, 4109), (1, 9, 5, 8316, 4281, 4103), (5, 18, 8, 4286, 4288, 4104), (5, 25, 0, 4334, 8192, 4105), (10, 7, 3, 4186, 4187, 4102), (10, 16, 5, 4280, 4281, 4103), (10, 23, 4, 8268, 8269, 4106), (13, 8, 10, 4118, 4119, 4097), (13, 31, 11, 24654, 24648, 4110)]
set_option maxRecDepth 100000 in
set_option maxHeartbeats 4000000 in
theorem p_ctR0_w0 : p_ctR0.map (fun r => p_bk (r.2.2.2.1)) = p_ctR0.map (fun r => some (Cond.classLink (p_own r.1) r.2.1 (p_cl r.2.2.1).1)) := rfl
set_option maxRecDepth 100000 in
set_option maxHeartbeats 4000000 in
theorem p_ctR0_w1 : p_ctR0.map (fun r => p_bk (r.2.2.2.2.1)) = p_ctR0.map (fun r => some (Cond.instantiable (p_cl r.2.2.1).1 (p_cl r.2.2.1).2.2)) := rfl
set_option maxRecDepth 100000 in
set_option maxHeartbeats 4000000 in
theorem p_ctR0_w2 : p_ctR0.map (fun r => p_bk (r.2.2.2.2.2)) = p_ctR0.map (fun r => some (Cond.initialized (p_cl r.2.2.1).1)) := rfl
theorem p_ctR0_ok : (p_ctR0.all fun r => decide (r.2.2.1 < 12)) = true := by decide +kernel
def p_ctR : List (Nat × Nat × Nat × Nat × Nat × Nat) := p_ctR0
theorem p_ctR_w0 : ∀ r ∈ p_ctR, Cond.classLink (p_own r.1) r.2.1 (p_cl r.2.2.1).1 ∈ lw_tbl := by
  have key : p_ctR.map (fun r => p_bk (r.2.2.2.1)) = p_ctR.map (fun r => some (Cond.classLink (p_own r.1) r.2.1 (p_cl r.2.2.1).1)) := by
    unfold p_ctR
    simp only [List.map_append, p_ctR0_w0]
  intro r hr
  exact p_bk_in (List.map_inj_left.mp key r hr)
theorem p_ctR_w1 : ∀ r ∈ p_ctR, Cond.instantiable (p_cl r.2.2.1).1 (p_cl r.2.2.1).2.2 ∈ lw_tbl := by
  have key : p_ctR.map (fun r => p_bk (r.2.2.2.2.1)) = p_ctR.map (fun r => some (Cond.instantiable (p_cl r.2.2.1).1 (p_cl r.2.2.1).2.2)) := by
    unfold p_ctR
    simp only [List.map_append, p_ctR0_w1]
  intro r hr
  exact p_bk_in (List.map_inj_left.mp key r hr)
theorem p_ctR_w2 : ∀ r ∈ p_ctR, Cond.initialized (p_cl r.2.2.1).1 ∈ lw_tbl := by
  have key : p_ctR.map (fun r => p_bk (r.2.2.2.2.2)) = p_ctR.map (fun r => some (Cond.initialized (p_cl r.2.2.1).1)) := by
    unfold p_ctR
    simp only [List.map_append, p_ctR0_w2]
  intro r hr
  exact p_bk_in (List.map_inj_left.mp key r hr)
theorem p_ctR_ok : (p_ctR.all fun r => decide (r.2.2.1 < 12)) = true := p_ctR0_ok
theorem p_ms_eq : p_ms = p_msR.map (fun r => (r.1, r.2.1, r.2.2.1)) := by decide +kernel
theorem p_mi_eq : p_mi = p_miR.map (fun r => (r.1, r.2.1, r.2.2.1)) := by decide +kernel
theorem p_mn_eq : p_mn = p_mnR.map (fun r => (r.1, r.2.1, r.2.2.1)) := by decide +kernel
theorem p_mo_eq : p_mo = p_moR.map (fun r => (r.1, r.2.1, r.2.2.1)) := by decide +kernel
theorem p_ct_eq : p_ct = p_ctR.map (fun r => (r.1, r.2.1, r.2.2.1)) := by decide +kernel
theorem p_ms_k : (p_ms.all fun r => decide (r.1 = 13) || p_okK r.2.2) = true := by decide +kernel
theorem p_mi_k : (p_mi.all fun r => p_okK r.2.2) = true := by decide +kernel
theorem p_mn_k : (p_mn.all fun r => p_okK r.2.2) = true := by decide +kernel
def p_ty : Nat → FieldType
  | 0 => .byte
  | 1 => .int
  | 2 => .long
  | 3 => .boolean
  | 4 => .object RX0
  | 5 => .object RX5
  | 6 => .object RX8
  | 7 => .object RX10
  | _ => .object RX9
def p_tn : Nat → String
  | 4 => RX0
  | 5 => RX5
  | 6 => RX8
  | 7 => RX10
  | _ => RX9
def p_atR0 : List (Nat × Nat × Nat × Nat) := [(11, 16, 7, 4180), (1, 9, 5, 8316), (4, 11, 8, 8274), (5, 18, 6, 4286), (5, 25, 4, 4334), (6, 9, 8, 8340)]
set_option maxRecDepth 100000 in
set_option maxHeartbeats 4000000 in
theorem p_atR0_w0 : p_atR0.map (fun r => p_bk (r.2.2.2)) = p_atR0.map (fun r => some (Cond.classLink (p_own r.1) r.2.1 (p_tn r.2.2.1))) := rfl
theorem p_atR0_ok : (p_atR0.all fun r => decide (4 ≤ r.2.2.1) && decide (r.2.2.1 < 9)) = true := by decide +kernel
def p_atR : List (Nat × Nat × Nat × Nat) := p_atR0
theorem p_atR_w0 : ∀ r ∈ p_atR, Cond.classLink (p_own r.1) r.2.1 (p_tn r.2.2.1) ∈ lw_tbl := by
  have key : p_atR.map (fun r => p_bk (r.2.2.2)) = p_atR.map (fun r => some (Cond.classLink (p_own r.1) r.2.1 (p_tn r.2.2.1))) := by
    unfold p_atR
    simp only [List.map_append, p_atR0_w0]
  intro r hr
  exact p_bk_in (List.map_inj_left.mp key r hr)
theorem p_atR_ok : (p_atR.all fun r => decide (4 ≤ r.2.2.1) && decide (r.2.2.1 < 9)) = true := p_atR0_ok
theorem p_at_eq : p_at = p_atR.map (fun r => (r.1, r.2.1, r.2.2.1)) := by decide +kernel
def p_ltR0 : List (Nat × Nat × Int64 × Nat) := [(7, 24, 32, 12326), (12, 78, 1818848869, 24659), (12, 80, 1651467385, 24660), (12, 82, 461262647411, 24661), (12, 84, 131260314510706, 24662), (12, 86, 1650549611, 24663), (12, 88, 6582119, 24664), (12, 90, 478694368626, 24665), (12, 92, 1852137842, 24666), (12, 94, 1818325876, 24667), (12, 96, 1667329132, 24668), (12, 98, 499985311091, 24669), (12, 100, 495874699379, 24670), (12, 102, 512735603571, 24671), (12, 104, 500186639987, 24672), (12, 106, 426836257907, 24673), (12, 108, 127991945328499, 24674), (12, 110, 126879297138276, 24675), (12, 112, 28530, 24676), (12, 114, 6385252, 24677), (12, 116, 7237492, 24678), (12, 118, 126943688025203, 24679), (12, 120, 448311224179, 24680), (12, 122, 126922548275316, 24681), (12, 124, 25209, 24682), (12, 126, 482854658917, 24683), (12, 128, 1885430629, 24684), (12, 130, 130195279934579, 24685), (12, 132, 121450625394034, 24686)]
set_option maxRecDepth 100000 in
set_option maxHeartbeats 4000000 in
theorem p_ltR0_w0 : p_ltR0.map (fun r => p_bk (r.2.2.2)) = p_ltR0.map (fun r => some (Cond.constantLong (p_own r.1) r.2.1 r.2.2.1)) := rfl
def p_ltR : List (Nat × Nat × Int64 × Nat) := p_ltR0
theorem p_ltR_w0 : ∀ r ∈ p_ltR, Cond.constantLong (p_own r.1) r.2.1 r.2.2.1 ∈ lw_tbl := by
  have key : p_ltR.map (fun r => p_bk (r.2.2.2)) = p_ltR.map (fun r => some (Cond.constantLong (p_own r.1) r.2.1 r.2.2.1)) := by
    unfold p_ltR
    simp only [List.map_append, p_ltR0_w0]
  intro r hr
  exact p_bk_in (List.map_inj_left.mp key r hr)
def p_itR0 : List (Nat × Nat × Int32 × Nat) := [(5, 143, 1103515245, 20530), (12, 359, 1103515245, 32881), (14, 265, 1431655765, 16425), (14, 266, 858993459, 16426), (14, 267, 252645135, 16427)]
set_option maxRecDepth 100000 in
set_option maxHeartbeats 4000000 in
theorem p_itR0_w0 : p_itR0.map (fun r => p_bk (r.2.2.2)) = p_itR0.map (fun r => some (Cond.constant (p_own r.1) r.2.1 r.2.2.1)) := rfl
def p_itR : List (Nat × Nat × Int32 × Nat) := p_itR0
theorem p_itR_w0 : ∀ r ∈ p_itR, Cond.constant (p_own r.1) r.2.1 r.2.2.1 ∈ lw_tbl := by
  have key : p_itR.map (fun r => p_bk (r.2.2.2)) = p_itR.map (fun r => some (Cond.constant (p_own r.1) r.2.1 r.2.2.1)) := by
    unfold p_itR
    simp only [List.map_append, p_itR0_w0]
  intro r hr
  exact p_bk_in (List.map_inj_left.mp key r hr)
theorem p_lt_eq : p_lt = p_ltR.map (fun r => (r.1, r.2.1, r.2.2.1)) := by decide +kernel
theorem p_it_eq : p_it = p_itR.map (fun r => (r.1, r.2.1, r.2.2.1)) := by decide +kernel
set_option maxRecDepth 100000 in
theorem p_dc0 : (List.range 10).map (fun k => ((p_cl 0).2.1 k).1) = (List.range 10).map (fun _ => (p_cl 0).1) := rfl
set_option maxRecDepth 100000 in
theorem p_u0 : [373, 375, 377, 379, 381, 383, 385, 387, 389, 391].map (fun k => lw_tbl[k]?) = (u_ws (p_cl 0).1 (p_cl 0).2.1 (p_cl 0).2.2).map some := rfl
set_option maxRecDepth 100000 in
theorem p_dc1 : (List.range 3).map (fun k => ((p_cl 1).2.1 k).1) = (List.range 3).map (fun _ => (p_cl 1).1) := rfl
set_option maxRecDepth 100000 in
theorem p_u1 : [476, 478, 480].map (fun k => lw_tbl[k]?) = (u_ws (p_cl 1).1 (p_cl 1).2.1 (p_cl 1).2.2).map some := rfl
set_option maxRecDepth 100000 in
theorem p_dc2 : (List.range 2).map (fun k => ((p_cl 2).2.1 k).1) = (List.range 2).map (fun _ => (p_cl 2).1) := rfl
set_option maxRecDepth 100000 in
theorem p_u2 : [536, 538].map (fun k => lw_tbl[k]?) = (u_ws (p_cl 2).1 (p_cl 2).2.1 (p_cl 2).2.2).map some := rfl
set_option maxRecDepth 100000 in
theorem p_dc3 : (List.range 18).map (fun k => ((p_cl 3).2.1 k).1) = (List.range 18).map (fun _ => (p_cl 3).1) := rfl
set_option maxRecDepth 100000 in
theorem p_u3 : [249, 251, 253, 255, 257, 259, 261, 263, 265, 267, 269, 271, 273, 275, 277, 279, 281, 283].map (fun k => lw_tbl[k]?) = (u_ws (p_cl 3).1 (p_cl 3).2.1 (p_cl 3).2.2).map some := rfl
set_option maxRecDepth 100000 in
theorem p_dc4 : (List.range 6).map (fun k => ((p_cl 4).2.1 k).1) = (List.range 6).map (fun _ => (p_cl 4).1) := rfl
set_option maxRecDepth 100000 in
theorem p_u4 : [436, 438, 440, 442, 444, 446].map (fun k => lw_tbl[k]?) = (u_ws (p_cl 4).1 (p_cl 4).2.1 (p_cl 4).2.2).map some := rfl
set_option maxRecDepth 100000 in
theorem p_dc5 : (List.range 6).map (fun k => ((p_cl 5).2.1 k).1) = (List.range 6).map (fun _ => (p_cl 5).1) := rfl
set_option maxRecDepth 100000 in
theorem p_u5 : [408, 410, 412, 414, 416, 418].map (fun k => lw_tbl[k]?) = (u_ws (p_cl 5).1 (p_cl 5).2.1 (p_cl 5).2.2).map some := rfl
set_option maxRecDepth 100000 in
theorem p_dc6 : (List.range 8).map (fun k => ((p_cl 6).2.1 k).1) = (List.range 8).map (fun _ => (p_cl 6).1) := rfl
set_option maxRecDepth 100000 in
theorem p_u6 : [507, 509, 511, 513, 515, 517, 519, 521].map (fun k => lw_tbl[k]?) = (u_ws (p_cl 6).1 (p_cl 6).2.1 (p_cl 6).2.2).map some := rfl
set_option maxRecDepth 100000 in
theorem p_dc7 : (List.range 12).map (fun k => ((p_cl 7).2.1 k).1) = (List.range 12).map (fun _ => (p_cl 7).1) := rfl
set_option maxRecDepth 100000 in
theorem p_u7 : [163, 165, 167, 169, 171, 173, 175, 177, 179, 181, 183, 185].map (fun k => lw_tbl[k]?) = (u_ws (p_cl 7).1 (p_cl 7).2.1 (p_cl 7).2.2).map some := rfl
set_option maxRecDepth 100000 in
theorem p_dc8 : (List.range 8).map (fun k => ((p_cl 8).2.1 k).1) = (List.range 8).map (fun _ => (p_cl 8).1) := rfl
set_option maxRecDepth 100000 in
theorem p_u8 : [326, 328, 330, 332, 334, 336, 338, 340].map (fun k => lw_tbl[k]?) = (u_ws (p_cl 8).1 (p_cl 8).2.1 (p_cl 8).2.2).map some := rfl
set_option maxRecDepth 100000 in
theorem p_dc9 : (List.range 3).map (fun k => ((p_cl 9).2.1 k).1) = (List.range 3).map (fun _ => (p_cl 9).1) := rfl
set_option maxRecDepth 100000 in
theorem p_u9 : [455, 457, 459].map (fun k => lw_tbl[k]?) = (u_ws (p_cl 9).1 (p_cl 9).2.1 (p_cl 9).2.2).map some := rfl
set_option maxRecDepth 100000 in
theorem p_dc10 : (List.range 11).map (fun k => ((p_cl 10).2.1 k).1) = (List.range 11).map (fun _ => (p_cl 10).1) := rfl
set_option maxRecDepth 100000 in
theorem p_u10 : [552, 554, 556, 558, 560, 562, 564, 566, 568, 570, 572].map (fun k => lw_tbl[k]?) = (u_ws (p_cl 10).1 (p_cl 10).2.1 (p_cl 10).2.2).map some := rfl
set_option maxRecDepth 100000 in
theorem p_dc11 : (List.range 42).map (fun k => ((p_cl 11).2.1 k).1) = (List.range 42).map (fun _ => (p_cl 11).1) := rfl
set_option maxRecDepth 100000 in
theorem p_u11 : [1458, 1460, 1462, 1464, 1466, 1468, 1470, 1472, 1474, 1476, 1478, 1480, 1482, 1484, 1486, 1488, 1490, 1492, 1494, 1496, 1498, 1500, 1502, 1504, 1506, 1508, 1510, 1512, 1514, 1516, 1518, 1520, 1522, 1524, 1526, 1528, 1530, 1532, 1534, 1536, 1538, 1540].map (fun k => lw_tbl[k]?) = (u_ws (p_cl 11).1 (p_cl 11).2.1 (p_cl 11).2.2).map some := rfl
