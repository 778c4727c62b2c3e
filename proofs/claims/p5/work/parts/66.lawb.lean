set_option maxRecDepth 100000 in
set_option maxHeartbeats 4000000 in
theorem law_near (G : pG) : law_C G 907 := by
  intro i M c h0 h6 hL J hc kk
  refine PX.run ?_
  refine PW.aload_n q_284_907 rfl ?_
  refine PW.aload_n q_284_908 rfl ?_
  refine PW.iload q_284_909 rfl ?_
  refine PW.cI q_284_911 (by decide) fun c1 hc1 => ?_
  refine PW.addN q_284_912 (by omega) (by omega) fun x2 hx2 => ?_
  refine PW.sld q_284_913 (vp_in_iff.mpr ⟨by omega, by omega⟩) ?_
  refine PW.hvI fun a3 => ?_
  refine PW.aload_n q_284_914 rfl ?_
  refine PW.iload q_284_915 rfl ?_
  refine PW.cI q_284_917 (by decide) fun c4 hc4 => ?_
  refine PW.addN q_284_918 (by omega) (by omega) fun x5 hx5 => ?_
  refine PW.sld q_284_919 (vp_in_iff.mpr ⟨by omega, by omega⟩) ?_
  refine PW.hvI fun a6 => ?_
  refine PW.aload_n q_284_920 rfl ?_
  refine PW.iload q_284_921 rfl ?_
  refine PW.cI q_284_923 (by decide) fun c7 hc7 => ?_
  refine PW.addN q_284_924 (by omega) (by omega) fun x8 hx8 => ?_
  refine PW.sld q_284_925 (vp_in_iff.mpr ⟨by omega, by omega⟩) ?_
  refine PW.hvI fun a9 => ?_
  refine PW.aload_n q_284_926 rfl ?_
  refine PW.iload q_284_927 rfl ?_
  refine PW.cI q_284_929 (by decide) fun c10 hc10 => ?_
  refine PW.addN q_284_930 (by omega) (by omega) fun x11 hx11 => ?_
  refine PW.sld q_284_931 (vp_in_iff.mpr ⟨by omega, by omega⟩) ?_
  refine PW.hvI fun a12 => ?_
  refine PW.aload_n q_284_932 rfl ?_
  refine PW.iload q_284_933 rfl ?_
  refine PW.cI q_284_935 (by decide) fun c13 hc13 => ?_
  refine PW.addN q_284_936 (by omega) (by omega) fun x14 hx14 => ?_
  refine PW.sld q_284_937 (vp_in_iff.mpr ⟨by omega, by omega⟩) ?_
  refine PW.hvI fun a15 => ?_
  refine PW.aload_n q_284_938 rfl ?_
  refine PW.exit ?_
  refine PX.callX (as := [.ref 0, .int a3, .int a6, .int a9, .int a12, .int a15, .ref 310]) (rest := []) q_284_939 t_ms_284_127 wc_near wc_ini ⟨by decide +kernel, by decide +kernel⟩ (show (parseMethodDescriptor (p_mY 282).desc).map (fun d => d.parameters.length) = some 7 from by decide +kernel) (by decide +kernel) (Nat.le_of_ble_eq_true rfl) (by show 311 + c + 1 ≤ 1000; omega) (by show 8628 + 6 * c + 6 ≤ 13000; omega) (met_near G a3 a6 a9 a12 a15 M J) ?_
  intro vM16 NM16 M16 hvM16
  obtain ⟨⟨yM16, rfl⟩, rfl, JM16⟩ := hvM16
  refine PX.run ?_
  refine PW.istore q_284_942 (by decide) ?_
  refine PW.aload_n q_284_944 rfl ?_
  refine PW.aload_n q_284_945 rfl ?_
  refine PW.iload q_284_946 rfl ?_
  refine PW.cI q_284_948 (by decide) fun c17 hc17 => ?_
  refine PW.addN q_284_949 (by omega) (by omega) fun x18 hx18 => ?_
  refine PW.sld q_284_950 (vp_in_iff.mpr ⟨by omega, by omega⟩) ?_
  refine PW.hvI fun a19 => ?_
  refine PW.aload_n q_284_951 rfl ?_
  refine PW.iload q_284_952 rfl ?_
  refine PW.cI q_284_954 (by decide) fun c20 hc20 => ?_
  refine PW.addN q_284_955 (by omega) (by omega) fun x21 hx21 => ?_
  refine PW.sld q_284_956 (vp_in_iff.mpr ⟨by omega, by omega⟩) ?_
  refine PW.hvI fun a22 => ?_
  refine PW.aload_n q_284_957 rfl ?_
  refine PW.iload q_284_958 rfl ?_
  refine PW.cI q_284_960 (by decide) fun c23 hc23 => ?_
  refine PW.addN q_284_961 (by omega) (by omega) fun x24 hx24 => ?_
  refine PW.sld q_284_962 (vp_in_iff.mpr ⟨by omega, by omega⟩) ?_
  refine PW.hvI fun a25 => ?_
  refine PW.aload_n q_284_963 rfl ?_
  refine PW.iload q_284_964 rfl ?_
  refine PW.cI q_284_966 (by decide) fun c26 hc26 => ?_
  refine PW.addN q_284_967 (by omega) (by omega) fun x27 hx27 => ?_
  refine PW.sld q_284_968 (vp_in_iff.mpr ⟨by omega, by omega⟩) ?_
  refine PW.hvI fun a28 => ?_
  refine PW.aload_n q_284_969 rfl ?_
  refine PW.iload q_284_970 rfl ?_
  refine PW.cI q_284_972 (by decide) fun c29 hc29 => ?_
  refine PW.addN q_284_973 (by omega) (by omega) fun x30 hx30 => ?_
  refine PW.sld q_284_974 (vp_in_iff.mpr ⟨by omega, by omega⟩) ?_
  refine PW.hvI fun a31 => ?_
  refine PW.cV (as := [_, _, _, _, _]) (rest := []) q_284_975 t_mv_284_130 kd_294 JM16.1.1 (by decide) rfl (by decide) rfl rfl (Nat.le_of_ble_eq_true rfl) (Nat.le_of_ble_eq_true rfl) (by show 311 + c + 1 + 0 ≤ 1000; omega) (by show 8628 + 6 * c + 6 + 0 ≤ 13000; omega) ?_
  refine PW.up (by decide) (c_X12_near G _ M16 JM16.1 a19 a22 a25 a28 a31 fun y32 M32 IM32 FM32 lM32 => ?_)
  have e2 : o_i (M32 1) 1 = o_i (M16 1) 1 := by rw [Fr.at FM32 kd_1 rfl]
  have lf : o_i (M32 294) 2 = o_i (M16 294) 2 := lM32.1
  have k0 := JM16.2.2.1
  have b0 := JM16.len0
  have f0 : o_i (M32 0) 10 = o_i (M16 0) 10 := by rw [(Fr.at FM32 kd_0 rfl)]
  have f1 : o_i (M32 294) 15 = o_i (M16 294) 15 := lM32.2.2
  have fj : o_i (M16 0) 10 = o_i (M16 294) 15 := JM16.2.2.2.2.2.2.2.2
  have fe : FE M32 := by unfold FE; omega
  have JM32 : LI M32 := ⟨IM32, by rw [Fr.at FM32 kd_310 rfl]; exact JM16.2.1, by omega, JM16.2.2.2.1.cg (by rw [Fr.at FM32 kd_2 rfl]) (by rw [Fr.at FM32 kd_295 rfl]) (by omega), JM16.2.2.2.2.1.cg (by rw [Fr.at FM32 kd_300 rfl]), JM16.2.2.2.2.2.1.cg (by rw [Fr.at FM32 kd_109 rfl]) (by rw [Fr.at FM32 kd_309 rfl]), JM16.2.2.2.2.2.2.1.cg (by rw [Fr.at FM32 kd_4 rfl]) (by rw [Fr.at FM32 kd_40 rfl]) (by rw [Fr.at FM32 kd_75 rfl]) (by rw [Fr.at FM32 kd_109 rfl]) (by rw [Fr.at FM32 kd_307 rfl]) (gHs.cg gHs.refl (by rw [Fr.at FM32 kd_296 rfl])), JM16.2.2.2.2.2.2.2.1.cg (by rw [Fr.at FM32 kd_4 rfl]) (by rw [Fr.at FM32 kd_40 rfl]) (by rw [Fr.at FM32 kd_75 rfl]) (by rw [Fr.at FM32 kd_5 rfl]) (by rw [Fr.at FM32 kd_41 rfl]) (by rw [Fr.at FM32 kd_76 rfl]) (by rw [Fr.at FM32 kd_109 rfl]) (by rw [Fr.at FM32 kd_308 rfl]) (by rw [Fr.at FM32 kd_299 rfl]), fe⟩
  refine PW.lstore q_284_978 (by decide) ?_
  refine PW.goto q_284_980 rfl ?_
  refine PW.incN q_284_1546 rfl (by decide) (by decide) (by omega) (by omega) fun x33 hx33 => ?_
  refine PW.goto q_284_1549 rfl ?_
  refine PW.cs (ce' := 311 + (c + 1)) (sl' := 8628 + 6 * (c + 1)) (by show 311 + c + 1 + 0 = _; omega) (by show 8628 + 6 * c + 6 + 0 = _; omega) ?_
  refine PW.lvS (lv' := law_lv x33) (lk1 rfl (lk1 rfl (lk1 rfl (lk1 rfl (lk1 rfl lk0))))) ?_
  exact PW.exit (kk M32 (c + 1) x33 JM32 (by omega) (by omega))
set_option maxRecDepth 100000 in
set_option maxHeartbeats 4000000 in
theorem law_ends (G : pG) : law_C G 983 := by
  intro i M c h0 h6 hL J hc kk
  refine PX.run ?_
  refine PW.aload_n q_284_983 rfl ?_
  refine PW.aload_n q_284_984 rfl ?_
  refine PW.iload q_284_985 rfl ?_
  refine PW.cI q_284_987 (by decide) fun c1 hc1 => ?_
  refine PW.addN q_284_988 (by omega) (by omega) fun x2 hx2 => ?_
  refine PW.sld q_284_989 (vp_in_iff.mpr ⟨by omega, by omega⟩) ?_
  refine PW.hvI fun a3 => ?_
  refine PW.aload_n q_284_990 rfl ?_
  refine PW.iload q_284_991 rfl ?_
  refine PW.cI q_284_993 (by decide) fun c4 hc4 => ?_
  refine PW.addN q_284_994 (by omega) (by omega) fun x5 hx5 => ?_
  refine PW.sld q_284_995 (vp_in_iff.mpr ⟨by omega, by omega⟩) ?_
  refine PW.hvI fun a6 => ?_
  refine PW.aload_n q_284_996 rfl ?_
  refine PW.iload q_284_997 rfl ?_
  refine PW.cI q_284_999 (by decide) fun c7 hc7 => ?_
  refine PW.addN q_284_1000 (by omega) (by omega) fun x8 hx8 => ?_
  refine PW.sld q_284_1001 (vp_in_iff.mpr ⟨by omega, by omega⟩) ?_
  refine PW.hvI fun a9 => ?_
  refine PW.aload_n q_284_1002 rfl ?_
  refine PW.exit ?_
  refine PX.callX (as := [.ref 0, .int a3, .int a6, .int a9, .ref 310]) (rest := []) q_284_1003 t_ms_284_131 wc_ends wc_ini ⟨by decide +kernel, by decide +kernel⟩ (show (parseMethodDescriptor (p_mY 283).desc).map (fun d => d.parameters.length) = some 5 from by decide +kernel) (by decide +kernel) (Nat.le_of_ble_eq_true rfl) (by show 311 + c + 1 ≤ 1000; omega) (by show 8628 + 6 * c + 6 ≤ 13000; omega) (met_ends G a3 a6 a9 M J) ?_
  intro vM10 NM10 M10 hvM10
  obtain ⟨⟨yM10, rfl⟩, rfl, JM10⟩ := hvM10
  refine PX.run ?_
  refine PW.istore q_284_1006 (by decide) ?_
  refine PW.aload_n q_284_1008 rfl ?_
  refine PW.aload_n q_284_1009 rfl ?_
  refine PW.iload q_284_1010 rfl ?_
  refine PW.cI q_284_1012 (by decide) fun c11 hc11 => ?_
  refine PW.addN q_284_1013 (by omega) (by omega) fun x12 hx12 => ?_
  refine PW.sld q_284_1014 (vp_in_iff.mpr ⟨by omega, by omega⟩) ?_
  refine PW.hvI fun a13 => ?_
  refine PW.aload_n q_284_1015 rfl ?_
  refine PW.iload q_284_1016 rfl ?_
  refine PW.cI q_284_1018 (by decide) fun c14 hc14 => ?_
  refine PW.addN q_284_1019 (by omega) (by omega) fun x15 hx15 => ?_
  refine PW.sld q_284_1020 (vp_in_iff.mpr ⟨by omega, by omega⟩) ?_
  refine PW.hvI fun a16 => ?_
  refine PW.aload_n q_284_1021 rfl ?_
  refine PW.iload q_284_1022 rfl ?_
  refine PW.cI q_284_1024 (by decide) fun c17 hc17 => ?_
  refine PW.addN q_284_1025 (by omega) (by omega) fun x18 hx18 => ?_
  refine PW.sld q_284_1026 (vp_in_iff.mpr ⟨by omega, by omega⟩) ?_
  refine PW.hvI fun a19 => ?_
  refine PW.cV (as := [_, _, _]) (rest := []) q_284_1027 t_mv_284_134 kd_294 JM10.1.1 (by decide) rfl (by decide) rfl rfl (Nat.le_of_ble_eq_true rfl) (Nat.le_of_ble_eq_true rfl) (by show 311 + c + 1 + 0 ≤ 1000; omega) (by show 8628 + 6 * c + 6 + 0 ≤ 13000; omega) ?_
  refine PW.up (by decide) (c_X12_ends G _ M10 JM10.1 a13 a16 a19 fun y20 M20 IM20 FM20 lM20 => ?_)
  have e2 : o_i (M20 1) 1 = o_i (M10 1) 1 := by rw [Fr.at FM20 kd_1 rfl]
  have lf : o_i (M20 294) 2 = o_i (M10 294) 2 := lM20.1
  have k0 := JM10.2.2.1
  have b0 := JM10.len0
  have f0 : o_i (M20 0) 10 = o_i (M10 0) 10 := by rw [(Fr.at FM20 kd_0 rfl)]
  have f1 : o_i (M20 294) 15 = o_i (M10 294) 15 := lM20.2.2
  have fj : o_i (M10 0) 10 = o_i (M10 294) 15 := JM10.2.2.2.2.2.2.2.2
  have fe : FE M20 := by unfold FE; omega
  have JM20 : LI M20 := ⟨IM20, by rw [Fr.at FM20 kd_310 rfl]; exact JM10.2.1, by omega, JM10.2.2.2.1.cg (by rw [Fr.at FM20 kd_2 rfl]) (by rw [Fr.at FM20 kd_295 rfl]) (by omega), JM10.2.2.2.2.1.cg (by rw [Fr.at FM20 kd_300 rfl]), JM10.2.2.2.2.2.1.cg (by rw [Fr.at FM20 kd_109 rfl]) (by rw [Fr.at FM20 kd_309 rfl]), JM10.2.2.2.2.2.2.1.cg (by rw [Fr.at FM20 kd_4 rfl]) (by rw [Fr.at FM20 kd_40 rfl]) (by rw [Fr.at FM20 kd_75 rfl]) (by rw [Fr.at FM20 kd_109 rfl]) (by rw [Fr.at FM20 kd_307 rfl]) (gHs.cg gHs.refl (by rw [Fr.at FM20 kd_296 rfl])), JM10.2.2.2.2.2.2.2.1.cg (by rw [Fr.at FM20 kd_4 rfl]) (by rw [Fr.at FM20 kd_40 rfl]) (by rw [Fr.at FM20 kd_75 rfl]) (by rw [Fr.at FM20 kd_5 rfl]) (by rw [Fr.at FM20 kd_41 rfl]) (by rw [Fr.at FM20 kd_76 rfl]) (by rw [Fr.at FM20 kd_109 rfl]) (by rw [Fr.at FM20 kd_308 rfl]) (by rw [Fr.at FM20 kd_299 rfl]), fe⟩
  refine PW.istore q_284_1030 (by decide) ?_
  refine PW.goto q_284_1032 rfl ?_
  refine PW.incN q_284_1546 rfl (by decide) (by decide) (by omega) (by omega) fun x21 hx21 => ?_
  refine PW.goto q_284_1549 rfl ?_
  refine PW.cs (ce' := 311 + (c + 1)) (sl' := 8628 + 6 * (c + 1)) (by show 311 + c + 1 + 0 = _; omega) (by show 8628 + 6 * c + 6 + 0 = _; omega) ?_
  refine PW.lvS (lv' := law_lv x21) (lk1 rfl (lk1 rfl (lk1 rfl (lk1 rfl (lk1 rfl lk0))))) ?_
  exact PW.exit (kk M20 (c + 1) x21 JM20 (by omega) (by omega))
set_option maxRecDepth 100000 in
set_option maxHeartbeats 4000000 in
theorem law_round (G : pG) : law_C G 1035 := by
  intro i M c h0 h6 hL J hc kk
  refine PX.run ?_
  refine PW.aload_n q_284_1035 rfl ?_
  refine PW.aload_n q_284_1036 rfl ?_
  refine PW.iload q_284_1037 rfl ?_
  refine PW.cI q_284_1039 (by decide) fun c1 hc1 => ?_
  refine PW.addN q_284_1040 (by omega) (by omega) fun x2 hx2 => ?_
  refine PW.sld q_284_1041 (vp_in_iff.mpr ⟨by omega, by omega⟩) ?_
  refine PW.hvI fun a3 => ?_
  refine PW.cV (as := [_]) (rest := []) q_284_1042 t_mv_284_135 kd_0 J.1.1 (by decide) rfl (by decide) rfl rfl (Nat.le_of_ble_eq_true rfl) (Nat.le_of_ble_eq_true rfl) (by show 311 + c + 0 ≤ 1000; omega) (by show 8628 + 6 * c + 0 ≤ 13000; omega) ?_
  refine PW.up (by decide) (c_X11_round G _ M J.1 a3 fun y4 M4 IM4 FM4 => ?_)
  refine PW.pop q_284_1045 rfl ?_
  refine PW.aload_n q_284_1046 rfl ?_
  refine PW.aload_n q_284_1047 rfl ?_
  refine PW.iload q_284_1048 rfl ?_
  refine PW.cI q_284_1050 (by decide) fun c5 hc5 => ?_
  refine PW.addN q_284_1051 (by omega) (by omega) fun x6 hx6 => ?_
  refine PW.sld q_284_1052 (vp_in_iff.mpr ⟨by omega, by omega⟩) ?_
  refine PW.hvI fun a7 => ?_
  refine PW.cV (as := [_]) (rest := []) q_284_1053 t_mv_284_138 kd_294 IM4.1 (by decide) rfl (by decide) rfl rfl (Nat.le_of_ble_eq_true rfl) (Nat.le_of_ble_eq_true rfl) (by show 311 + c + 0 + 0 ≤ 1000; omega) (by show 8628 + 6 * c + 0 + 0 ≤ 13000; omega) ?_
  refine PW.up (by decide) (c_X12_round G _ M4 IM4 a7 fun y8 M8 IM8 FM8 lM8 => ?_)
  have e1 : o_i (M4 294) 2 = o_i (M 294) 2 := by rw [Fr.at FM4 kd_294 rfl]
  have e3 : o_i (M4 1) 1 = o_i (M 1) 1 := by rw [Fr.at FM4 kd_1 rfl]
  have e2 : o_i (M8 1) 1 = o_i (M4 1) 1 := by rw [Fr.at FM8 kd_1 rfl]
  have lf : o_i (M8 294) 2 = o_i (M4 294) 2 := lM8.1
  have k0 := J.2.2.1
  have b0 := J.len0
  have f0 : o_i (M8 0) 10 = o_i (M 0) 10 := by rw [(Fr.at FM8 kd_0 rfl), (Fr.at FM4 kd_0 rfl)]
  have f1 : o_i (M8 294) 15 = o_i (M4 294) 15 := lM8.2.2
  have f2 : o_i (M4 294) 15 = o_i (M 294) 15 := by rw [(Fr.at FM4 kd_294 rfl)]
  have fj : o_i (M 0) 10 = o_i (M 294) 15 := J.2.2.2.2.2.2.2.2
  have fe : FE M8 := by unfold FE; omega
  have JM8 : LI M8 := ⟨IM8, by rw [Fr.at FM8 kd_310 rfl, Fr.at FM4 kd_310 rfl]; exact J.2.1, by omega, J.2.2.2.1.cg (by rw [Fr.at FM8 kd_2 rfl, Fr.at FM4 kd_2 rfl]) (by rw [Fr.at FM8 kd_295 rfl, Fr.at FM4 kd_295 rfl]) (by omega), J.2.2.2.2.1.cg (by rw [Fr.at FM8 kd_300 rfl, Fr.at FM4 kd_300 rfl]), J.2.2.2.2.2.1.cg (by rw [Fr.at FM8 kd_109 rfl, Fr.at FM4 kd_109 rfl]) (by rw [Fr.at FM8 kd_309 rfl, Fr.at FM4 kd_309 rfl]), J.2.2.2.2.2.2.1.cg (by rw [Fr.at FM8 kd_4 rfl, Fr.at FM4 kd_4 rfl]) (by rw [Fr.at FM8 kd_40 rfl, Fr.at FM4 kd_40 rfl]) (by rw [Fr.at FM8 kd_75 rfl, Fr.at FM4 kd_75 rfl]) (by rw [Fr.at FM8 kd_109 rfl, Fr.at FM4 kd_109 rfl]) (by rw [Fr.at FM8 kd_307 rfl, Fr.at FM4 kd_307 rfl]) (gHs.cg gHs.refl (by rw [Fr.at FM8 kd_296 rfl, Fr.at FM4 kd_296 rfl])), J.2.2.2.2.2.2.2.1.cg (by rw [Fr.at FM8 kd_4 rfl, Fr.at FM4 kd_4 rfl]) (by rw [Fr.at FM8 kd_40 rfl, Fr.at FM4 kd_40 rfl]) (by rw [Fr.at FM8 kd_75 rfl, Fr.at FM4 kd_75 rfl]) (by rw [Fr.at FM8 kd_5 rfl, Fr.at FM4 kd_5 rfl]) (by rw [Fr.at FM8 kd_41 rfl, Fr.at FM4 kd_41 rfl]) (by rw [Fr.at FM8 kd_76 rfl, Fr.at FM4 kd_76 rfl]) (by rw [Fr.at FM8 kd_109 rfl, Fr.at FM4 kd_109 rfl]) (by rw [Fr.at FM8 kd_308 rfl, Fr.at FM4 kd_308 rfl]) (by rw [Fr.at FM8 kd_299 rfl, Fr.at FM4 kd_299 rfl]), fe⟩
  refine PW.pop q_284_1056 rfl ?_
  refine PW.goto q_284_1057 rfl ?_
  refine PW.incN q_284_1546 rfl (by decide) (by decide) (by omega) (by omega) fun x9 hx9 => ?_
  refine PW.goto q_284_1549 rfl ?_
  refine PW.cs (ce' := 311 + c) (sl' := 8628 + 6 * c) (by show 311 + c + 0 + 0 = _; omega) (by show 8628 + 6 * c + 0 + 0 = _; omega) ?_
  refine PW.lvS (lv' := law_lv x9) (lk1 rfl (lk1 rfl (lk1 rfl (lk1 rfl (lk1 rfl lk0))))) ?_
  exact PW.exit (kk M8 c x9 JM8 (by omega) (by omega))
set_option maxRecDepth 100000 in
set_option maxHeartbeats 4000000 in
theorem law_circle (G : pG) : law_C G 1060 := by
  intro i M c h0 h6 hL J hc kk
  refine PX.run ?_
  refine PW.aload_n q_284_1060 rfl ?_
  refine PW.aload_n q_284_1061 rfl ?_
  refine PW.iload q_284_1062 rfl ?_
  refine PW.cI q_284_1064 (by decide) fun c1 hc1 => ?_
  refine PW.addN q_284_1065 (by omega) (by omega) fun x2 hx2 => ?_
  refine PW.sld q_284_1066 (vp_in_iff.mpr ⟨by omega, by omega⟩) ?_
  refine PW.hvI fun a3 => ?_
  refine PW.cV (as := [_]) (rest := []) q_284_1067 t_mv_284_139 kd_0 J.1.1 (by decide) rfl (by decide) rfl rfl (Nat.le_of_ble_eq_true rfl) (Nat.le_of_ble_eq_true rfl) (by show 311 + c + 0 ≤ 1000; omega) (by show 8628 + 6 * c + 0 ≤ 13000; omega) ?_
  refine PW.up (by decide) (c_X11_circle G _ M J.1 a3 fun y4 M4 IM4 FM4 => ?_)
  refine PW.pop q_284_1070 rfl ?_
  refine PW.aload_n q_284_1071 rfl ?_
  refine PW.aload_n q_284_1072 rfl ?_
  refine PW.iload q_284_1073 rfl ?_
  refine PW.cI q_284_1075 (by decide) fun c5 hc5 => ?_
  refine PW.addN q_284_1076 (by omega) (by omega) fun x6 hx6 => ?_
  refine PW.sld q_284_1077 (vp_in_iff.mpr ⟨by omega, by omega⟩) ?_
  refine PW.hvI fun a7 => ?_
  refine PW.cV (as := [_]) (rest := []) q_284_1078 t_mv_284_142 kd_294 IM4.1 (by decide) rfl (by decide) rfl rfl (Nat.le_of_ble_eq_true rfl) (Nat.le_of_ble_eq_true rfl) (by show 311 + c + 0 + 0 ≤ 1000; omega) (by show 8628 + 6 * c + 0 + 0 ≤ 13000; omega) ?_
  refine PW.up (by decide) (c_X12_circle G _ M4 IM4 a7 fun y8 M8 IM8 FM8 lM8 => ?_)
  have e1 : o_i (M4 294) 2 = o_i (M 294) 2 := by rw [Fr.at FM4 kd_294 rfl]
  have e3 : o_i (M4 1) 1 = o_i (M 1) 1 := by rw [Fr.at FM4 kd_1 rfl]
  have e2 : o_i (M8 1) 1 = o_i (M4 1) 1 := by rw [Fr.at FM8 kd_1 rfl]
  have lf : o_i (M8 294) 2 = o_i (M4 294) 2 := lM8.1
  have k0 := J.2.2.1
  have b0 := J.len0
  have f0 : o_i (M8 0) 10 = o_i (M 0) 10 := by rw [(Fr.at FM8 kd_0 rfl), (Fr.at FM4 kd_0 rfl)]
  have f1 : o_i (M8 294) 15 = o_i (M4 294) 15 := lM8.2.2
  have f2 : o_i (M4 294) 15 = o_i (M 294) 15 := by rw [(Fr.at FM4 kd_294 rfl)]
  have fj : o_i (M 0) 10 = o_i (M 294) 15 := J.2.2.2.2.2.2.2.2
  have fe : FE M8 := by unfold FE; omega
  have JM8 : LI M8 := ⟨IM8, by rw [Fr.at FM8 kd_310 rfl, Fr.at FM4 kd_310 rfl]; exact J.2.1, by omega, J.2.2.2.1.cg (by rw [Fr.at FM8 kd_2 rfl, Fr.at FM4 kd_2 rfl]) (by rw [Fr.at FM8 kd_295 rfl, Fr.at FM4 kd_295 rfl]) (by omega), J.2.2.2.2.1.cg (by rw [Fr.at FM8 kd_300 rfl, Fr.at FM4 kd_300 rfl]), J.2.2.2.2.2.1.cg (by rw [Fr.at FM8 kd_109 rfl, Fr.at FM4 kd_109 rfl]) (by rw [Fr.at FM8 kd_309 rfl, Fr.at FM4 kd_309 rfl]), J.2.2.2.2.2.2.1.cg (by rw [Fr.at FM8 kd_4 rfl, Fr.at FM4 kd_4 rfl]) (by rw [Fr.at FM8 kd_40 rfl, Fr.at FM4 kd_40 rfl]) (by rw [Fr.at FM8 kd_75 rfl, Fr.at FM4 kd_75 rfl]) (by rw [Fr.at FM8 kd_109 rfl, Fr.at FM4 kd_109 rfl]) (by rw [Fr.at FM8 kd_307 rfl, Fr.at FM4 kd_307 rfl]) (gHs.cg gHs.refl (by rw [Fr.at FM8 kd_296 rfl, Fr.at FM4 kd_296 rfl])), J.2.2.2.2.2.2.2.1.cg (by rw [Fr.at FM8 kd_4 rfl, Fr.at FM4 kd_4 rfl]) (by rw [Fr.at FM8 kd_40 rfl, Fr.at FM4 kd_40 rfl]) (by rw [Fr.at FM8 kd_75 rfl, Fr.at FM4 kd_75 rfl]) (by rw [Fr.at FM8 kd_5 rfl, Fr.at FM4 kd_5 rfl]) (by rw [Fr.at FM8 kd_41 rfl, Fr.at FM4 kd_41 rfl]) (by rw [Fr.at FM8 kd_76 rfl, Fr.at FM4 kd_76 rfl]) (by rw [Fr.at FM8 kd_109 rfl, Fr.at FM4 kd_109 rfl]) (by rw [Fr.at FM8 kd_308 rfl, Fr.at FM4 kd_308 rfl]) (by rw [Fr.at FM8 kd_299 rfl, Fr.at FM4 kd_299 rfl]), fe⟩
  refine PW.pop q_284_1081 rfl ?_
  refine PW.goto q_284_1082 rfl ?_
  refine PW.incN q_284_1546 rfl (by decide) (by decide) (by omega) (by omega) fun x9 hx9 => ?_
  refine PW.goto q_284_1549 rfl ?_
  refine PW.cs (ce' := 311 + c) (sl' := 8628 + 6 * c) (by show 311 + c + 0 + 0 = _; omega) (by show 8628 + 6 * c + 0 + 0 = _; omega) ?_
  refine PW.lvS (lv' := law_lv x9) (lk1 rfl (lk1 rfl (lk1 rfl (lk1 rfl (lk1 rfl lk0))))) ?_
  exact PW.exit (kk M8 c x9 JM8 (by omega) (by omega))
set_option maxRecDepth 100000 in
set_option maxHeartbeats 4000000 in
theorem law_strays (G : pG) : law_C G 1085 := by
  intro i M c h0 h6 hL J hc kk
  refine PX.run ?_
  refine PW.aload_n q_284_1085 rfl ?_
  refine PW.cV (as := []) (rest := []) q_284_1086 t_mv_284_143 kd_0 J.1.1 (by decide) rfl (by decide) rfl rfl (Nat.le_of_ble_eq_true rfl) (Nat.le_of_ble_eq_true rfl) (by show 311 + c + 0 ≤ 1000; omega) (by show 8628 + 6 * c + 0 ≤ 13000; omega) ?_
  refine PW.up (by decide) (c_X11_strays G _ M J.1  fun y1 M1 IM1 FM1 => ?_)
  refine PW.pop q_284_1089 rfl ?_
  refine PW.aload_n q_284_1090 rfl ?_
  refine PW.cV (as := []) (rest := []) q_284_1091 t_mv_284_146 kd_294 IM1.1 (by decide) rfl (by decide) rfl rfl (Nat.le_of_ble_eq_true rfl) (Nat.le_of_ble_eq_true rfl) (by show 311 + c + 0 + 0 ≤ 1000; omega) (by show 8628 + 6 * c + 0 + 0 ≤ 13000; omega) ?_
  refine PW.up (by decide) (c_X12_strays G _ M1 IM1  fun y2 M2 IM2 FM2 lM2 => ?_)
  have e1 : o_i (M1 294) 2 = o_i (M 294) 2 := by rw [Fr.at FM1 kd_294 rfl]
  have e3 : o_i (M1 1) 1 = o_i (M 1) 1 := by rw [Fr.at FM1 kd_1 rfl]
  have e2 : o_i (M2 1) 1 = o_i (M1 1) 1 := by rw [Fr.at FM2 kd_1 rfl]
  have lf : o_i (M2 294) 2 = o_i (M1 294) 2 := lM2.1
  have k0 := J.2.2.1
  have b0 := J.len0
  have f0 : o_i (M2 0) 10 = o_i (M 0) 10 := by rw [(Fr.at FM2 kd_0 rfl), (Fr.at FM1 kd_0 rfl)]
  have f1 : o_i (M2 294) 15 = o_i (M1 294) 15 := lM2.2.2
  have f2 : o_i (M1 294) 15 = o_i (M 294) 15 := by rw [(Fr.at FM1 kd_294 rfl)]
  have fj : o_i (M 0) 10 = o_i (M 294) 15 := J.2.2.2.2.2.2.2.2
  have fe : FE M2 := by unfold FE; omega
  have JM2 : LI M2 := ⟨IM2, by rw [Fr.at FM2 kd_310 rfl, Fr.at FM1 kd_310 rfl]; exact J.2.1, by omega, J.2.2.2.1.cg (by rw [Fr.at FM2 kd_2 rfl, Fr.at FM1 kd_2 rfl]) (by rw [Fr.at FM2 kd_295 rfl, Fr.at FM1 kd_295 rfl]) (by omega), J.2.2.2.2.1.cg (by rw [Fr.at FM2 kd_300 rfl, Fr.at FM1 kd_300 rfl]), J.2.2.2.2.2.1.cg (by rw [Fr.at FM2 kd_109 rfl, Fr.at FM1 kd_109 rfl]) (by rw [Fr.at FM2 kd_309 rfl, Fr.at FM1 kd_309 rfl]), J.2.2.2.2.2.2.1.cg (by rw [Fr.at FM2 kd_4 rfl, Fr.at FM1 kd_4 rfl]) (by rw [Fr.at FM2 kd_40 rfl, Fr.at FM1 kd_40 rfl]) (by rw [Fr.at FM2 kd_75 rfl, Fr.at FM1 kd_75 rfl]) (by rw [Fr.at FM2 kd_109 rfl, Fr.at FM1 kd_109 rfl]) (by rw [Fr.at FM2 kd_307 rfl, Fr.at FM1 kd_307 rfl]) (gHs.tr (gHs.cg gHs.refl (Fr.at FM1 kd_296 rfl)) lM2.2.1), J.2.2.2.2.2.2.2.1.cg (by rw [Fr.at FM2 kd_4 rfl, Fr.at FM1 kd_4 rfl]) (by rw [Fr.at FM2 kd_40 rfl, Fr.at FM1 kd_40 rfl]) (by rw [Fr.at FM2 kd_75 rfl, Fr.at FM1 kd_75 rfl]) (by rw [Fr.at FM2 kd_5 rfl, Fr.at FM1 kd_5 rfl]) (by rw [Fr.at FM2 kd_41 rfl, Fr.at FM1 kd_41 rfl]) (by rw [Fr.at FM2 kd_76 rfl, Fr.at FM1 kd_76 rfl]) (by rw [Fr.at FM2 kd_109 rfl, Fr.at FM1 kd_109 rfl]) (by rw [Fr.at FM2 kd_308 rfl, Fr.at FM1 kd_308 rfl]) (by rw [Fr.at FM2 kd_299 rfl, Fr.at FM1 kd_299 rfl]), fe⟩
  refine PW.pop q_284_1094 rfl ?_
  refine PW.goto q_284_1095 rfl ?_
  refine PW.incN q_284_1546 rfl (by decide) (by decide) (by omega) (by omega) fun x3 hx3 => ?_
  refine PW.goto q_284_1549 rfl ?_
  refine PW.cs (ce' := 311 + c) (sl' := 8628 + 6 * c) (by show 311 + c + 0 + 0 = _; omega) (by show 8628 + 6 * c + 0 + 0 = _; omega) ?_
  refine PW.lvS (lv' := law_lv x3) (lk1 rfl (lk1 rfl (lk1 rfl (lk1 rfl (lk1 rfl lk0))))) ?_
  exact PW.exit (kk M2 c x3 JM2 (by omega) (by omega))
set_option maxRecDepth 100000 in
set_option maxHeartbeats 4000000 in
theorem law_least (G : pG) : law_C G 1098 := by
  intro i M c h0 h6 hL J hc kk
  refine PX.run ?_
  refine PW.aload_n q_284_1098 rfl ?_
  refine PW.aload_n q_284_1099 rfl ?_
  refine PW.iload q_284_1100 rfl ?_
  refine PW.cI q_284_1102 (by decide) fun c1 hc1 => ?_
  refine PW.addN q_284_1103 (by omega) (by omega) fun x2 hx2 => ?_
  refine PW.sld q_284_1104 (vp_in_iff.mpr ⟨by omega, by omega⟩) ?_
  refine PW.hvI fun a3 => ?_
  refine PW.aload_n q_284_1105 rfl ?_
  refine PW.iload q_284_1106 rfl ?_
  refine PW.cI q_284_1108 (by decide) fun c4 hc4 => ?_
  refine PW.addN q_284_1109 (by omega) (by omega) fun x5 hx5 => ?_
  refine PW.sld q_284_1110 (vp_in_iff.mpr ⟨by omega, by omega⟩) ?_
  refine PW.hvI fun a6 => ?_
  refine PW.cV (as := [_, _]) (rest := []) q_284_1111 t_mv_284_147 kd_0 J.1.1 (by decide) rfl (by decide) rfl rfl (Nat.le_of_ble_eq_true rfl) (Nat.le_of_ble_eq_true rfl) (by show 311 + c + 0 ≤ 1000; omega) (by show 8628 + 6 * c + 0 ≤ 13000; omega) ?_
  refine PW.up (by decide) (c_X11_least G _ M J.1 a3 a6 fun y7 M7 IM7 FM7 => ?_)
  refine PW.pop q_284_1114 rfl ?_
  refine PW.aload_n q_284_1115 rfl ?_
  refine PW.aload_n q_284_1116 rfl ?_
  refine PW.iload q_284_1117 rfl ?_
  refine PW.cI q_284_1119 (by decide) fun c8 hc8 => ?_
  refine PW.addN q_284_1120 (by omega) (by omega) fun x9 hx9 => ?_
  refine PW.sld q_284_1121 (vp_in_iff.mpr ⟨by omega, by omega⟩) ?_
  refine PW.hvI fun a10 => ?_
  refine PW.aload_n q_284_1122 rfl ?_
  refine PW.iload q_284_1123 rfl ?_
  refine PW.cI q_284_1125 (by decide) fun c11 hc11 => ?_
  refine PW.addN q_284_1126 (by omega) (by omega) fun x12 hx12 => ?_
  refine PW.sld q_284_1127 (vp_in_iff.mpr ⟨by omega, by omega⟩) ?_
  refine PW.hvI fun a13 => ?_
  refine PW.cV (as := [_, _]) (rest := []) q_284_1128 t_mv_284_150 kd_294 IM7.1 (by decide) rfl (by decide) rfl rfl (Nat.le_of_ble_eq_true rfl) (Nat.le_of_ble_eq_true rfl) (by show 311 + c + 0 + 0 ≤ 1000; omega) (by show 8628 + 6 * c + 0 + 0 ≤ 13000; omega) ?_
  refine PW.up (by decide) (c_X12_least G _ M7 IM7 a10 a13 fun y14 M14 IM14 FM14 lM14 => ?_)
  have e1 : o_i (M7 294) 2 = o_i (M 294) 2 := by rw [Fr.at FM7 kd_294 rfl]
  have e3 : o_i (M7 1) 1 = o_i (M 1) 1 := by rw [Fr.at FM7 kd_1 rfl]
  have e2 : o_i (M14 1) 1 = o_i (M7 1) 1 := by rw [Fr.at FM14 kd_1 rfl]
  have lf : o_i (M14 294) 2 = o_i (M7 294) 2 := lM14.1
  have k0 := J.2.2.1
  have b0 := J.len0
  have f0 : o_i (M14 0) 10 = o_i (M 0) 10 := by rw [(Fr.at FM14 kd_0 rfl), (Fr.at FM7 kd_0 rfl)]
  have f1 : o_i (M14 294) 15 = o_i (M7 294) 15 := lM14.2.2
  have f2 : o_i (M7 294) 15 = o_i (M 294) 15 := by rw [(Fr.at FM7 kd_294 rfl)]
  have fj : o_i (M 0) 10 = o_i (M 294) 15 := J.2.2.2.2.2.2.2.2
  have fe : FE M14 := by unfold FE; omega
  have JM14 : LI M14 := ⟨IM14, by rw [Fr.at FM14 kd_310 rfl, Fr.at FM7 kd_310 rfl]; exact J.2.1, by omega, J.2.2.2.1.cg (by rw [Fr.at FM14 kd_2 rfl, Fr.at FM7 kd_2 rfl]) (by rw [Fr.at FM14 kd_295 rfl, Fr.at FM7 kd_295 rfl]) (by omega), J.2.2.2.2.1.cg (by rw [Fr.at FM14 kd_300 rfl, Fr.at FM7 kd_300 rfl]), J.2.2.2.2.2.1.cg (by rw [Fr.at FM14 kd_109 rfl, Fr.at FM7 kd_109 rfl]) (by rw [Fr.at FM14 kd_309 rfl, Fr.at FM7 kd_309 rfl]), J.2.2.2.2.2.2.1.cg (by rw [Fr.at FM14 kd_4 rfl, Fr.at FM7 kd_4 rfl]) (by rw [Fr.at FM14 kd_40 rfl, Fr.at FM7 kd_40 rfl]) (by rw [Fr.at FM14 kd_75 rfl, Fr.at FM7 kd_75 rfl]) (by rw [Fr.at FM14 kd_109 rfl, Fr.at FM7 kd_109 rfl]) (by rw [Fr.at FM14 kd_307 rfl, Fr.at FM7 kd_307 rfl]) (gHs.tr (gHs.cg gHs.refl (Fr.at FM7 kd_296 rfl)) lM14.2.1), J.2.2.2.2.2.2.2.1.cg (by rw [Fr.at FM14 kd_4 rfl, Fr.at FM7 kd_4 rfl]) (by rw [Fr.at FM14 kd_40 rfl, Fr.at FM7 kd_40 rfl]) (by rw [Fr.at FM14 kd_75 rfl, Fr.at FM7 kd_75 rfl]) (by rw [Fr.at FM14 kd_5 rfl, Fr.at FM7 kd_5 rfl]) (by rw [Fr.at FM14 kd_41 rfl, Fr.at FM7 kd_41 rfl]) (by rw [Fr.at FM14 kd_76 rfl, Fr.at FM7 kd_76 rfl]) (by rw [Fr.at FM14 kd_109 rfl, Fr.at FM7 kd_109 rfl]) (by rw [Fr.at FM14 kd_308 rfl, Fr.at FM7 kd_308 rfl]) (by rw [Fr.at FM14 kd_299 rfl, Fr.at FM7 kd_299 rfl]), fe⟩
  refine PW.pop q_284_1131 rfl ?_
  refine PW.goto q_284_1132 rfl ?_
  refine PW.incN q_284_1546 rfl (by decide) (by decide) (by omega) (by omega) fun x15 hx15 => ?_
  refine PW.goto q_284_1549 rfl ?_
  refine PW.cs (ce' := 311 + c) (sl' := 8628 + 6 * c) (by show 311 + c + 0 + 0 = _; omega) (by show 8628 + 6 * c + 0 + 0 = _; omega) ?_
  refine PW.lvS (lv' := law_lv x15) (lk1 rfl (lk1 rfl (lk1 rfl (lk1 rfl (lk1 rfl lk0))))) ?_
  exact PW.exit (kk M14 c x15 JM14 (by omega) (by omega))
set_option maxRecDepth 100000 in
set_option maxHeartbeats 4000000 in
theorem law_runs (G : pG) : law_C G 1135 := by
  intro i M c h0 h6 hL J hc kk
  refine PX.run ?_
  refine PW.aload_n q_284_1135 rfl ?_
  refine PW.aload_n q_284_1136 rfl ?_
  refine PW.iload q_284_1137 rfl ?_
  refine PW.cI q_284_1139 (by decide) fun c1 hc1 => ?_
  refine PW.addN q_284_1140 (by omega) (by omega) fun x2 hx2 => ?_
  refine PW.sld q_284_1141 (vp_in_iff.mpr ⟨by omega, by omega⟩) ?_
  refine PW.hvI fun a3 => ?_
  refine PW.aload_n q_284_1142 rfl ?_
  refine PW.iload q_284_1143 rfl ?_
  refine PW.cI q_284_1145 (by decide) fun c4 hc4 => ?_
  refine PW.addN q_284_1146 (by omega) (by omega) fun x5 hx5 => ?_
  refine PW.sld q_284_1147 (vp_in_iff.mpr ⟨by omega, by omega⟩) ?_
  refine PW.hvI fun a6 => ?_
  refine PW.cV (as := [_, _]) (rest := []) q_284_1148 t_mv_284_151 kd_0 J.1.1 (by decide) rfl (by decide) rfl rfl (Nat.le_of_ble_eq_true rfl) (Nat.le_of_ble_eq_true rfl) (by show 311 + c + 0 ≤ 1000; omega) (by show 8628 + 6 * c + 0 ≤ 13000; omega) ?_
  refine PW.up (by decide) (c_X11_runs G _ M J.1 a3 a6 fun y7 M7 IM7 FM7 => ?_)
  refine PW.pop q_284_1151 rfl ?_
  refine PW.aload_n q_284_1152 rfl ?_
  refine PW.aload_n q_284_1153 rfl ?_
  refine PW.iload q_284_1154 rfl ?_
  refine PW.cI q_284_1156 (by decide) fun c8 hc8 => ?_
  refine PW.addN q_284_1157 (by omega) (by omega) fun x9 hx9 => ?_
  refine PW.sld q_284_1158 (vp_in_iff.mpr ⟨by omega, by omega⟩) ?_
  refine PW.hvI fun a10 => ?_
  refine PW.aload_n q_284_1159 rfl ?_
  refine PW.iload q_284_1160 rfl ?_
  refine PW.cI q_284_1162 (by decide) fun c11 hc11 => ?_
  refine PW.addN q_284_1163 (by omega) (by omega) fun x12 hx12 => ?_
  refine PW.sld q_284_1164 (vp_in_iff.mpr ⟨by omega, by omega⟩) ?_
  refine PW.hvI fun a13 => ?_
  refine PW.cV (as := [_, _]) (rest := []) q_284_1165 t_mv_284_154 kd_294 IM7.1 (by decide) rfl (by decide) rfl rfl (Nat.le_of_ble_eq_true rfl) (Nat.le_of_ble_eq_true rfl) (by show 311 + c + 0 + 0 ≤ 1000; omega) (by show 8628 + 6 * c + 0 + 0 ≤ 13000; omega) ?_
  refine PW.up (by decide) (c_X12_runs G _ M7 IM7 a10 a13 fun y14 M14 IM14 FM14 lM14 => ?_)
  have e1 : o_i (M7 294) 2 = o_i (M 294) 2 := by rw [Fr.at FM7 kd_294 rfl]
  have e3 : o_i (M7 1) 1 = o_i (M 1) 1 := by rw [Fr.at FM7 kd_1 rfl]
  have e2 : o_i (M14 1) 1 = o_i (M7 1) 1 := by rw [Fr.at FM14 kd_1 rfl]
  have lf : o_i (M14 294) 2 = o_i (M7 294) 2 := lM14.1
  have k0 := J.2.2.1
  have b0 := J.len0
  have f0 : o_i (M14 0) 10 = o_i (M 0) 10 := by rw [(Fr.at FM14 kd_0 rfl), (Fr.at FM7 kd_0 rfl)]
  have f1 : o_i (M14 294) 15 = o_i (M7 294) 15 := lM14.2.2
  have f2 : o_i (M7 294) 15 = o_i (M 294) 15 := by rw [(Fr.at FM7 kd_294 rfl)]
  have fj : o_i (M 0) 10 = o_i (M 294) 15 := J.2.2.2.2.2.2.2.2
  have fe : FE M14 := by unfold FE; omega
  have JM14 : LI M14 := ⟨IM14, by rw [Fr.at FM14 kd_310 rfl, Fr.at FM7 kd_310 rfl]; exact J.2.1, by omega, J.2.2.2.1.cg (by rw [Fr.at FM14 kd_2 rfl, Fr.at FM7 kd_2 rfl]) (by rw [Fr.at FM14 kd_295 rfl, Fr.at FM7 kd_295 rfl]) (by omega), J.2.2.2.2.1.cg (by rw [Fr.at FM14 kd_300 rfl, Fr.at FM7 kd_300 rfl]), J.2.2.2.2.2.1.cg (by rw [Fr.at FM14 kd_109 rfl, Fr.at FM7 kd_109 rfl]) (by rw [Fr.at FM14 kd_309 rfl, Fr.at FM7 kd_309 rfl]), J.2.2.2.2.2.2.1.cg (by rw [Fr.at FM14 kd_4 rfl, Fr.at FM7 kd_4 rfl]) (by rw [Fr.at FM14 kd_40 rfl, Fr.at FM7 kd_40 rfl]) (by rw [Fr.at FM14 kd_75 rfl, Fr.at FM7 kd_75 rfl]) (by rw [Fr.at FM14 kd_109 rfl, Fr.at FM7 kd_109 rfl]) (by rw [Fr.at FM14 kd_307 rfl, Fr.at FM7 kd_307 rfl]) (gHs.tr (gHs.cg gHs.refl (Fr.at FM7 kd_296 rfl)) lM14.2.1), J.2.2.2.2.2.2.2.1.cg (by rw [Fr.at FM14 kd_4 rfl, Fr.at FM7 kd_4 rfl]) (by rw [Fr.at FM14 kd_40 rfl, Fr.at FM7 kd_40 rfl]) (by rw [Fr.at FM14 kd_75 rfl, Fr.at FM7 kd_75 rfl]) (by rw [Fr.at FM14 kd_5 rfl, Fr.at FM7 kd_5 rfl]) (by rw [Fr.at FM14 kd_41 rfl, Fr.at FM7 kd_41 rfl]) (by rw [Fr.at FM14 kd_76 rfl, Fr.at FM7 kd_76 rfl]) (by rw [Fr.at FM14 kd_109 rfl, Fr.at FM7 kd_109 rfl]) (by rw [Fr.at FM14 kd_308 rfl, Fr.at FM7 kd_308 rfl]) (by rw [Fr.at FM14 kd_299 rfl, Fr.at FM7 kd_299 rfl]), fe⟩
  refine PW.pop q_284_1168 rfl ?_
  refine PW.goto q_284_1169 rfl ?_
  refine PW.incN q_284_1546 rfl (by decide) (by decide) (by omega) (by omega) fun x15 hx15 => ?_
  refine PW.goto q_284_1549 rfl ?_
  refine PW.cs (ce' := 311 + c) (sl' := 8628 + 6 * c) (by show 311 + c + 0 + 0 = _; omega) (by show 8628 + 6 * c + 0 + 0 = _; omega) ?_
  refine PW.lvS (lv' := law_lv x15) (lk1 rfl (lk1 rfl (lk1 rfl (lk1 rfl (lk1 rfl lk0))))) ?_
  exact PW.exit (kk M14 c x15 JM14 (by omega) (by omega))
set_option maxRecDepth 100000 in
set_option maxHeartbeats 4000000 in
theorem law_prints (G : pG) : law_C G 1172 := by
  intro i M c h0 h6 hL J hc kk
  refine PX.run ?_
  refine PW.aload_n q_284_1172 rfl ?_
  refine PW.cV (as := []) (rest := []) q_284_1173 t_mv_284_155 kd_0 J.1.1 (by decide) rfl (by decide) rfl rfl (Nat.le_of_ble_eq_true rfl) (Nat.le_of_ble_eq_true rfl) (by show 311 + c + 0 ≤ 1000; omega) (by show 8628 + 6 * c + 0 ≤ 13000; omega) ?_
  refine PW.up (by decide) (c_X11_prints_l G _ M J.1  fun y1 M1 IM1 FM1 pM1 => ?_)
  refine PW.pop q_284_1176 rfl ?_
  refine PW.aload_n q_284_1177 rfl ?_
  refine PW.cV (as := []) (rest := []) q_284_1178 t_mv_284_158 kd_294 IM1.1 (by decide) rfl (by decide) rfl rfl (Nat.le_of_ble_eq_true rfl) (Nat.le_of_ble_eq_true rfl) (by show 311 + c + 0 + 0 ≤ 1000; omega) (by show 8628 + 6 * c + 0 + 0 ≤ 13000; omega) ?_
  refine PW.up (by decide) (c_X12_prints G _ M1 IM1  fun y2 M2 IM2 FM2 lM2 => ?_)
  have e1 : o_i (M1 294) 2 = o_i (M 294) 2 := by rw [Fr.at FM1 kd_294 rfl]
  have e2 : o_i (M2 1) 1 = o_i (M1 1) 1 := by rw [Fr.at FM2 kd_1 rfl]
  have lf : o_i (M2 294) 2 = 0 := lM2.1
  have k0 := J.2.2.1
  have b0 := J.len0
  have f0 : o_i (M2 0) 10 = o_i (M 0) 10 := by rw [(Fr.at FM2 kd_0 rfl), (Fr.at FM1 kd_0 rfl)]
  have f1 : o_i (M2 294) 15 = o_i (M1 294) 15 := lM2.2.2
  have f2 : o_i (M1 294) 15 = o_i (M 294) 15 := by rw [(Fr.at FM1 kd_294 rfl)]
  have fj : o_i (M 0) 10 = o_i (M 294) 15 := J.2.2.2.2.2.2.2.2
  have fe : FE M2 := by unfold FE; omega
  have JM2 : LI M2 := ⟨IM2, by rw [Fr.at FM2 kd_310 rfl, Fr.at FM1 kd_310 rfl]; exact J.2.1, by omega, J.2.2.2.1.cg (by rw [Fr.at FM2 kd_2 rfl, Fr.at FM1 kd_2 rfl]) (by rw [Fr.at FM2 kd_295 rfl, Fr.at FM1 kd_295 rfl]) (by omega), J.2.2.2.2.1.cg (by rw [Fr.at FM2 kd_300 rfl, Fr.at FM1 kd_300 rfl]), J.2.2.2.2.2.1.cg (by rw [Fr.at FM2 kd_109 rfl, Fr.at FM1 kd_109 rfl]) (by rw [Fr.at FM2 kd_309 rfl, Fr.at FM1 kd_309 rfl]), J.2.2.2.2.2.2.1.cg (by rw [Fr.at FM2 kd_4 rfl, Fr.at FM1 kd_4 rfl]) (by rw [Fr.at FM2 kd_40 rfl, Fr.at FM1 kd_40 rfl]) (by rw [Fr.at FM2 kd_75 rfl, Fr.at FM1 kd_75 rfl]) (by rw [Fr.at FM2 kd_109 rfl, Fr.at FM1 kd_109 rfl]) (by rw [Fr.at FM2 kd_307 rfl, Fr.at FM1 kd_307 rfl]) (gHs.tr (gHs.cg gHs.refl (Fr.at FM1 kd_296 rfl)) lM2.2.1), J.2.2.2.2.2.2.2.1.cg (by rw [Fr.at FM2 kd_4 rfl, Fr.at FM1 kd_4 rfl]) (by rw [Fr.at FM2 kd_40 rfl, Fr.at FM1 kd_40 rfl]) (by rw [Fr.at FM2 kd_75 rfl, Fr.at FM1 kd_75 rfl]) (by rw [Fr.at FM2 kd_5 rfl, Fr.at FM1 kd_5 rfl]) (by rw [Fr.at FM2 kd_41 rfl, Fr.at FM1 kd_41 rfl]) (by rw [Fr.at FM2 kd_76 rfl, Fr.at FM1 kd_76 rfl]) (by rw [Fr.at FM2 kd_109 rfl, Fr.at FM1 kd_109 rfl]) (by rw [Fr.at FM2 kd_308 rfl, Fr.at FM1 kd_308 rfl]) (by rw [Fr.at FM2 kd_299 rfl, Fr.at FM1 kd_299 rfl]), fe⟩
  refine PW.pop q_284_1181 rfl ?_
  refine PW.goto q_284_1182 rfl ?_
  refine PW.incN q_284_1546 rfl (by decide) (by decide) (by omega) (by omega) fun x3 hx3 => ?_
  refine PW.goto q_284_1549 rfl ?_
  refine PW.cs (ce' := 311 + c) (sl' := 8628 + 6 * c) (by show 311 + c + 0 + 0 = _; omega) (by show 8628 + 6 * c + 0 + 0 = _; omega) ?_
  refine PW.lvS (lv' := law_lv x3) (lk1 rfl (lk1 rfl (lk1 rfl (lk1 rfl (lk1 rfl lk0))))) ?_
  exact PW.exit (kk M2 c x3 JM2 (by omega) (by omega))
set_option maxRecDepth 100000 in
set_option maxHeartbeats 4000000 in
theorem law_judge (G : pG) : law_C G 1185 := by
  intro i M c h0 h6 hL J hc kk
  refine PX.run ?_
  refine PW.aload_n q_284_1185 rfl ?_
  refine PW.aload_n q_284_1186 rfl ?_
  refine PW.iload q_284_1187 rfl ?_
  refine PW.cI q_284_1189 (by decide) fun c1 hc1 => ?_
  refine PW.addN q_284_1190 (by omega) (by omega) fun x2 hx2 => ?_
  refine PW.sld q_284_1191 (vp_in_iff.mpr ⟨by omega, by omega⟩) ?_
  refine PW.hvI fun a3 => ?_
  refine PW.cV (as := [_]) (rest := []) q_284_1192 t_mv_284_159 kd_0 J.1.1 (by decide) rfl (by decide) rfl rfl (Nat.le_of_ble_eq_true rfl) (Nat.le_of_ble_eq_true rfl) (by show 311 + c + 0 ≤ 1000; omega) (by show 8628 + 6 * c + 0 ≤ 13000; omega) ?_
  refine PW.up (by decide) (c_X11_judge_l G _ M J.1 a3 fun y4 M4 IM4 FM4 pM4 => ?_)
  refine PW.pop q_284_1195 rfl ?_
  refine PW.aload_n q_284_1196 rfl ?_
  refine PW.aload_n q_284_1197 rfl ?_
  refine PW.iload q_284_1198 rfl ?_
  refine PW.cI q_284_1200 (by decide) fun c5 hc5 => ?_
  refine PW.addN q_284_1201 (by omega) (by omega) fun x6 hx6 => ?_
  refine PW.sld q_284_1202 (vp_in_iff.mpr ⟨by omega, by omega⟩) ?_
  refine PW.hvI fun a7 => ?_
  refine PW.cV (as := [_]) (rest := []) q_284_1203 t_mv_284_162 kd_294 IM4.1 (by decide) rfl (by decide) rfl rfl (Nat.le_of_ble_eq_true rfl) (Nat.le_of_ble_eq_true rfl) (by show 311 + c + 0 + 0 ≤ 1000; omega) (by show 8628 + 6 * c + 0 + 0 ≤ 13000; omega) ?_
  refine PW.up (by decide) (c_X12_judge G _ M4 IM4 a7 fun y8 M8 IM8 FM8 lM8 => ?_)
  have e1 : o_i (M4 294) 2 = o_i (M 294) 2 := by rw [Fr.at FM4 kd_294 rfl]
  have e2 : o_i (M8 1) 1 = o_i (M4 1) 1 := by rw [Fr.at FM8 kd_1 rfl]
  have lf : o_i (M8 294) 2 = 0 := lM8.1
  have k0 := J.2.2.1
  have b0 := J.len0
  have f0 : o_i (M8 0) 10 = o_i (M 0) 10 := by rw [(Fr.at FM8 kd_0 rfl), (Fr.at FM4 kd_0 rfl)]
  have f1 : o_i (M8 294) 15 = o_i (M4 294) 15 := lM8.2.2
  have f2 : o_i (M4 294) 15 = o_i (M 294) 15 := by rw [(Fr.at FM4 kd_294 rfl)]
  have fj : o_i (M 0) 10 = o_i (M 294) 15 := J.2.2.2.2.2.2.2.2
  have fe : FE M8 := by unfold FE; omega
  have JM8 : LI M8 := ⟨IM8, by rw [Fr.at FM8 kd_310 rfl, Fr.at FM4 kd_310 rfl]; exact J.2.1, by omega, J.2.2.2.1.cg (by rw [Fr.at FM8 kd_2 rfl, Fr.at FM4 kd_2 rfl]) (by rw [Fr.at FM8 kd_295 rfl, Fr.at FM4 kd_295 rfl]) (by omega), J.2.2.2.2.1.cg (by rw [Fr.at FM8 kd_300 rfl, Fr.at FM4 kd_300 rfl]), J.2.2.2.2.2.1.cg (by rw [Fr.at FM8 kd_109 rfl, Fr.at FM4 kd_109 rfl]) (by rw [Fr.at FM8 kd_309 rfl, Fr.at FM4 kd_309 rfl]), J.2.2.2.2.2.2.1.cg (by rw [Fr.at FM8 kd_4 rfl, Fr.at FM4 kd_4 rfl]) (by rw [Fr.at FM8 kd_40 rfl, Fr.at FM4 kd_40 rfl]) (by rw [Fr.at FM8 kd_75 rfl, Fr.at FM4 kd_75 rfl]) (by rw [Fr.at FM8 kd_109 rfl, Fr.at FM4 kd_109 rfl]) (by rw [Fr.at FM8 kd_307 rfl, Fr.at FM4 kd_307 rfl]) (gHs.tr (gHs.cg gHs.refl (Fr.at FM4 kd_296 rfl)) lM8.2.1), J.2.2.2.2.2.2.2.1.cg (by rw [Fr.at FM8 kd_4 rfl, Fr.at FM4 kd_4 rfl]) (by rw [Fr.at FM8 kd_40 rfl, Fr.at FM4 kd_40 rfl]) (by rw [Fr.at FM8 kd_75 rfl, Fr.at FM4 kd_75 rfl]) (by rw [Fr.at FM8 kd_5 rfl, Fr.at FM4 kd_5 rfl]) (by rw [Fr.at FM8 kd_41 rfl, Fr.at FM4 kd_41 rfl]) (by rw [Fr.at FM8 kd_76 rfl, Fr.at FM4 kd_76 rfl]) (by rw [Fr.at FM8 kd_109 rfl, Fr.at FM4 kd_109 rfl]) (by rw [Fr.at FM8 kd_308 rfl, Fr.at FM4 kd_308 rfl]) (by rw [Fr.at FM8 kd_299 rfl, Fr.at FM4 kd_299 rfl]), fe⟩
  refine PW.pop q_284_1206 rfl ?_
  refine PW.goto q_284_1207 rfl ?_
  refine PW.incN q_284_1546 rfl (by decide) (by decide) (by omega) (by omega) fun x9 hx9 => ?_
  refine PW.goto q_284_1549 rfl ?_
  refine PW.cs (ce' := 311 + c) (sl' := 8628 + 6 * c) (by show 311 + c + 0 + 0 = _; omega) (by show 8628 + 6 * c + 0 + 0 = _; omega) ?_
  refine PW.lvS (lv' := law_lv x9) (lk1 rfl (lk1 rfl (lk1 rfl (lk1 rfl (lk1 rfl lk0))))) ?_
  exact PW.exit (kk M8 c x9 JM8 (by omega) (by omega))
set_option maxRecDepth 100000 in
set_option maxHeartbeats 4000000 in
theorem law_laws (G : pG) : law_C G 1210 := by
  intro i M c h0 h6 hL J hc kk
  refine PX.run ?_
  refine PW.aload_n q_284_1210 rfl ?_
  refine PW.cV (as := []) (rest := []) q_284_1211 t_mv_284_163 kd_0 J.1.1 (by decide) rfl (by decide) rfl rfl (Nat.le_of_ble_eq_true rfl) (Nat.le_of_ble_eq_true rfl) (by show 311 + c + 0 ≤ 1000; omega) (by show 8628 + 6 * c + 0 ≤ 13000; omega) ?_
  refine PW.up (by decide) (c_X11_laws_l G _ M J.1  fun y1 M1 IM1 FM1 pM1 => ?_)
  refine PW.pop q_284_1214 rfl ?_
  refine PW.aload_n q_284_1215 rfl ?_
  refine PW.cV (as := []) (rest := []) q_284_1216 t_mv_284_166 kd_294 IM1.1 (by decide) rfl (by decide) rfl rfl (Nat.le_of_ble_eq_true rfl) (Nat.le_of_ble_eq_true rfl) (by show 311 + c + 0 + 0 ≤ 1000; omega) (by show 8628 + 6 * c + 0 + 0 ≤ 13000; omega) ?_
  refine PW.up (by decide) (c_X12_laws G _ M1 IM1  fun y2 M2 IM2 FM2 lM2 => ?_)
  have e1 : o_i (M1 294) 2 = o_i (M 294) 2 := by rw [Fr.at FM1 kd_294 rfl]
  have e2 : o_i (M2 1) 1 = o_i (M1 1) 1 := by rw [Fr.at FM2 kd_1 rfl]
  have lf : o_i (M2 294) 2 = 0 := lM2.1
  have k0 := J.2.2.1
  have b0 := J.len0
  have f0 : o_i (M2 0) 10 = o_i (M 0) 10 := by rw [(Fr.at FM2 kd_0 rfl), (Fr.at FM1 kd_0 rfl)]
  have f1 : o_i (M2 294) 15 = o_i (M1 294) 15 := lM2.2.2
  have f2 : o_i (M1 294) 15 = o_i (M 294) 15 := by rw [(Fr.at FM1 kd_294 rfl)]
  have fj : o_i (M 0) 10 = o_i (M 294) 15 := J.2.2.2.2.2.2.2.2
  have fe : FE M2 := by unfold FE; omega
  have JM2 : LI M2 := ⟨IM2, by rw [Fr.at FM2 kd_310 rfl, Fr.at FM1 kd_310 rfl]; exact J.2.1, by omega, J.2.2.2.1.cg (by rw [Fr.at FM2 kd_2 rfl, Fr.at FM1 kd_2 rfl]) (by rw [Fr.at FM2 kd_295 rfl, Fr.at FM1 kd_295 rfl]) (by omega), J.2.2.2.2.1.cg (by rw [Fr.at FM2 kd_300 rfl, Fr.at FM1 kd_300 rfl]), J.2.2.2.2.2.1.cg (by rw [Fr.at FM2 kd_109 rfl, Fr.at FM1 kd_109 rfl]) (by rw [Fr.at FM2 kd_309 rfl, Fr.at FM1 kd_309 rfl]), J.2.2.2.2.2.2.1.cg (by rw [Fr.at FM2 kd_4 rfl, Fr.at FM1 kd_4 rfl]) (by rw [Fr.at FM2 kd_40 rfl, Fr.at FM1 kd_40 rfl]) (by rw [Fr.at FM2 kd_75 rfl, Fr.at FM1 kd_75 rfl]) (by rw [Fr.at FM2 kd_109 rfl, Fr.at FM1 kd_109 rfl]) (by rw [Fr.at FM2 kd_307 rfl, Fr.at FM1 kd_307 rfl]) (gHs.cg gHs.refl (by rw [Fr.at FM2 kd_296 rfl, Fr.at FM1 kd_296 rfl])), J.2.2.2.2.2.2.2.1.cg (by rw [Fr.at FM2 kd_4 rfl, Fr.at FM1 kd_4 rfl]) (by rw [Fr.at FM2 kd_40 rfl, Fr.at FM1 kd_40 rfl]) (by rw [Fr.at FM2 kd_75 rfl, Fr.at FM1 kd_75 rfl]) (by rw [Fr.at FM2 kd_5 rfl, Fr.at FM1 kd_5 rfl]) (by rw [Fr.at FM2 kd_41 rfl, Fr.at FM1 kd_41 rfl]) (by rw [Fr.at FM2 kd_76 rfl, Fr.at FM1 kd_76 rfl]) (by rw [Fr.at FM2 kd_109 rfl, Fr.at FM1 kd_109 rfl]) (by rw [Fr.at FM2 kd_308 rfl, Fr.at FM1 kd_308 rfl]) (by rw [Fr.at FM2 kd_299 rfl, Fr.at FM1 kd_299 rfl]), fe⟩
  refine PW.pop q_284_1219 rfl ?_
  refine PW.goto q_284_1220 rfl ?_
  refine PW.incN q_284_1546 rfl (by decide) (by decide) (by omega) (by omega) fun x3 hx3 => ?_
  refine PW.goto q_284_1549 rfl ?_
  refine PW.cs (ce' := 311 + c) (sl' := 8628 + 6 * c) (by show 311 + c + 0 + 0 = _; omega) (by show 8628 + 6 * c + 0 + 0 = _; omega) ?_
  refine PW.lvS (lv' := law_lv x3) (lk1 rfl (lk1 rfl (lk1 rfl (lk1 rfl (lk1 rfl lk0))))) ?_
  exact PW.exit (kk M2 c x3 JM2 (by omega) (by omega))
set_option maxRecDepth 100000 in
set_option maxHeartbeats 4000000 in
theorem law_turned (G : pG) : law_C G 1223 := by
  intro i M c h0 h6 hL J hc kk
  refine PX.run ?_
  refine PW.aload_n q_284_1223 rfl ?_
  refine PW.aload_n q_284_1224 rfl ?_
  refine PW.iload q_284_1225 rfl ?_
  refine PW.cI q_284_1227 (by decide) fun c1 hc1 => ?_
  refine PW.addN q_284_1228 (by omega) (by omega) fun x2 hx2 => ?_
  refine PW.sld q_284_1229 (vp_in_iff.mpr ⟨by omega, by omega⟩) ?_
  refine PW.hvI fun a3 => ?_
  refine PW.aload_n q_284_1230 rfl ?_
  refine PW.iload q_284_1231 rfl ?_
  refine PW.cI q_284_1233 (by decide) fun c4 hc4 => ?_
  refine PW.addN q_284_1234 (by omega) (by omega) fun x5 hx5 => ?_
  refine PW.sld q_284_1235 (vp_in_iff.mpr ⟨by omega, by omega⟩) ?_
  refine PW.hvI fun a6 => ?_
  refine PW.cV (as := [_, _]) (rest := []) q_284_1236 t_mv_284_167 kd_0 J.1.1 (by decide) rfl (by decide) rfl rfl (Nat.le_of_ble_eq_true rfl) (Nat.le_of_ble_eq_true rfl) (by show 311 + c + 0 ≤ 1000; omega) (by show 8628 + 6 * c + 0 ≤ 13000; omega) ?_
  refine PW.up (by decide) (c_X11_turned G _ M J.1 a3 a6 fun y7 M7 IM7 FM7 => ?_)
  refine PW.pop q_284_1239 rfl ?_
  refine PW.aload_n q_284_1240 rfl ?_
  refine PW.aload_n q_284_1241 rfl ?_
  refine PW.iload q_284_1242 rfl ?_
  refine PW.cI q_284_1244 (by decide) fun c8 hc8 => ?_
  refine PW.addN q_284_1245 (by omega) (by omega) fun x9 hx9 => ?_
  refine PW.sld q_284_1246 (vp_in_iff.mpr ⟨by omega, by omega⟩) ?_
  refine PW.hvI fun a10 => ?_
  refine PW.aload_n q_284_1247 rfl ?_
  refine PW.iload q_284_1248 rfl ?_
  refine PW.cI q_284_1250 (by decide) fun c11 hc11 => ?_
  refine PW.addN q_284_1251 (by omega) (by omega) fun x12 hx12 => ?_
  refine PW.sld q_284_1252 (vp_in_iff.mpr ⟨by omega, by omega⟩) ?_
  refine PW.hvI fun a13 => ?_
  refine PW.cV (as := [_, _]) (rest := []) q_284_1253 t_mv_284_170 kd_294 IM7.1 (by decide) rfl (by decide) rfl rfl (Nat.le_of_ble_eq_true rfl) (Nat.le_of_ble_eq_true rfl) (by show 311 + c + 0 + 0 ≤ 1000; omega) (by show 8628 + 6 * c + 0 + 0 ≤ 13000; omega) ?_
  refine PW.up (by decide) (c_X12_turned G _ M7 IM7 a10 a13 fun y14 M14 IM14 FM14 lM14 => ?_)
  have e1 : o_i (M7 294) 2 = o_i (M 294) 2 := by rw [Fr.at FM7 kd_294 rfl]
  have e3 : o_i (M7 1) 1 = o_i (M 1) 1 := by rw [Fr.at FM7 kd_1 rfl]
  have e2 : o_i (M14 1) 1 = o_i (M7 1) 1 := by rw [Fr.at FM14 kd_1 rfl]
  have lf : o_i (M14 294) 2 = o_i (M7 294) 2 := lM14.1
  have k0 := J.2.2.1
  have b0 := J.len0
  have f0 : o_i (M14 0) 10 = o_i (M 0) 10 := by rw [(Fr.at FM14 kd_0 rfl), (Fr.at FM7 kd_0 rfl)]
  have f1 : o_i (M14 294) 15 = o_i (M7 294) 15 := lM14.2.2
  have f2 : o_i (M7 294) 15 = o_i (M 294) 15 := by rw [(Fr.at FM7 kd_294 rfl)]
  have fj : o_i (M 0) 10 = o_i (M 294) 15 := J.2.2.2.2.2.2.2.2
  have fe : FE M14 := by unfold FE; omega
  have JM14 : LI M14 := ⟨IM14, by rw [Fr.at FM14 kd_310 rfl, Fr.at FM7 kd_310 rfl]; exact J.2.1, by omega, J.2.2.2.1.cg (by rw [Fr.at FM14 kd_2 rfl, Fr.at FM7 kd_2 rfl]) (by rw [Fr.at FM14 kd_295 rfl, Fr.at FM7 kd_295 rfl]) (by omega), J.2.2.2.2.1.cg (by rw [Fr.at FM14 kd_300 rfl, Fr.at FM7 kd_300 rfl]), J.2.2.2.2.2.1.cg (by rw [Fr.at FM14 kd_109 rfl, Fr.at FM7 kd_109 rfl]) (by rw [Fr.at FM14 kd_309 rfl, Fr.at FM7 kd_309 rfl]), J.2.2.2.2.2.2.1.cg (by rw [Fr.at FM14 kd_4 rfl, Fr.at FM7 kd_4 rfl]) (by rw [Fr.at FM14 kd_40 rfl, Fr.at FM7 kd_40 rfl]) (by rw [Fr.at FM14 kd_75 rfl, Fr.at FM7 kd_75 rfl]) (by rw [Fr.at FM14 kd_109 rfl, Fr.at FM7 kd_109 rfl]) (by rw [Fr.at FM14 kd_307 rfl, Fr.at FM7 kd_307 rfl]) (gHs.cg gHs.refl (by rw [Fr.at FM14 kd_296 rfl, Fr.at FM7 kd_296 rfl])), J.2.2.2.2.2.2.2.1.cg (by rw [Fr.at FM14 kd_4 rfl, Fr.at FM7 kd_4 rfl]) (by rw [Fr.at FM14 kd_40 rfl, Fr.at FM7 kd_40 rfl]) (by rw [Fr.at FM14 kd_75 rfl, Fr.at FM7 kd_75 rfl]) (by rw [Fr.at FM14 kd_5 rfl, Fr.at FM7 kd_5 rfl]) (by rw [Fr.at FM14 kd_41 rfl, Fr.at FM7 kd_41 rfl]) (by rw [Fr.at FM14 kd_76 rfl, Fr.at FM7 kd_76 rfl]) (by rw [Fr.at FM14 kd_109 rfl, Fr.at FM7 kd_109 rfl]) (by rw [Fr.at FM14 kd_308 rfl, Fr.at FM7 kd_308 rfl]) (by rw [Fr.at FM14 kd_299 rfl, Fr.at FM7 kd_299 rfl]), fe⟩
  refine PW.pop q_284_1256 rfl ?_
  refine PW.goto q_284_1257 rfl ?_
  refine PW.incN q_284_1546 rfl (by decide) (by decide) (by omega) (by omega) fun x15 hx15 => ?_
  refine PW.goto q_284_1549 rfl ?_
  refine PW.cs (ce' := 311 + c) (sl' := 8628 + 6 * c) (by show 311 + c + 0 + 0 = _; omega) (by show 8628 + 6 * c + 0 + 0 = _; omega) ?_
  refine PW.lvS (lv' := law_lv x15) (lk1 rfl (lk1 rfl (lk1 rfl (lk1 rfl (lk1 rfl lk0))))) ?_
  exact PW.exit (kk M14 c x15 JM14 (by omega) (by omega))
set_option maxRecDepth 100000 in
set_option maxHeartbeats 4000000 in
theorem law_turnedAt (G : pG) : law_C G 1260 := by
  intro i M c h0 h6 hL J hc kk
  refine PX.run ?_
  refine PW.aload_n q_284_1260 rfl ?_
  refine PW.aload_n q_284_1261 rfl ?_
  refine PW.iload q_284_1262 rfl ?_
  refine PW.cI q_284_1264 (by decide) fun c1 hc1 => ?_
  refine PW.addN q_284_1265 (by omega) (by omega) fun x2 hx2 => ?_
  refine PW.sld q_284_1266 (vp_in_iff.mpr ⟨by omega, by omega⟩) ?_
  refine PW.hvI fun a3 => ?_
  refine PW.aload_n q_284_1267 rfl ?_
  refine PW.iload q_284_1268 rfl ?_
  refine PW.cI q_284_1270 (by decide) fun c4 hc4 => ?_
  refine PW.addN q_284_1271 (by omega) (by omega) fun x5 hx5 => ?_
  refine PW.sld q_284_1272 (vp_in_iff.mpr ⟨by omega, by omega⟩) ?_
  refine PW.hvI fun a6 => ?_
  refine PW.cV (as := [_, _]) (rest := []) q_284_1273 t_mv_284_171 kd_0 J.1.1 (by decide) rfl (by decide) rfl rfl (Nat.le_of_ble_eq_true rfl) (Nat.le_of_ble_eq_true rfl) (by show 311 + c + 0 ≤ 1000; omega) (by show 8628 + 6 * c + 0 ≤ 13000; omega) ?_
  refine PW.up (by decide) (c_X11_turnedAt G _ M J.1 a3 a6 fun y7 M7 IM7 FM7 => ?_)
  refine PW.pop q_284_1276 rfl ?_
  refine PW.aload_n q_284_1277 rfl ?_
  refine PW.aload_n q_284_1278 rfl ?_
  refine PW.iload q_284_1279 rfl ?_
  refine PW.cI q_284_1281 (by decide) fun c8 hc8 => ?_
  refine PW.addN q_284_1282 (by omega) (by omega) fun x9 hx9 => ?_
  refine PW.sld q_284_1283 (vp_in_iff.mpr ⟨by omega, by omega⟩) ?_
  refine PW.hvI fun a10 => ?_
  refine PW.aload_n q_284_1284 rfl ?_
  refine PW.iload q_284_1285 rfl ?_
  refine PW.cI q_284_1287 (by decide) fun c11 hc11 => ?_
  refine PW.addN q_284_1288 (by omega) (by omega) fun x12 hx12 => ?_
  refine PW.sld q_284_1289 (vp_in_iff.mpr ⟨by omega, by omega⟩) ?_
  refine PW.hvI fun a13 => ?_
  refine PW.cV (as := [_, _]) (rest := []) q_284_1290 t_mv_284_174 kd_294 IM7.1 (by decide) rfl (by decide) rfl rfl (Nat.le_of_ble_eq_true rfl) (Nat.le_of_ble_eq_true rfl) (by show 311 + c + 0 + 0 ≤ 1000; omega) (by show 8628 + 6 * c + 0 + 0 ≤ 13000; omega) ?_
  refine PW.up (by decide) (c_X12_turnedAt G _ M7 IM7 a10 a13 fun y14 M14 IM14 FM14 lM14 => ?_)
  have e1 : o_i (M7 294) 2 = o_i (M 294) 2 := by rw [Fr.at FM7 kd_294 rfl]
  have e3 : o_i (M7 1) 1 = o_i (M 1) 1 := by rw [Fr.at FM7 kd_1 rfl]
  have e2 : o_i (M14 1) 1 = o_i (M7 1) 1 := by rw [Fr.at FM14 kd_1 rfl]
  have lf : o_i (M14 294) 2 = o_i (M7 294) 2 := lM14.1
  have k0 := J.2.2.1
  have b0 := J.len0
  have f0 : o_i (M14 0) 10 = o_i (M 0) 10 := by rw [(Fr.at FM14 kd_0 rfl), (Fr.at FM7 kd_0 rfl)]
  have f1 : o_i (M14 294) 15 = o_i (M7 294) 15 := lM14.2.2
  have f2 : o_i (M7 294) 15 = o_i (M 294) 15 := by rw [(Fr.at FM7 kd_294 rfl)]
  have fj : o_i (M 0) 10 = o_i (M 294) 15 := J.2.2.2.2.2.2.2.2
  have fe : FE M14 := by unfold FE; omega
  have JM14 : LI M14 := ⟨IM14, by rw [Fr.at FM14 kd_310 rfl, Fr.at FM7 kd_310 rfl]; exact J.2.1, by omega, J.2.2.2.1.cg (by rw [Fr.at FM14 kd_2 rfl, Fr.at FM7 kd_2 rfl]) (by rw [Fr.at FM14 kd_295 rfl, Fr.at FM7 kd_295 rfl]) (by omega), J.2.2.2.2.1.cg (by rw [Fr.at FM14 kd_300 rfl, Fr.at FM7 kd_300 rfl]), J.2.2.2.2.2.1.cg (by rw [Fr.at FM14 kd_109 rfl, Fr.at FM7 kd_109 rfl]) (by rw [Fr.at FM14 kd_309 rfl, Fr.at FM7 kd_309 rfl]), J.2.2.2.2.2.2.1.cg (by rw [Fr.at FM14 kd_4 rfl, Fr.at FM7 kd_4 rfl]) (by rw [Fr.at FM14 kd_40 rfl, Fr.at FM7 kd_40 rfl]) (by rw [Fr.at FM14 kd_75 rfl, Fr.at FM7 kd_75 rfl]) (by rw [Fr.at FM14 kd_109 rfl, Fr.at FM7 kd_109 rfl]) (by rw [Fr.at FM14 kd_307 rfl, Fr.at FM7 kd_307 rfl]) (gHs.cg gHs.refl (by rw [Fr.at FM14 kd_296 rfl, Fr.at FM7 kd_296 rfl])), J.2.2.2.2.2.2.2.1.cg (by rw [Fr.at FM14 kd_4 rfl, Fr.at FM7 kd_4 rfl]) (by rw [Fr.at FM14 kd_40 rfl, Fr.at FM7 kd_40 rfl]) (by rw [Fr.at FM14 kd_75 rfl, Fr.at FM7 kd_75 rfl]) (by rw [Fr.at FM14 kd_5 rfl, Fr.at FM7 kd_5 rfl]) (by rw [Fr.at FM14 kd_41 rfl, Fr.at FM7 kd_41 rfl]) (by rw [Fr.at FM14 kd_76 rfl, Fr.at FM7 kd_76 rfl]) (by rw [Fr.at FM14 kd_109 rfl, Fr.at FM7 kd_109 rfl]) (by rw [Fr.at FM14 kd_308 rfl, Fr.at FM7 kd_308 rfl]) (by rw [Fr.at FM14 kd_299 rfl, Fr.at FM7 kd_299 rfl]), fe⟩
  refine PW.pop q_284_1293 rfl ?_
  refine PW.goto q_284_1294 rfl ?_
  refine PW.incN q_284_1546 rfl (by decide) (by decide) (by omega) (by omega) fun x15 hx15 => ?_
  refine PW.goto q_284_1549 rfl ?_
  refine PW.cs (ce' := 311 + c) (sl' := 8628 + 6 * c) (by show 311 + c + 0 + 0 = _; omega) (by show 8628 + 6 * c + 0 + 0 = _; omega) ?_
  refine PW.lvS (lv' := law_lv x15) (lk1 rfl (lk1 rfl (lk1 rfl (lk1 rfl (lk1 rfl lk0))))) ?_
  exact PW.exit (kk M14 c x15 JM14 (by omega) (by omega))
set_option maxRecDepth 100000 in
set_option maxHeartbeats 4000000 in
theorem law_drawn (G : pG) : law_C G 1297 := by
  intro i M c h0 h6 hL J hc kk
  refine PX.run ?_
  refine PW.aload_n q_284_1297 rfl ?_
  refine PW.aload_n q_284_1298 rfl ?_
  refine PW.iload q_284_1299 rfl ?_
  refine PW.cI q_284_1301 (by decide) fun c1 hc1 => ?_
  refine PW.addN q_284_1302 (by omega) (by omega) fun x2 hx2 => ?_
  refine PW.sld q_284_1303 (vp_in_iff.mpr ⟨by omega, by omega⟩) ?_
  refine PW.hvI fun a3 => ?_
  refine PW.aload_n q_284_1304 rfl ?_
  refine PW.iload q_284_1305 rfl ?_
  refine PW.cI q_284_1307 (by decide) fun c4 hc4 => ?_
  refine PW.addN q_284_1308 (by omega) (by omega) fun x5 hx5 => ?_
  refine PW.sld q_284_1309 (vp_in_iff.mpr ⟨by omega, by omega⟩) ?_
  refine PW.hvI fun a6 => ?_
  refine PW.cV (as := [_, _]) (rest := []) q_284_1310 t_mv_284_175 kd_0 J.1.1 (by decide) rfl (by decide) rfl rfl (Nat.le_of_ble_eq_true rfl) (Nat.le_of_ble_eq_true rfl) (by show 311 + c + 0 ≤ 1000; omega) (by show 8628 + 6 * c + 0 ≤ 13000; omega) ?_
  refine PW.up (by decide) (c_X11_drawn G _ M J.1 a3 a6 fun y7 M7 IM7 FM7 => ?_)
  refine PW.pop q_284_1313 rfl ?_
  refine PW.aload_n q_284_1314 rfl ?_
  refine PW.aload_n q_284_1315 rfl ?_
  refine PW.iload q_284_1316 rfl ?_
  refine PW.cI q_284_1318 (by decide) fun c8 hc8 => ?_
  refine PW.addN q_284_1319 (by omega) (by omega) fun x9 hx9 => ?_
  refine PW.sld q_284_1320 (vp_in_iff.mpr ⟨by omega, by omega⟩) ?_
  refine PW.hvI fun a10 => ?_
  refine PW.aload_n q_284_1321 rfl ?_
  refine PW.iload q_284_1322 rfl ?_
  refine PW.cI q_284_1324 (by decide) fun c11 hc11 => ?_
  refine PW.addN q_284_1325 (by omega) (by omega) fun x12 hx12 => ?_
  refine PW.sld q_284_1326 (vp_in_iff.mpr ⟨by omega, by omega⟩) ?_
  refine PW.hvI fun a13 => ?_
  refine PW.cV (as := [_, _]) (rest := []) q_284_1327 t_mv_284_178 kd_294 IM7.1 (by decide) rfl (by decide) rfl rfl (Nat.le_of_ble_eq_true rfl) (Nat.le_of_ble_eq_true rfl) (by show 311 + c + 0 + 0 ≤ 1000; omega) (by show 8628 + 6 * c + 0 + 0 ≤ 13000; omega) ?_
  refine PW.up (by decide) (c_X12_drawn G _ M7 IM7 a10 a13 fun y14 M14 IM14 FM14 lM14 => ?_)
  have e1 : o_i (M7 294) 2 = o_i (M 294) 2 := by rw [Fr.at FM7 kd_294 rfl]
  have e3 : o_i (M7 1) 1 = o_i (M 1) 1 := by rw [Fr.at FM7 kd_1 rfl]
  have e2 : o_i (M14 1) 1 = o_i (M7 1) 1 := by rw [Fr.at FM14 kd_1 rfl]
  have lf : o_i (M14 294) 2 = o_i (M7 294) 2 := lM14.1
  have k0 := J.2.2.1
  have b0 := J.len0
  have f0 : o_i (M14 0) 10 = o_i (M 0) 10 := by rw [(Fr.at FM14 kd_0 rfl), (Fr.at FM7 kd_0 rfl)]
  have f1 : o_i (M14 294) 15 = o_i (M7 294) 15 := lM14.2.2
  have f2 : o_i (M7 294) 15 = o_i (M 294) 15 := by rw [(Fr.at FM7 kd_294 rfl)]
  have fj : o_i (M 0) 10 = o_i (M 294) 15 := J.2.2.2.2.2.2.2.2
  have fe : FE M14 := by unfold FE; omega
  have JM14 : LI M14 := ⟨IM14, by rw [Fr.at FM14 kd_310 rfl, Fr.at FM7 kd_310 rfl]; exact J.2.1, by omega, J.2.2.2.1.cg (by rw [Fr.at FM14 kd_2 rfl, Fr.at FM7 kd_2 rfl]) (by rw [Fr.at FM14 kd_295 rfl, Fr.at FM7 kd_295 rfl]) (by omega), J.2.2.2.2.1.cg (by rw [Fr.at FM14 kd_300 rfl, Fr.at FM7 kd_300 rfl]), J.2.2.2.2.2.1.cg (by rw [Fr.at FM14 kd_109 rfl, Fr.at FM7 kd_109 rfl]) (by rw [Fr.at FM14 kd_309 rfl, Fr.at FM7 kd_309 rfl]), J.2.2.2.2.2.2.1.cg (by rw [Fr.at FM14 kd_4 rfl, Fr.at FM7 kd_4 rfl]) (by rw [Fr.at FM14 kd_40 rfl, Fr.at FM7 kd_40 rfl]) (by rw [Fr.at FM14 kd_75 rfl, Fr.at FM7 kd_75 rfl]) (by rw [Fr.at FM14 kd_109 rfl, Fr.at FM7 kd_109 rfl]) (by rw [Fr.at FM14 kd_307 rfl, Fr.at FM7 kd_307 rfl]) (gHs.tr (gHs.cg gHs.refl (Fr.at FM7 kd_296 rfl)) lM14.2.1), J.2.2.2.2.2.2.2.1.cg (by rw [Fr.at FM14 kd_4 rfl, Fr.at FM7 kd_4 rfl]) (by rw [Fr.at FM14 kd_40 rfl, Fr.at FM7 kd_40 rfl]) (by rw [Fr.at FM14 kd_75 rfl, Fr.at FM7 kd_75 rfl]) (by rw [Fr.at FM14 kd_5 rfl, Fr.at FM7 kd_5 rfl]) (by rw [Fr.at FM14 kd_41 rfl, Fr.at FM7 kd_41 rfl]) (by rw [Fr.at FM14 kd_76 rfl, Fr.at FM7 kd_76 rfl]) (by rw [Fr.at FM14 kd_109 rfl, Fr.at FM7 kd_109 rfl]) (by rw [Fr.at FM14 kd_308 rfl, Fr.at FM7 kd_308 rfl]) (by rw [Fr.at FM14 kd_299 rfl, Fr.at FM7 kd_299 rfl]), fe⟩
  refine PW.pop q_284_1330 rfl ?_
  refine PW.goto q_284_1331 rfl ?_
  refine PW.incN q_284_1546 rfl (by decide) (by decide) (by omega) (by omega) fun x15 hx15 => ?_
  refine PW.goto q_284_1549 rfl ?_
  refine PW.cs (ce' := 311 + c) (sl' := 8628 + 6 * c) (by show 311 + c + 0 + 0 = _; omega) (by show 8628 + 6 * c + 0 + 0 = _; omega) ?_
  refine PW.lvS (lv' := law_lv x15) (lk1 rfl (lk1 rfl (lk1 rfl (lk1 rfl (lk1 rfl lk0))))) ?_
  exact PW.exit (kk M14 c x15 JM14 (by omega) (by omega))
set_option maxRecDepth 100000 in
set_option maxHeartbeats 4000000 in
theorem law_odds (G : pG) : law_C G 1334 := by
  intro i M c h0 h6 hL J hc kk
  refine PX.run ?_
  refine PW.aload_n q_284_1334 rfl ?_
  refine PW.aload_n q_284_1335 rfl ?_
  refine PW.iload q_284_1336 rfl ?_
  refine PW.cI q_284_1338 (by decide) fun c1 hc1 => ?_
  refine PW.addN q_284_1339 (by omega) (by omega) fun x2 hx2 => ?_
  refine PW.sld q_284_1340 (vp_in_iff.mpr ⟨by omega, by omega⟩) ?_
  refine PW.hvI fun a3 => ?_
  refine PW.aload_n q_284_1341 rfl ?_
  refine PW.iload q_284_1342 rfl ?_
  refine PW.cI q_284_1344 (by decide) fun c4 hc4 => ?_
  refine PW.addN q_284_1345 (by omega) (by omega) fun x5 hx5 => ?_
  refine PW.sld q_284_1346 (vp_in_iff.mpr ⟨by omega, by omega⟩) ?_
  refine PW.hvI fun a6 => ?_
  refine PW.aload_n q_284_1347 rfl ?_
  refine PW.iload q_284_1348 rfl ?_
  refine PW.cI q_284_1350 (by decide) fun c7 hc7 => ?_
  refine PW.addN q_284_1351 (by omega) (by omega) fun x8 hx8 => ?_
  refine PW.sld q_284_1352 (vp_in_iff.mpr ⟨by omega, by omega⟩) ?_
  refine PW.hvI fun a9 => ?_
  refine PW.cV (as := [_, _, _]) (rest := []) q_284_1353 t_mv_284_179 kd_0 J.1.1 (by decide) rfl (by decide) rfl rfl (Nat.le_of_ble_eq_true rfl) (Nat.le_of_ble_eq_true rfl) (by show 311 + c + 0 ≤ 1000; omega) (by show 8628 + 6 * c + 0 ≤ 13000; omega) ?_
  refine PW.up (by decide) (c_X11_odds G _ M J.1 a3 a6 a9 fun y10 M10 IM10 FM10 => ?_)
  refine PW.pop q_284_1356 rfl ?_
  refine PW.aload_n q_284_1357 rfl ?_
  refine PW.aload_n q_284_1358 rfl ?_
  refine PW.iload q_284_1359 rfl ?_
  refine PW.cI q_284_1361 (by decide) fun c11 hc11 => ?_
  refine PW.addN q_284_1362 (by omega) (by omega) fun x12 hx12 => ?_
  refine PW.sld q_284_1363 (vp_in_iff.mpr ⟨by omega, by omega⟩) ?_
  refine PW.hvI fun a13 => ?_
  refine PW.aload_n q_284_1364 rfl ?_
  refine PW.iload q_284_1365 rfl ?_
  refine PW.cI q_284_1367 (by decide) fun c14 hc14 => ?_
  refine PW.addN q_284_1368 (by omega) (by omega) fun x15 hx15 => ?_
  refine PW.sld q_284_1369 (vp_in_iff.mpr ⟨by omega, by omega⟩) ?_
  refine PW.hvI fun a16 => ?_
  refine PW.aload_n q_284_1370 rfl ?_
  refine PW.iload q_284_1371 rfl ?_
  refine PW.cI q_284_1373 (by decide) fun c17 hc17 => ?_
  refine PW.addN q_284_1374 (by omega) (by omega) fun x18 hx18 => ?_
  refine PW.sld q_284_1375 (vp_in_iff.mpr ⟨by omega, by omega⟩) ?_
  refine PW.hvI fun a19 => ?_
  refine PW.cV (as := [_, _, _]) (rest := []) q_284_1376 t_mv_284_182 kd_294 IM10.1 (by decide) rfl (by decide) rfl rfl (Nat.le_of_ble_eq_true rfl) (Nat.le_of_ble_eq_true rfl) (by show 311 + c + 0 + 0 ≤ 1000; omega) (by show 8628 + 6 * c + 0 + 0 ≤ 13000; omega) ?_
  refine PW.up (by decide) (c_X12_odds G _ M10 IM10 a13 a16 a19 fun y20 M20 IM20 FM20 lM20 => ?_)
  have e1 : o_i (M10 294) 2 = o_i (M 294) 2 := by rw [Fr.at FM10 kd_294 rfl]
  have e3 : o_i (M10 1) 1 = o_i (M 1) 1 := by rw [Fr.at FM10 kd_1 rfl]
  have e2 : o_i (M20 1) 1 = o_i (M10 1) 1 := by rw [Fr.at FM20 kd_1 rfl]
  have lf : o_i (M20 294) 2 = o_i (M10 294) 2 := lM20.1
  have k0 := J.2.2.1
  have b0 := J.len0
  have f0 : o_i (M20 0) 10 = o_i (M 0) 10 := by rw [(Fr.at FM20 kd_0 rfl), (Fr.at FM10 kd_0 rfl)]
  have f1 : o_i (M20 294) 15 = o_i (M10 294) 15 := lM20.2.2
  have f2 : o_i (M10 294) 15 = o_i (M 294) 15 := by rw [(Fr.at FM10 kd_294 rfl)]
  have fj : o_i (M 0) 10 = o_i (M 294) 15 := J.2.2.2.2.2.2.2.2
  have fe : FE M20 := by unfold FE; omega
  have JM20 : LI M20 := ⟨IM20, by rw [Fr.at FM20 kd_310 rfl, Fr.at FM10 kd_310 rfl]; exact J.2.1, by omega, J.2.2.2.1.cg (by rw [Fr.at FM20 kd_2 rfl, Fr.at FM10 kd_2 rfl]) (by rw [Fr.at FM20 kd_295 rfl, Fr.at FM10 kd_295 rfl]) (by omega), J.2.2.2.2.1.cg (by rw [Fr.at FM20 kd_300 rfl, Fr.at FM10 kd_300 rfl]), J.2.2.2.2.2.1.cg (by rw [Fr.at FM20 kd_109 rfl, Fr.at FM10 kd_109 rfl]) (by rw [Fr.at FM20 kd_309 rfl, Fr.at FM10 kd_309 rfl]), J.2.2.2.2.2.2.1.cg (by rw [Fr.at FM20 kd_4 rfl, Fr.at FM10 kd_4 rfl]) (by rw [Fr.at FM20 kd_40 rfl, Fr.at FM10 kd_40 rfl]) (by rw [Fr.at FM20 kd_75 rfl, Fr.at FM10 kd_75 rfl]) (by rw [Fr.at FM20 kd_109 rfl, Fr.at FM10 kd_109 rfl]) (by rw [Fr.at FM20 kd_307 rfl, Fr.at FM10 kd_307 rfl]) (gHs.tr (gHs.cg gHs.refl (Fr.at FM10 kd_296 rfl)) lM20.2.1), J.2.2.2.2.2.2.2.1.cg (by rw [Fr.at FM20 kd_4 rfl, Fr.at FM10 kd_4 rfl]) (by rw [Fr.at FM20 kd_40 rfl, Fr.at FM10 kd_40 rfl]) (by rw [Fr.at FM20 kd_75 rfl, Fr.at FM10 kd_75 rfl]) (by rw [Fr.at FM20 kd_5 rfl, Fr.at FM10 kd_5 rfl]) (by rw [Fr.at FM20 kd_41 rfl, Fr.at FM10 kd_41 rfl]) (by rw [Fr.at FM20 kd_76 rfl, Fr.at FM10 kd_76 rfl]) (by rw [Fr.at FM20 kd_109 rfl, Fr.at FM10 kd_109 rfl]) (by rw [Fr.at FM20 kd_308 rfl, Fr.at FM10 kd_308 rfl]) (by rw [Fr.at FM20 kd_299 rfl, Fr.at FM10 kd_299 rfl]), fe⟩
  refine PW.pop q_284_1379 rfl ?_
  refine PW.goto q_284_1380 rfl ?_
  refine PW.incN q_284_1546 rfl (by decide) (by decide) (by omega) (by omega) fun x21 hx21 => ?_
  refine PW.goto q_284_1549 rfl ?_
  refine PW.cs (ce' := 311 + c) (sl' := 8628 + 6 * c) (by show 311 + c + 0 + 0 = _; omega) (by show 8628 + 6 * c + 0 + 0 = _; omega) ?_
  refine PW.lvS (lv' := law_lv x21) (lk1 rfl (lk1 rfl (lk1 rfl (lk1 rfl (lk1 rfl lk0))))) ?_
  exact PW.exit (kk M20 c x21 JM20 (by omega) (by omega))
set_option maxRecDepth 100000 in
set_option maxHeartbeats 4000000 in
theorem law_log (G : pG) : law_C G 1383 := by
  intro i M c h0 h6 hL J hc kk
  refine PX.run ?_
  refine PW.aload_n q_284_1383 rfl ?_
  refine PW.aload_n q_284_1384 rfl ?_
  refine PW.iload q_284_1385 rfl ?_
  refine PW.cI q_284_1387 (by decide) fun c1 hc1 => ?_
  refine PW.addN q_284_1388 (by omega) (by omega) fun x2 hx2 => ?_
  refine PW.sld q_284_1389 (vp_in_iff.mpr ⟨by omega, by omega⟩) ?_
  refine PW.nmI ?_; intro a3 ea3
  refine PW.cV (as := [_]) (rest := []) q_284_1390 t_mv_284_183 kd_0 J.1.1 (by decide) rfl (by decide) rfl rfl (Nat.le_of_ble_eq_true rfl) (Nat.le_of_ble_eq_true rfl) (by show 311 + c + 0 ≤ 1000; omega) (by show 8628 + 6 * c + 0 ≤ 13000; omega) ?_
  refine PW.up (by decide) (c_X11_log_vk G _ M J.1 a3 (k_yl M 400) (k_nf M) (o_i (M 4) 6) J.tp rfl ⟨rfl, fun j _ => rfl⟩ fun y4 M4 IM4 FM4 pM4 => ?_)
  refine PW.pop q_284_1393 rfl ?_
  refine PW.aload_n q_284_1394 rfl ?_
  refine PW.aload_n q_284_1395 rfl ?_
  refine PW.iload q_284_1396 rfl ?_
  refine PW.cI q_284_1398 (by decide) fun c5 hc5 => ?_
  refine PW.addN q_284_1399 (by omega) (by omega) fun x6 hx6 => ?_
  refine PW.sld q_284_1400 (vp_in_iff.mpr ⟨by omega, by omega⟩) ?_
  refine PW.nmI ?_; intro a7 ea7
  refine PW.cV (as := [_]) (rest := []) q_284_1401 t_mv_284_186 kd_294 IM4.1 (by decide) rfl (by decide) rfl rfl (Nat.le_of_ble_eq_true rfl) (Nat.le_of_ble_eq_true rfl) (by show 311 + c + 0 + 0 ≤ 1000; omega) (by show 8628 + 6 * c + 0 + 0 ≤ 13000; omega) ?_
  refine PW.up (by decide) (c_X12_log_vs G _ M4 IM4 a7 (k_yl M 400) (k_nf M) (o_i (M 4) 6) (J.rtp FM4 rfl rfl rfl) rfl J.y940 (J.rnm FM4 rfl rfl) fun y8 M8 IM8 FM8 pM8 => ?_)
  have e1 : o_i (M4 294) 2 = o_i (M 294) 2 := by rw [Fr.at FM4 kd_294 rfl]
  have e2 : o_i (M8 1) 1 = o_i (M4 1) 1 := by rw [Fr.at FM8 kd_1 rfl]
  have ei : x2 = x6 := n_eq.mpr (by omega)
  have ez : a3.toInt = a7.toInt := by rw [ea3, ea7, ei]
  have k0 := J.2.2.1
  have b0 := J.len0
  have hq2 : gHs M8 M4 := by rcases pM8 with q | q; (· exact q.2.2.2); (· exact q.2.2.2.2)
  have pl1 := pM4
  have pl2 := pM8
  have fj : o_i (M 0) 10 = o_i (M 294) 15 := J.2.2.2.2.2.2.2.2
  have f0 : o_i (M8 0) 10 = o_i (M4 0) 10 := by rw [(Fr.at FM8 kd_0 rfl)]
  have f1 : o_i (M4 294) 15 = o_i (M 294) 15 := by rw [(Fr.at FM4 kd_294 rfl)]
  have fe : FE M8 := by unfold FE; omega
  have JM8 : LI M8 := ⟨IM8, by rw [Fr.at FM8 kd_310 rfl, Fr.at FM4 kd_310 rfl]; exact J.2.1, by omega, J.2.2.2.1.cg (by rw [Fr.at FM8 kd_2 rfl, Fr.at FM4 kd_2 rfl]) (by rw [Fr.at FM8 kd_295 rfl, Fr.at FM4 kd_295 rfl]) (by omega), J.2.2.2.2.1.cg (by rw [Fr.at FM8 kd_300 rfl, Fr.at FM4 kd_300 rfl]), J.2.2.2.2.2.1.cg (by rw [Fr.at FM8 kd_109 rfl, Fr.at FM4 kd_109 rfl]) (by rw [Fr.at FM8 kd_309 rfl, Fr.at FM4 kd_309 rfl]), J.2.2.2.2.2.2.1.cg (by rw [Fr.at FM8 kd_4 rfl, Fr.at FM4 kd_4 rfl]) (by rw [Fr.at FM8 kd_40 rfl, Fr.at FM4 kd_40 rfl]) (by rw [Fr.at FM8 kd_75 rfl, Fr.at FM4 kd_75 rfl]) (by rw [Fr.at FM8 kd_109 rfl, Fr.at FM4 kd_109 rfl]) (by rw [Fr.at FM8 kd_307 rfl, Fr.at FM4 kd_307 rfl]) (gHs.tr (gHs.cg gHs.refl (Fr.at FM4 kd_296 rfl)) hq2), J.2.2.2.2.2.2.2.1.cg (by rw [Fr.at FM8 kd_4 rfl, Fr.at FM4 kd_4 rfl]) (by rw [Fr.at FM8 kd_40 rfl, Fr.at FM4 kd_40 rfl]) (by rw [Fr.at FM8 kd_75 rfl, Fr.at FM4 kd_75 rfl]) (by rw [Fr.at FM8 kd_5 rfl, Fr.at FM4 kd_5 rfl]) (by rw [Fr.at FM8 kd_41 rfl, Fr.at FM4 kd_41 rfl]) (by rw [Fr.at FM8 kd_76 rfl, Fr.at FM4 kd_76 rfl]) (by rw [Fr.at FM8 kd_109 rfl, Fr.at FM4 kd_109 rfl]) (by rw [Fr.at FM8 kd_308 rfl, Fr.at FM4 kd_308 rfl]) (by rw [Fr.at FM8 kd_299 rfl, Fr.at FM4 kd_299 rfl]), fe⟩
  refine PW.pop q_284_1404 rfl ?_
  refine PW.goto q_284_1405 rfl ?_
  refine PW.incN q_284_1546 rfl (by decide) (by decide) (by omega) (by omega) fun x9 hx9 => ?_
  refine PW.goto q_284_1549 rfl ?_
  refine PW.cs (ce' := 311 + c) (sl' := 8628 + 6 * c) (by show 311 + c + 0 + 0 = _; omega) (by show 8628 + 6 * c + 0 + 0 = _; omega) ?_
  refine PW.lvS (lv' := law_lv x9) (lk1 rfl (lk1 rfl (lk1 rfl (lk1 rfl (lk1 rfl lk0))))) ?_
  exact PW.exit (kk M8 c x9 JM8 (by omega) (by omega))
set_option maxRecDepth 100000 in
set_option maxHeartbeats 4000000 in
theorem law_logged (G : pG) : law_C G 1408 := by
  intro i M c h0 h6 hL J hc kk
  refine PX.run ?_
  refine PW.aload_n q_284_1408 rfl ?_
  refine PW.aload_n q_284_1409 rfl ?_
  refine PW.iload q_284_1410 rfl ?_
  refine PW.cI q_284_1412 (by decide) fun c1 hc1 => ?_
  refine PW.addN q_284_1413 (by omega) (by omega) fun x2 hx2 => ?_
  refine PW.sld q_284_1414 (vp_in_iff.mpr ⟨by omega, by omega⟩) ?_
  refine PW.hvI fun a3 => ?_
  refine PW.cV (as := [_]) (rest := []) q_284_1415 t_mv_284_187 kd_0 J.1.1 (by decide) rfl (by decide) rfl rfl (Nat.le_of_ble_eq_true rfl) (Nat.le_of_ble_eq_true rfl) (by show 311 + c + 0 ≤ 1000; omega) (by show 8628 + 6 * c + 0 ≤ 13000; omega) ?_
  refine PW.up (by decide) (c_X11_logged G _ M J.1 a3 fun y4 M4 IM4 FM4 => ?_)
  refine PW.pop q_284_1418 rfl ?_
  refine PW.aload_n q_284_1419 rfl ?_
  refine PW.aload_n q_284_1420 rfl ?_
  refine PW.iload q_284_1421 rfl ?_
  refine PW.cI q_284_1423 (by decide) fun c5 hc5 => ?_
  refine PW.addN q_284_1424 (by omega) (by omega) fun x6 hx6 => ?_
  refine PW.sld q_284_1425 (vp_in_iff.mpr ⟨by omega, by omega⟩) ?_
  refine PW.hvI fun a7 => ?_
  refine PW.cV (as := [_]) (rest := []) q_284_1426 t_mv_284_190 kd_294 IM4.1 (by decide) rfl (by decide) rfl rfl (Nat.le_of_ble_eq_true rfl) (Nat.le_of_ble_eq_true rfl) (by show 311 + c + 0 + 0 ≤ 1000; omega) (by show 8628 + 6 * c + 0 + 0 ≤ 13000; omega) ?_
  refine PW.up (by decide) (c_X12_logged G _ M4 IM4 a7 fun y8 M8 IM8 FM8 lM8 => ?_)
  have e1 : o_i (M4 294) 2 = o_i (M 294) 2 := by rw [Fr.at FM4 kd_294 rfl]
  have e3 : o_i (M4 1) 1 = o_i (M 1) 1 := by rw [Fr.at FM4 kd_1 rfl]
  have e2 : o_i (M8 1) 1 = o_i (M4 1) 1 := by rw [Fr.at FM8 kd_1 rfl]
  have lf : o_i (M8 294) 2 = o_i (M4 294) 2 := lM8.1
  have k0 := J.2.2.1
  have b0 := J.len0
  have f0 : o_i (M8 0) 10 = o_i (M 0) 10 := by rw [(Fr.at FM8 kd_0 rfl), (Fr.at FM4 kd_0 rfl)]
  have f1 : o_i (M8 294) 15 = o_i (M4 294) 15 := lM8.2.2
  have f2 : o_i (M4 294) 15 = o_i (M 294) 15 := by rw [(Fr.at FM4 kd_294 rfl)]
  have fj : o_i (M 0) 10 = o_i (M 294) 15 := J.2.2.2.2.2.2.2.2
  have fe : FE M8 := by unfold FE; omega
  have JM8 : LI M8 := ⟨IM8, by rw [Fr.at FM8 kd_310 rfl, Fr.at FM4 kd_310 rfl]; exact J.2.1, by omega, J.2.2.2.1.cg (by rw [Fr.at FM8 kd_2 rfl, Fr.at FM4 kd_2 rfl]) (by rw [Fr.at FM8 kd_295 rfl, Fr.at FM4 kd_295 rfl]) (by omega), J.2.2.2.2.1.cg (by rw [Fr.at FM8 kd_300 rfl, Fr.at FM4 kd_300 rfl]), J.2.2.2.2.2.1.cg (by rw [Fr.at FM8 kd_109 rfl, Fr.at FM4 kd_109 rfl]) (by rw [Fr.at FM8 kd_309 rfl, Fr.at FM4 kd_309 rfl]), J.2.2.2.2.2.2.1.cg (by rw [Fr.at FM8 kd_4 rfl, Fr.at FM4 kd_4 rfl]) (by rw [Fr.at FM8 kd_40 rfl, Fr.at FM4 kd_40 rfl]) (by rw [Fr.at FM8 kd_75 rfl, Fr.at FM4 kd_75 rfl]) (by rw [Fr.at FM8 kd_109 rfl, Fr.at FM4 kd_109 rfl]) (by rw [Fr.at FM8 kd_307 rfl, Fr.at FM4 kd_307 rfl]) (gHs.cg gHs.refl (by rw [Fr.at FM8 kd_296 rfl, Fr.at FM4 kd_296 rfl])), J.2.2.2.2.2.2.2.1.cg (by rw [Fr.at FM8 kd_4 rfl, Fr.at FM4 kd_4 rfl]) (by rw [Fr.at FM8 kd_40 rfl, Fr.at FM4 kd_40 rfl]) (by rw [Fr.at FM8 kd_75 rfl, Fr.at FM4 kd_75 rfl]) (by rw [Fr.at FM8 kd_5 rfl, Fr.at FM4 kd_5 rfl]) (by rw [Fr.at FM8 kd_41 rfl, Fr.at FM4 kd_41 rfl]) (by rw [Fr.at FM8 kd_76 rfl, Fr.at FM4 kd_76 rfl]) (by rw [Fr.at FM8 kd_109 rfl, Fr.at FM4 kd_109 rfl]) (by rw [Fr.at FM8 kd_308 rfl, Fr.at FM4 kd_308 rfl]) (by rw [Fr.at FM8 kd_299 rfl, Fr.at FM4 kd_299 rfl]), fe⟩
  refine PW.pop q_284_1429 rfl ?_
  refine PW.goto q_284_1430 rfl ?_
  refine PW.incN q_284_1546 rfl (by decide) (by decide) (by omega) (by omega) fun x9 hx9 => ?_
  refine PW.goto q_284_1549 rfl ?_
  refine PW.cs (ce' := 311 + c) (sl' := 8628 + 6 * c) (by show 311 + c + 0 + 0 = _; omega) (by show 8628 + 6 * c + 0 + 0 = _; omega) ?_
  refine PW.lvS (lv' := law_lv x9) (lk1 rfl (lk1 rfl (lk1 rfl (lk1 rfl (lk1 rfl lk0))))) ?_
  exact PW.exit (kk M8 c x9 JM8 (by omega) (by omega))
set_option maxRecDepth 100000 in
set_option maxHeartbeats 4000000 in
theorem law_sentence (G : pG) : law_C G 1433 := by
  intro i M c h0 h6 hL J hc kk
  refine PX.run ?_
  refine PW.aload_n q_284_1433 rfl ?_
  refine PW.cV (as := []) (rest := []) q_284_1434 t_mv_284_191 kd_0 J.1.1 (by decide) rfl (by decide) rfl rfl (Nat.le_of_ble_eq_true rfl) (Nat.le_of_ble_eq_true rfl) (by show 311 + c + 0 ≤ 1000; omega) (by show 8628 + 6 * c + 0 ≤ 13000; omega) ?_
  refine PW.up (by decide) (c_X11_sentence_vk G _ M J.1  (k_yl M 200) (k_nf M) (o_i (M 4) 6) J.tp rfl ⟨rfl, fun j _ => rfl⟩ fun y1 M1 IM1 FM1 pM1 => ?_)
  refine PW.pop q_284_1437 rfl ?_
  refine PW.aload_n q_284_1438 rfl ?_
  refine PW.cV (as := []) (rest := []) q_284_1439 t_mv_284_194 kd_294 IM1.1 (by decide) rfl (by decide) rfl rfl (Nat.le_of_ble_eq_true rfl) (Nat.le_of_ble_eq_true rfl) (by show 311 + c + 0 + 0 ≤ 1000; omega) (by show 8628 + 6 * c + 0 + 0 ≤ 13000; omega) ?_
  refine PW.up (by decide) (c_X12_sentence_vk G _ M1 IM1  (k_yl M 200) (k_nf M) (o_i (M 4) 6) (J.rtp FM1 rfl rfl rfl) rfl J.y940 (J.rnm FM1 rfl rfl) fun y2 M2 IM2 FM2 pM2 => ?_)
  have e1 : o_i (M1 294) 2 = o_i (M 294) 2 := by rw [Fr.at FM1 kd_294 rfl]
  have e2 : o_i (M2 1) 1 = o_i (M1 1) 1 := by rw [Fr.at FM2 kd_1 rfl]
  have k0 := J.2.2.1
  have b0 := J.len0
  obtain ⟨q1, s1, t1, lc⟩ := pM1
  obtain ⟨q2, s2, t2, lf, hq2⟩ := pM2
  have f0 : o_i (M2 0) 10 = o_i (M1 0) 10 := by rw [(Fr.at FM2 kd_0 rfl)]
  have q12 := s_fin.uniq s1 s2
  rw [← q12] at t2
  have fe : FE M2 := by unfold FE; omega
  have JM2 : LI M2 := ⟨IM2, by rw [Fr.at FM2 kd_310 rfl, Fr.at FM1 kd_310 rfl]; exact J.2.1, by omega, J.2.2.2.1.cg (by rw [Fr.at FM2 kd_2 rfl, Fr.at FM1 kd_2 rfl]) (by rw [Fr.at FM2 kd_295 rfl, Fr.at FM1 kd_295 rfl]) (by omega), J.2.2.2.2.1.cg (by rw [Fr.at FM2 kd_300 rfl, Fr.at FM1 kd_300 rfl]), J.2.2.2.2.2.1.cg (by rw [Fr.at FM2 kd_109 rfl, Fr.at FM1 kd_109 rfl]) (by rw [Fr.at FM2 kd_309 rfl, Fr.at FM1 kd_309 rfl]), J.2.2.2.2.2.2.1.cg (by rw [Fr.at FM2 kd_4 rfl, Fr.at FM1 kd_4 rfl]) (by rw [Fr.at FM2 kd_40 rfl, Fr.at FM1 kd_40 rfl]) (by rw [Fr.at FM2 kd_75 rfl, Fr.at FM1 kd_75 rfl]) (by rw [Fr.at FM2 kd_109 rfl, Fr.at FM1 kd_109 rfl]) (by rw [Fr.at FM2 kd_307 rfl, Fr.at FM1 kd_307 rfl]) (gHs.tr (gHs.cg gHs.refl (Fr.at FM1 kd_296 rfl)) hq2), J.2.2.2.2.2.2.2.1.cg (by rw [Fr.at FM2 kd_4 rfl, Fr.at FM1 kd_4 rfl]) (by rw [Fr.at FM2 kd_40 rfl, Fr.at FM1 kd_40 rfl]) (by rw [Fr.at FM2 kd_75 rfl, Fr.at FM1 kd_75 rfl]) (by rw [Fr.at FM2 kd_5 rfl, Fr.at FM1 kd_5 rfl]) (by rw [Fr.at FM2 kd_41 rfl, Fr.at FM1 kd_41 rfl]) (by rw [Fr.at FM2 kd_76 rfl, Fr.at FM1 kd_76 rfl]) (by rw [Fr.at FM2 kd_109 rfl, Fr.at FM1 kd_109 rfl]) (by rw [Fr.at FM2 kd_308 rfl, Fr.at FM1 kd_308 rfl]) (by rw [Fr.at FM2 kd_299 rfl, Fr.at FM1 kd_299 rfl]), fe⟩
  refine PW.pop q_284_1442 rfl ?_
  refine PW.goto q_284_1443 rfl ?_
  refine PW.incN q_284_1546 rfl (by decide) (by decide) (by omega) (by omega) fun x3 hx3 => ?_
  refine PW.goto q_284_1549 rfl ?_
  refine PW.cs (ce' := 311 + c) (sl' := 8628 + 6 * c) (by show 311 + c + 0 + 0 = _; omega) (by show 8628 + 6 * c + 0 + 0 = _; omega) ?_
  refine PW.lvS (lv' := law_lv x3) (lk1 rfl (lk1 rfl (lk1 rfl (lk1 rfl (lk1 rfl lk0))))) ?_
  exact PW.exit (kk M2 c x3 JM2 (by omega) (by omega))
set_option maxRecDepth 100000 in
set_option maxHeartbeats 4000000 in
theorem law_told (G : pG) : law_C G 1446 := by
  intro i M c h0 h6 hL J hc kk
  refine PX.run ?_
  refine PW.aload_n q_284_1446 rfl ?_
  refine PW.aload_n q_284_1447 rfl ?_
  refine PW.iload q_284_1448 rfl ?_
  refine PW.cI q_284_1450 (by decide) fun c1 hc1 => ?_
  refine PW.addN q_284_1451 (by omega) (by omega) fun x2 hx2 => ?_
  refine PW.sld q_284_1452 (vp_in_iff.mpr ⟨by omega, by omega⟩) ?_
  refine PW.hvI fun a3 => ?_
  refine PW.cV (as := [_]) (rest := []) q_284_1453 t_mv_284_195 kd_0 J.1.1 (by decide) rfl (by decide) rfl rfl (Nat.le_of_ble_eq_true rfl) (Nat.le_of_ble_eq_true rfl) (by show 311 + c + 0 ≤ 1000; omega) (by show 8628 + 6 * c + 0 ≤ 13000; omega) ?_
  refine PW.up (by decide) (c_X11_told G _ M J.1 a3 fun y4 M4 IM4 FM4 => ?_)
  refine PW.pop q_284_1456 rfl ?_
  refine PW.aload_n q_284_1457 rfl ?_
  refine PW.aload_n q_284_1458 rfl ?_
  refine PW.iload q_284_1459 rfl ?_
  refine PW.cI q_284_1461 (by decide) fun c5 hc5 => ?_
  refine PW.addN q_284_1462 (by omega) (by omega) fun x6 hx6 => ?_
  refine PW.sld q_284_1463 (vp_in_iff.mpr ⟨by omega, by omega⟩) ?_
  refine PW.hvI fun a7 => ?_
  refine PW.cV (as := [_]) (rest := []) q_284_1464 t_mv_284_198 kd_294 IM4.1 (by decide) rfl (by decide) rfl rfl (Nat.le_of_ble_eq_true rfl) (Nat.le_of_ble_eq_true rfl) (by show 311 + c + 0 + 0 ≤ 1000; omega) (by show 8628 + 6 * c + 0 + 0 ≤ 13000; omega) ?_
  refine PW.up (by decide) (c_X12_told G _ M4 IM4 a7 fun y8 M8 IM8 FM8 lM8 => ?_)
  have e1 : o_i (M4 294) 2 = o_i (M 294) 2 := by rw [Fr.at FM4 kd_294 rfl]
  have e3 : o_i (M4 1) 1 = o_i (M 1) 1 := by rw [Fr.at FM4 kd_1 rfl]
  have e2 : o_i (M8 1) 1 = o_i (M4 1) 1 := by rw [Fr.at FM8 kd_1 rfl]
  have lf : o_i (M8 294) 2 = o_i (M4 294) 2 := lM8.1
  have k0 := J.2.2.1
  have b0 := J.len0
  have f0 : o_i (M8 0) 10 = o_i (M 0) 10 := by rw [(Fr.at FM8 kd_0 rfl), (Fr.at FM4 kd_0 rfl)]
  have f1 : o_i (M8 294) 15 = o_i (M4 294) 15 := lM8.2.2
  have f2 : o_i (M4 294) 15 = o_i (M 294) 15 := by rw [(Fr.at FM4 kd_294 rfl)]
  have fj : o_i (M 0) 10 = o_i (M 294) 15 := J.2.2.2.2.2.2.2.2
  have fe : FE M8 := by unfold FE; omega
  have JM8 : LI M8 := ⟨IM8, by rw [Fr.at FM8 kd_310 rfl, Fr.at FM4 kd_310 rfl]; exact J.2.1, by omega, J.2.2.2.1.cg (by rw [Fr.at FM8 kd_2 rfl, Fr.at FM4 kd_2 rfl]) (by rw [Fr.at FM8 kd_295 rfl, Fr.at FM4 kd_295 rfl]) (by omega), J.2.2.2.2.1.cg (by rw [Fr.at FM8 kd_300 rfl, Fr.at FM4 kd_300 rfl]), J.2.2.2.2.2.1.cg (by rw [Fr.at FM8 kd_109 rfl, Fr.at FM4 kd_109 rfl]) (by rw [Fr.at FM8 kd_309 rfl, Fr.at FM4 kd_309 rfl]), J.2.2.2.2.2.2.1.cg (by rw [Fr.at FM8 kd_4 rfl, Fr.at FM4 kd_4 rfl]) (by rw [Fr.at FM8 kd_40 rfl, Fr.at FM4 kd_40 rfl]) (by rw [Fr.at FM8 kd_75 rfl, Fr.at FM4 kd_75 rfl]) (by rw [Fr.at FM8 kd_109 rfl, Fr.at FM4 kd_109 rfl]) (by rw [Fr.at FM8 kd_307 rfl, Fr.at FM4 kd_307 rfl]) (gHs.cg gHs.refl (by rw [Fr.at FM8 kd_296 rfl, Fr.at FM4 kd_296 rfl])), J.2.2.2.2.2.2.2.1.cg (by rw [Fr.at FM8 kd_4 rfl, Fr.at FM4 kd_4 rfl]) (by rw [Fr.at FM8 kd_40 rfl, Fr.at FM4 kd_40 rfl]) (by rw [Fr.at FM8 kd_75 rfl, Fr.at FM4 kd_75 rfl]) (by rw [Fr.at FM8 kd_5 rfl, Fr.at FM4 kd_5 rfl]) (by rw [Fr.at FM8 kd_41 rfl, Fr.at FM4 kd_41 rfl]) (by rw [Fr.at FM8 kd_76 rfl, Fr.at FM4 kd_76 rfl]) (by rw [Fr.at FM8 kd_109 rfl, Fr.at FM4 kd_109 rfl]) (by rw [Fr.at FM8 kd_308 rfl, Fr.at FM4 kd_308 rfl]) (by rw [Fr.at FM8 kd_299 rfl, Fr.at FM4 kd_299 rfl]), fe⟩
  refine PW.pop q_284_1467 rfl ?_
  refine PW.goto q_284_1468 rfl ?_
  refine PW.incN q_284_1546 rfl (by decide) (by decide) (by omega) (by omega) fun x9 hx9 => ?_
  refine PW.goto q_284_1549 rfl ?_
  refine PW.cs (ce' := 311 + c) (sl' := 8628 + 6 * c) (by show 311 + c + 0 + 0 = _; omega) (by show 8628 + 6 * c + 0 + 0 = _; omega) ?_
  refine PW.lvS (lv' := law_lv x9) (lk1 rfl (lk1 rfl (lk1 rfl (lk1 rfl (lk1 rfl lk0))))) ?_
  exact PW.exit (kk M8 c x9 JM8 (by omega) (by omega))
set_option maxRecDepth 100000 in
set_option maxHeartbeats 4000000 in
theorem law_image (G : pG) : law_C G 1471 := by
  intro i M c h0 h6 hL J hc kk
  refine PX.run ?_
  refine PW.aload_n q_284_1471 rfl ?_
  refine PW.aload_n q_284_1472 rfl ?_
  refine PW.iload q_284_1473 rfl ?_
  refine PW.cI q_284_1475 (by decide) fun c1 hc1 => ?_
  refine PW.addN q_284_1476 (by omega) (by omega) fun x2 hx2 => ?_
  refine PW.sld q_284_1477 (vp_in_iff.mpr ⟨by omega, by omega⟩) ?_
  refine PW.nmI ?_; intro a3 ea3
  refine PW.cV (as := [_]) (rest := []) q_284_1478 t_mv_284_199 kd_0 J.1.1 (by decide) rfl (by decide) rfl rfl (Nat.le_of_ble_eq_true rfl) (Nat.le_of_ble_eq_true rfl) (by show 311 + c + 0 ≤ 1000; omega) (by show 8628 + 6 * c + 0 ≤ 13000; omega) ?_
  refine PW.up (by decide) (c_X11_image_vk G _ M J.1 a3 fun y4 M4 IM4 FM4 _ _ pM4 => ?_)
  refine PW.pop q_284_1481 rfl ?_
  refine PW.aload_n q_284_1482 rfl ?_
  refine PW.aload_n q_284_1483 rfl ?_
  refine PW.iload q_284_1484 rfl ?_
  refine PW.cI q_284_1486 (by decide) fun c5 hc5 => ?_
  refine PW.addN q_284_1487 (by omega) (by omega) fun x6 hx6 => ?_
  refine PW.sld q_284_1488 (vp_in_iff.mpr ⟨by omega, by omega⟩) ?_
  refine PW.nmI ?_; intro a7 ea7
  refine PW.cV (as := [_]) (rest := []) q_284_1489 t_mv_284_202 kd_294 IM4.1 (by decide) rfl (by decide) rfl rfl (Nat.le_of_ble_eq_true rfl) (Nat.le_of_ble_eq_true rfl) (by show 311 + c + 0 + 0 ≤ 1000; omega) (by show 8628 + 6 * c + 0 + 0 ≤ 13000; omega) ?_
  refine PW.up (by decide) (c_X12_image_vkn G _ M4 IM4 a7 fun y8 M8 IM8 FM8 _ _ pM8 => ?_)
  have e1 : o_i (M4 294) 2 = o_i (M 294) 2 := by rw [Fr.at FM4 kd_294 rfl]
  have e3 : o_i (M4 1) 1 = o_i (M 1) 1 := by rw [Fr.at FM4 kd_1 rfl]
  have e2 : o_i (M8 1) 1 = o_i (M4 1) 1 := by rw [Fr.at FM8 kd_1 rfl]
  have ei : x2 = x6 := n_eq.mpr (by omega)
  have ez : a3.toInt = a7.toInt := by rw [ea3, ea7, ei]
  have k0 := J.2.2.1
  have b0 := J.len0
  have lf : o_i (M8 294) 2 = o_i (M4 294) 2 := pM8.2.2.2
  have pe := J.2.2.2.2.2.2.1.im J.2.2.2.2.2.1 pM4.1 pM8.1 ez (Fr.at FM4 kd_296 rfl) (Fr.at FM4 kd_307 rfl) (Fr.at FM4 kd_309 rfl) (Fr.at FM8 kd_296 rfl) (Fr.at FM8 kd_4 rfl) (Fr.at FM8 kd_40 rfl) (Fr.at FM8 kd_75 rfl) (Fr.at FM8 kd_109 rfl)
  have f0 : o_i (M8 0) 10 = o_i (M 0) 10 := by rw [(Fr.at FM8 kd_0 rfl), (Fr.at FM4 kd_0 rfl)]
  have f1 : o_i (M8 294) 15 = o_i (M4 294) 15 := pM8.2.2.1
  have f2 : o_i (M4 294) 15 = o_i (M 294) 15 := by rw [(Fr.at FM4 kd_294 rfl)]
  have fj : o_i (M 0) 10 = o_i (M 294) 15 := J.2.2.2.2.2.2.2.2
  have fe : FE M8 := by unfold FE; omega
  have JM8 : LI M8 := ⟨IM8, by rw [Fr.at FM8 kd_310 rfl, Fr.at FM4 kd_310 rfl]; exact J.2.1, by omega, J.2.2.2.1.cg (by rw [Fr.at FM8 kd_2 rfl, Fr.at FM4 kd_2 rfl]) (by rw [Fr.at FM8 kd_295 rfl, Fr.at FM4 kd_295 rfl]) (by omega), J.2.2.2.2.1.cg (by rw [Fr.at FM8 kd_300 rfl, Fr.at FM4 kd_300 rfl]), pe.1, pe.2, J.2.2.2.2.2.2.2.1.im J.1.1 pM4.1 pM4.2 pM8.2.1 ez (Fr.at FM4 kd_299 rfl) (Fr.at FM4 kd_308 rfl) (Fr.at FM8 kd_4 rfl) (Fr.at FM8 kd_40 rfl) (Fr.at FM8 kd_75 rfl) (Fr.at FM8 kd_5 rfl) (Fr.at FM8 kd_41 rfl) (Fr.at FM8 kd_76 rfl) (Fr.at FM8 kd_109 rfl) (Fr.at FM8 kd_299 rfl), fe⟩
  refine PW.pop q_284_1492 rfl ?_
  refine PW.goto q_284_1493 rfl ?_
  refine PW.incN q_284_1546 rfl (by decide) (by decide) (by omega) (by omega) fun x9 hx9 => ?_
  refine PW.goto q_284_1549 rfl ?_
  refine PW.cs (ce' := 311 + c) (sl' := 8628 + 6 * c) (by show 311 + c + 0 + 0 = _; omega) (by show 8628 + 6 * c + 0 + 0 = _; omega) ?_
  refine PW.lvS (lv' := law_lv x9) (lk1 rfl (lk1 rfl (lk1 rfl (lk1 rfl (lk1 rfl lk0))))) ?_
  exact PW.exit (kk M8 c x9 JM8 (by omega) (by omega))
set_option maxRecDepth 100000 in
set_option maxHeartbeats 4000000 in
theorem law_restore (G : pG) : law_C G 1496 := by
  intro i M c h0 h6 hL J hc kk
  refine PX.run ?_
  refine PW.aload_n q_284_1496 rfl ?_
  refine PW.aload_n q_284_1497 rfl ?_
  refine PW.iload q_284_1498 rfl ?_
  refine PW.cI q_284_1500 (by decide) fun c1 hc1 => ?_
  refine PW.addN q_284_1501 (by omega) (by omega) fun x2 hx2 => ?_
  refine PW.sld q_284_1502 (vp_in_iff.mpr ⟨by omega, by omega⟩) ?_
  refine PW.nmI ?_; intro a3 ea3
  refine PW.cV (as := [_]) (rest := []) q_284_1503 t_mv_284_203 kd_0 J.1.1 (by decide) rfl (by decide) rfl rfl (Nat.le_of_ble_eq_true rfl) (Nat.le_of_ble_eq_true rfl) (by show 311 + c + 0 ≤ 1000; omega) (by show 8628 + 6 * c + 0 ≤ 13000; omega) ?_
  refine PW.up (by decide) (c_X11_restore_vk G _ M J.1 a3 fun y4 M4 IM4 FM4 _ _ pM4 => ?_)
  refine PW.pop q_284_1506 rfl ?_
  refine PW.aload_n q_284_1507 rfl ?_
  refine PW.aload_n q_284_1508 rfl ?_
  refine PW.iload q_284_1509 rfl ?_
  refine PW.cI q_284_1511 (by decide) fun c5 hc5 => ?_
  refine PW.addN q_284_1512 (by omega) (by omega) fun x6 hx6 => ?_
  refine PW.sld q_284_1513 (vp_in_iff.mpr ⟨by omega, by omega⟩) ?_
  refine PW.nmI ?_; intro a7 ea7
  refine PW.cV (as := [_]) (rest := []) q_284_1514 t_mv_284_206 kd_294 IM4.1 (by decide) rfl (by decide) rfl rfl (Nat.le_of_ble_eq_true rfl) (Nat.le_of_ble_eq_true rfl) (by show 311 + c + 0 + 0 ≤ 1000; omega) (by show 8628 + 6 * c + 0 + 0 ≤ 13000; omega) ?_
  refine PW.up (by decide) (c_X12_restore_vkn G _ M4 IM4 a7 fun y8 M8 IM8 FM8 _ _ pM8 => ?_)
  have e1 : o_i (M4 294) 2 = o_i (M 294) 2 := by rw [Fr.at FM4 kd_294 rfl]
  have e3 : o_i (M4 1) 1 = o_i (M 1) 1 := by rw [Fr.at FM4 kd_1 rfl]
  have e2 : o_i (M8 1) 1 = o_i (M4 1) 1 := by rw [Fr.at FM8 kd_1 rfl]
  have ei : x2 = x6 := n_eq.mpr (by omega)
  have ez : a3.toInt = a7.toInt := by rw [ea3, ea7, ei]
  have k0 := J.2.2.1
  have b0 := J.len0
  have lf : o_i (M8 294) 2 = o_i (M4 294) 2 := pM8.2.2.2
  have f0 : o_i (M8 0) 10 = o_i (M 0) 10 := by rw [(Fr.at FM8 kd_0 rfl), (Fr.at FM4 kd_0 rfl)]
  have f1 : o_i (M8 294) 15 = o_i (M4 294) 15 := pM8.2.2.1
  have f2 : o_i (M4 294) 15 = o_i (M 294) 15 := by rw [(Fr.at FM4 kd_294 rfl)]
  have fj : o_i (M 0) 10 = o_i (M 294) 15 := J.2.2.2.2.2.2.2.2
  have fe : FE M8 := by unfold FE; omega
  have JM8 : LI M8 := ⟨IM8, by rw [Fr.at FM8 kd_310 rfl, Fr.at FM4 kd_310 rfl]; exact J.2.1, by omega, J.2.2.2.1.cg (by rw [Fr.at FM8 kd_2 rfl, Fr.at FM4 kd_2 rfl]) (by rw [Fr.at FM8 kd_295 rfl, Fr.at FM4 kd_295 rfl]) (by omega), J.2.2.2.2.1.cg (by rw [Fr.at FM8 kd_300 rfl, Fr.at FM4 kd_300 rfl]), J.2.2.2.2.2.1.cg (by rw [Fr.at FM8 kd_109 rfl, Fr.at FM4 kd_109 rfl]) (by rw [Fr.at FM8 kd_309 rfl, Fr.at FM4 kd_309 rfl]), J.2.2.2.2.2.2.1.re J.2.2.2.2.2.1 pM4.1 pM8.1 ez (Fr.at FM4 kd_296 rfl) (Fr.at FM4 kd_307 rfl) (Fr.at FM4 kd_309 rfl) (Fr.at FM8 kd_4 rfl) (Fr.at FM8 kd_40 rfl) (Fr.at FM8 kd_75 rfl) (Fr.at FM8 kd_307 rfl) (by rw [Fr.at FM8 kd_109 rfl, Fr.at FM4 kd_109 rfl]), J.2.2.2.2.2.2.2.1.re J.1.1 J.2.2.2.2.2.1 pM4.1 pM4.2 pM8.1 pM8.2.1 ez (Fr.at FM4 kd_299 rfl) (Fr.at FM4 kd_308 rfl) (Fr.at FM4 kd_309 rfl) (Fr.at FM8 kd_4 rfl) (Fr.at FM8 kd_40 rfl) (Fr.at FM8 kd_75 rfl) (Fr.at FM8 kd_5 rfl) (Fr.at FM8 kd_41 rfl) (Fr.at FM8 kd_76 rfl) (Fr.at FM8 kd_308 rfl) (by rw [Fr.at FM8 kd_109 rfl, Fr.at FM4 kd_109 rfl]), fe⟩
  refine PW.pop q_284_1517 rfl ?_
  refine PW.goto q_284_1518 rfl ?_
  refine PW.incN q_284_1546 rfl (by decide) (by decide) (by omega) (by omega) fun x9 hx9 => ?_
  refine PW.goto q_284_1549 rfl ?_
  refine PW.cs (ce' := 311 + c) (sl' := 8628 + 6 * c) (by show 311 + c + 0 + 0 = _; omega) (by show 8628 + 6 * c + 0 + 0 = _; omega) ?_
  refine PW.lvS (lv' := law_lv x9) (lk1 rfl (lk1 rfl (lk1 rfl (lk1 rfl (lk1 rfl lk0))))) ?_
  exact PW.exit (kk M8 c x9 JM8 (by omega) (by omega))
set_option maxRecDepth 100000 in
set_option maxHeartbeats 4000000 in
theorem law_count (G : pG) : law_C G 1521 := by
  intro i M c h0 h6 hL J hc kk
  refine PX.run ?_
  refine PW.aload_n q_284_1521 rfl ?_
  refine PW.aload_n q_284_1522 rfl ?_
  refine PW.iload q_284_1523 rfl ?_
  refine PW.cI q_284_1525 (by decide) fun c1 hc1 => ?_
  refine PW.addN q_284_1526 (by omega) (by omega) fun x2 hx2 => ?_
  refine PW.sld q_284_1527 (vp_in_iff.mpr ⟨by omega, by omega⟩) ?_
  refine PW.hvI fun a3 => ?_
  refine PW.cV (as := [_]) (rest := []) q_284_1528 t_mv_284_207 kd_0 J.1.1 (by decide) rfl (by decide) rfl rfl (Nat.le_of_ble_eq_true rfl) (Nat.le_of_ble_eq_true rfl) (by show 311 + c + 0 ≤ 1000; omega) (by show 8628 + 6 * c + 0 ≤ 13000; omega) ?_
  refine PW.up (by decide) (c_X11_count G _ M J.1 a3 fun y4 M4 IM4 FM4 => ?_)
  refine PW.pop q_284_1531 rfl ?_
  refine PW.aload_n q_284_1532 rfl ?_
  refine PW.aload_n q_284_1533 rfl ?_
  refine PW.iload q_284_1534 rfl ?_
  refine PW.cI q_284_1536 (by decide) fun c5 hc5 => ?_
  refine PW.addN q_284_1537 (by omega) (by omega) fun x6 hx6 => ?_
  refine PW.sld q_284_1538 (vp_in_iff.mpr ⟨by omega, by omega⟩) ?_
  refine PW.hvI fun a7 => ?_
  refine PW.cV (as := [_]) (rest := []) q_284_1539 t_mv_284_210 kd_294 IM4.1 (by decide) rfl (by decide) rfl rfl (Nat.le_of_ble_eq_true rfl) (Nat.le_of_ble_eq_true rfl) (by show 311 + c + 0 + 0 ≤ 1000; omega) (by show 8628 + 6 * c + 0 + 0 ≤ 13000; omega) ?_
  refine PW.up (by decide) (c_X12_count G _ M4 IM4 a7 fun y8 M8 IM8 FM8 lM8 => ?_)
  have e1 : o_i (M4 294) 2 = o_i (M 294) 2 := by rw [Fr.at FM4 kd_294 rfl]
  have e3 : o_i (M4 1) 1 = o_i (M 1) 1 := by rw [Fr.at FM4 kd_1 rfl]
  have e2 : o_i (M8 1) 1 = o_i (M4 1) 1 := by rw [Fr.at FM8 kd_1 rfl]
  have lf : o_i (M8 294) 2 = o_i (M4 294) 2 := lM8.1
  have k0 := J.2.2.1
  have b0 := J.len0
  have f0 : o_i (M8 0) 10 = o_i (M 0) 10 := by rw [(Fr.at FM8 kd_0 rfl), (Fr.at FM4 kd_0 rfl)]
  have f1 : o_i (M8 294) 15 = o_i (M4 294) 15 := lM8.2.2
  have f2 : o_i (M4 294) 15 = o_i (M 294) 15 := by rw [(Fr.at FM4 kd_294 rfl)]
  have fj : o_i (M 0) 10 = o_i (M 294) 15 := J.2.2.2.2.2.2.2.2
  have fe : FE M8 := by unfold FE; omega
  have JM8 : LI M8 := ⟨IM8, by rw [Fr.at FM8 kd_310 rfl, Fr.at FM4 kd_310 rfl]; exact J.2.1, by omega, J.2.2.2.1.cg (by rw [Fr.at FM8 kd_2 rfl, Fr.at FM4 kd_2 rfl]) (by rw [Fr.at FM8 kd_295 rfl, Fr.at FM4 kd_295 rfl]) (by omega), J.2.2.2.2.1.cg (by rw [Fr.at FM8 kd_300 rfl, Fr.at FM4 kd_300 rfl]), J.2.2.2.2.2.1.cg (by rw [Fr.at FM8 kd_109 rfl, Fr.at FM4 kd_109 rfl]) (by rw [Fr.at FM8 kd_309 rfl, Fr.at FM4 kd_309 rfl]), J.2.2.2.2.2.2.1.cg (by rw [Fr.at FM8 kd_4 rfl, Fr.at FM4 kd_4 rfl]) (by rw [Fr.at FM8 kd_40 rfl, Fr.at FM4 kd_40 rfl]) (by rw [Fr.at FM8 kd_75 rfl, Fr.at FM4 kd_75 rfl]) (by rw [Fr.at FM8 kd_109 rfl, Fr.at FM4 kd_109 rfl]) (by rw [Fr.at FM8 kd_307 rfl, Fr.at FM4 kd_307 rfl]) (gHs.cg gHs.refl (by rw [Fr.at FM8 kd_296 rfl, Fr.at FM4 kd_296 rfl])), J.2.2.2.2.2.2.2.1.cg (by rw [Fr.at FM8 kd_4 rfl, Fr.at FM4 kd_4 rfl]) (by rw [Fr.at FM8 kd_40 rfl, Fr.at FM4 kd_40 rfl]) (by rw [Fr.at FM8 kd_75 rfl, Fr.at FM4 kd_75 rfl]) (by rw [Fr.at FM8 kd_5 rfl, Fr.at FM4 kd_5 rfl]) (by rw [Fr.at FM8 kd_41 rfl, Fr.at FM4 kd_41 rfl]) (by rw [Fr.at FM8 kd_76 rfl, Fr.at FM4 kd_76 rfl]) (by rw [Fr.at FM8 kd_109 rfl, Fr.at FM4 kd_109 rfl]) (by rw [Fr.at FM8 kd_308 rfl, Fr.at FM4 kd_308 rfl]) (by rw [Fr.at FM8 kd_299 rfl, Fr.at FM4 kd_299 rfl]), fe⟩
  refine PW.pop q_284_1542 rfl ?_
  refine PW.goto q_284_1543 rfl ?_
  refine PW.incN q_284_1546 rfl (by decide) (by decide) (by omega) (by omega) fun x9 hx9 => ?_
  refine PW.goto q_284_1549 rfl ?_
  refine PW.cs (ce' := 311 + c) (sl' := 8628 + 6 * c) (by show 311 + c + 0 + 0 = _; omega) (by show 8628 + 6 * c + 0 + 0 = _; omega) ?_
  refine PW.lvS (lv' := law_lv x9) (lk1 rfl (lk1 rfl (lk1 rfl (lk1 rfl (lk1 rfl lk0))))) ?_
  exact PW.exit (kk M8 c x9 JM8 (by omega) (by omega))
set_option maxRecDepth 100000 in
set_option maxHeartbeats 4000000 in
theorem law_tail (G : pG) : law_C G 1546 := by
  intro i M c h0 h6 hL J hc kk
  refine PX.run ?_
  refine PW.incN q_284_1546 rfl (by decide) (by decide) (by omega) (by omega) fun x hx => ?_
  refine PW.goto q_284_1549 rfl ?_
  refine PW.lvS (lv' := law_lv x) (lk1 rfl (lk1 rfl (lk1 rfl (lk1 rfl (lk1 rfl lk0))))) ?_
  exact PW.exit (kk M c x J (by omega) (by omega))
