set_option maxRecDepth 100000 in
set_option maxHeartbeats 40000000 in
theorem law_round (G : pG) (hL : G.2.2.2.2.1 = 6) (a1 a2 a3 a4 a5 : Int32) (e1 : G.2.2.2.2.2 1 = a1) (e2 : G.2.2.2.2.2 2 = a2) (e3 : G.2.2.2.2.2 3 = a3) (e4 : G.2.2.2.2.2 4 = a4) (e5 : G.2.2.2.2.2 5 = a5) : PW G false 22 285 400 9000 law_K 1174 law_lv [] 311 f_M 311 8628 := by
  refine PW.aload_n q_285_1174 rfl ?_
  refine PW.aload_n q_285_1175 rfl ?_
  refine PW.iload q_285_1176 rfl ?_
  refine PW.iconst q_285_1178 ?_
  refine PW.iadd q_285_1179 ?_
  refine PW.sldE q_285_1180 (by rw [hL]; unfold vp_in; decide) e1 ?_
  refine PW.callV (as := [_]) (rest := []) q_285_1181 rfl (by decide) rfl (by decide) rfl rfl (Nat.le_of_ble_eq_true rfl) (Nat.le_of_ble_eq_true rfl) (by decide) (by decide) ?_
  refine PW.aload_n q_141_0 rfl ?_
  refine PW.iload_n q_141_1 rfl ?_
  refine PW.callV (as := [_]) (rest := []) q_141_2 rfl (by decide) rfl (by decide) rfl rfl (Nat.le_of_ble_eq_true rfl) (Nat.le_of_ble_eq_true rfl) (by decide) (by decide) ?_
  refine PW.aload_n q_157_0 rfl ?_
  refine PW.iload_n q_157_1 rfl ?_
  refine PW.callV (as := [_]) (rest := []) q_157_2 rfl (by decide) rfl (by decide) rfl rfl (Nat.le_of_ble_eq_true rfl) (Nat.le_of_ble_eq_true rfl) (by decide) (by decide) ?_
  refine PW.iload_n q_144_0 rfl ?_
  refine PW.if_lt q_144_1 rfl (fun h0 => ?_) (fun h0 => ?_)
  · skip
    have h0 : a1.toInt < 0 := s_ltI h0
    refine PW.iconst q_144_22 ?_
    refine PW.zret q_144_23 rfl (by decide) (by decide) (by decide) ?_
    refine PW.if_eq q_157_5 rfl (fun _ => ?_) (fun q => absurd (by decide) q)
    refine PW.iconst q_157_26 ?_
    refine PW.zret q_157_27 rfl (by decide) (by decide) (by decide) ?_
    refine PW.if_eq q_141_5 rfl (fun _ => ?_) (fun q => absurd (by decide) q)
    refine PW.iconst q_141_19 ?_
    refine PW.iret q_141_20 rfl (by decide) (by decide) ?_
    refine PW.aload_n q_285_1184 rfl ?_
    refine PW.aload_n q_285_1185 rfl ?_
    refine PW.iload q_285_1186 rfl ?_
    refine PW.iconst q_285_1188 ?_
    refine PW.iadd q_285_1189 ?_
    refine PW.sldE q_285_1190 (by rw [hL]; unfold vp_in; decide) e1 ?_
    refine PW.callV (as := [_]) (rest := [_]) q_285_1191 rfl (by decide) rfl (by decide) rfl rfl (Nat.le_of_ble_eq_true rfl) (Nat.le_of_ble_eq_true rfl) (by decide) (by decide) ?_
    refine PW.aload_n q_240_0 rfl ?_
    refine PW.iconst q_240_1 ?_
    refine PW.putf q_240_2 rfl (by decide) rfl rfl rfl (by decide) ?_
    refine PW.aload_n q_240_5 rfl ?_
    refine PW.iload_n q_240_6 rfl ?_
    refine PW.callV (as := [_]) (rest := []) q_240_7 rfl (by decide) rfl (by decide) rfl rfl (Nat.le_of_ble_eq_true rfl) (Nat.le_of_ble_eq_true rfl) (by decide) (by decide) ?_
    refine PW.iload_n q_197_0 rfl ?_
    refine PW.iconst q_197_1 ?_
    refine PW.aload_n q_197_2 rfl ?_
    refine PW.getf q_197_3 rfl (by decide) rfl rfl ?_
    refine PW.iconst q_197_6 ?_
    refine PW.iald q_197_7 (by decide) rfl (by unfold vp_in; decide) ?_
    refine PW.iconst q_197_8 ?_
    refine PW.isub q_197_9 ?_
    refine PW.callS (as := [_, _, _]) (rest := []) q_197_10 rfl (by decide) rfl (Nat.le_of_ble_eq_true rfl) (Nat.le_of_ble_eq_true rfl) (by decide) (by decide) ?_
    refine PW.iload_n q_167_0 rfl ?_
    refine PW.iload_n q_167_1 rfl ?_
    refine PW.icmp_lt q_167_2 rfl (fun h1 => ?_) (fun h1 => ?_)
    · skip
      have h1 : a1.toInt < 0 := s_ltI h1
      refine PW.iconst q_167_14 ?_
      refine PW.zret q_167_15 rfl (by decide) (by decide) (by decide) ?_
      refine PW.zret q_197_13 rfl (by decide) (by decide) (by decide) ?_
      refine PW.if_eq q_240_10 rfl (fun _ => ?_) (fun q => absurd (by decide) q)
      refine PW.iconst q_240_23 ?_
      refine PW.iret q_240_24 rfl (by decide) (by decide) ?_
      refine PW.icmp_eq q_285_1194 rfl (fun _ => ?_) (fun q => absurd (by decide) q)
      exact law_tail G hL _
    · skip
      have h1 : a1.toInt ≥ 0 := s_nltI h1
      exact absurd trivial (by omega)
  · skip
    have h0 : a1.toInt ≥ 0 := s_nltI h0
    refine PW.iload_n q_144_4 rfl ?_
    refine PW.aload_n q_144_5 rfl ?_
    refine PW.getf q_144_6 rfl (by decide) rfl rfl ?_
    refine PW.getN q_144_9 rfl (by decide) rfl rfl ?_
    refine PW.getN q_144_12 rfl (by decide) rfl rfl ?_
    refine PW.icmp_ge q_144_15 rfl (fun h2 => ?_) (fun h2 => ?_)
    · skip
      have h2 : a1.toInt ≥ 0 := s_geI h2
      refine PW.iconst q_144_22 ?_
      refine PW.zret q_144_23 rfl (by decide) (by decide) (by decide) ?_
      refine PW.if_eq q_157_5 rfl (fun _ => ?_) (fun q => absurd (by decide) q)
      refine PW.iconst q_157_26 ?_
      refine PW.zret q_157_27 rfl (by decide) (by decide) (by decide) ?_
      refine PW.if_eq q_141_5 rfl (fun _ => ?_) (fun q => absurd (by decide) q)
      refine PW.iconst q_141_19 ?_
      refine PW.iret q_141_20 rfl (by decide) (by decide) ?_
      refine PW.aload_n q_285_1184 rfl ?_
      refine PW.aload_n q_285_1185 rfl ?_
      refine PW.iload q_285_1186 rfl ?_
      refine PW.iconst q_285_1188 ?_
      refine PW.iadd q_285_1189 ?_
      refine PW.sldE q_285_1190 (by rw [hL]; unfold vp_in; decide) e1 ?_
      refine PW.callV (as := [_]) (rest := [_]) q_285_1191 rfl (by decide) rfl (by decide) rfl rfl (Nat.le_of_ble_eq_true rfl) (Nat.le_of_ble_eq_true rfl) (by decide) (by decide) ?_
      refine PW.aload_n q_240_0 rfl ?_
      refine PW.iconst q_240_1 ?_
      refine PW.putf q_240_2 rfl (by decide) rfl rfl rfl (by decide) ?_
      refine PW.aload_n q_240_5 rfl ?_
      refine PW.iload_n q_240_6 rfl ?_
      refine PW.callV (as := [_]) (rest := []) q_240_7 rfl (by decide) rfl (by decide) rfl rfl (Nat.le_of_ble_eq_true rfl) (Nat.le_of_ble_eq_true rfl) (by decide) (by decide) ?_
      refine PW.iload_n q_197_0 rfl ?_
      refine PW.iconst q_197_1 ?_
      refine PW.aload_n q_197_2 rfl ?_
      refine PW.getf q_197_3 rfl (by decide) rfl rfl ?_
      refine PW.iconst q_197_6 ?_
      refine PW.iald q_197_7 (by decide) rfl (by unfold vp_in; decide) ?_
      refine PW.iconst q_197_8 ?_
      refine PW.isub q_197_9 ?_
      refine PW.callS (as := [_, _, _]) (rest := []) q_197_10 rfl (by decide) rfl (Nat.le_of_ble_eq_true rfl) (Nat.le_of_ble_eq_true rfl) (by decide) (by decide) ?_
      refine PW.iload_n q_167_0 rfl ?_
      refine PW.iload_n q_167_1 rfl ?_
      refine PW.icmp_lt q_167_2 rfl (fun h3 => ?_) (fun h3 => ?_)
      · skip
        have h3 : a1.toInt < 0 := s_ltI h3
        exact absurd trivial (by omega)
      · skip
        have h3 : a1.toInt ≥ 0 := s_nltI h3
        refine PW.iload_n q_167_5 rfl ?_
        refine PW.iload_n q_167_6 rfl ?_
        refine PW.icmp_gt q_167_7 rfl (fun h4 => ?_) (fun h4 => ?_)
        · skip
          have h4 : a1.toInt > (-1) := s_gtI h4
          refine PW.iconst q_167_14 ?_
          refine PW.zret q_167_15 rfl (by decide) (by decide) (by decide) ?_
          refine PW.zret q_197_13 rfl (by decide) (by decide) (by decide) ?_
          refine PW.if_eq q_240_10 rfl (fun _ => ?_) (fun q => absurd (by decide) q)
          refine PW.iconst q_240_23 ?_
          refine PW.iret q_240_24 rfl (by decide) (by decide) ?_
          refine PW.icmp_eq q_285_1194 rfl (fun _ => ?_) (fun q => absurd (by decide) q)
          exact law_tail G hL _
        · skip
          have h4 : a1.toInt ≤ (-1) := s_ngtI h4
          exact absurd trivial (by omega)
    · skip
      have h2 : a1.toInt < 0 := s_ngeI h2
      exact absurd trivial (by omega)
set_option maxRecDepth 100000 in
set_option maxHeartbeats 40000000 in
theorem law_circle (G : pG) (hL : G.2.2.2.2.1 = 6) (a1 a2 a3 a4 a5 : Int32) (e1 : G.2.2.2.2.2 1 = a1) (e2 : G.2.2.2.2.2 2 = a2) (e3 : G.2.2.2.2.2 3 = a3) (e4 : G.2.2.2.2.2 4 = a4) (e5 : G.2.2.2.2.2 5 = a5) : PW G false 22 285 400 9000 law_K 1199 law_lv [] 311 f_M 311 8628 := by
  refine PW.aload_n q_285_1199 rfl ?_
  refine PW.aload_n q_285_1200 rfl ?_
  refine PW.iload q_285_1201 rfl ?_
  refine PW.iconst q_285_1203 ?_
  refine PW.iadd q_285_1204 ?_
  refine PW.sldE q_285_1205 (by rw [hL]; unfold vp_in; decide) e1 ?_
  refine PW.callV (as := [_]) (rest := []) q_285_1206 rfl (by decide) rfl (by decide) rfl rfl (Nat.le_of_ble_eq_true rfl) (Nat.le_of_ble_eq_true rfl) (by decide) (by decide) ?_
  refine PW.aload_n q_142_0 rfl ?_
  refine PW.iload_n q_142_1 rfl ?_
  refine PW.callV (as := [_]) (rest := []) q_142_2 rfl (by decide) rfl (by decide) rfl rfl (Nat.le_of_ble_eq_true rfl) (Nat.le_of_ble_eq_true rfl) (by decide) (by decide) ?_
  refine PW.aload_n q_157_0 rfl ?_
  refine PW.iload_n q_157_1 rfl ?_
  refine PW.callV (as := [_]) (rest := []) q_157_2 rfl (by decide) rfl (by decide) rfl rfl (Nat.le_of_ble_eq_true rfl) (Nat.le_of_ble_eq_true rfl) (by decide) (by decide) ?_
  refine PW.iload_n q_144_0 rfl ?_
  refine PW.if_lt q_144_1 rfl (fun h0 => ?_) (fun h0 => ?_)
  · skip
    have h0 : a1.toInt < 0 := s_ltI h0
    refine PW.iconst q_144_22 ?_
    refine PW.zret q_144_23 rfl (by decide) (by decide) (by decide) ?_
    refine PW.if_eq q_157_5 rfl (fun _ => ?_) (fun q => absurd (by decide) q)
    refine PW.iconst q_157_26 ?_
    refine PW.zret q_157_27 rfl (by decide) (by decide) (by decide) ?_
    refine PW.if_eq q_142_5 rfl (fun _ => ?_) (fun q => absurd (by decide) q)
    refine PW.iconst q_142_16 ?_
    refine PW.iret q_142_17 rfl (by decide) (by decide) ?_
    refine PW.aload_n q_285_1209 rfl ?_
    refine PW.aload_n q_285_1210 rfl ?_
    refine PW.iload q_285_1211 rfl ?_
    refine PW.iconst q_285_1213 ?_
    refine PW.iadd q_285_1214 ?_
    refine PW.sldE q_285_1215 (by rw [hL]; unfold vp_in; decide) e1 ?_
    refine PW.callV (as := [_]) (rest := [_]) q_285_1216 rfl (by decide) rfl (by decide) rfl rfl (Nat.le_of_ble_eq_true rfl) (Nat.le_of_ble_eq_true rfl) (by decide) (by decide) ?_
    refine PW.aload_n q_241_0 rfl ?_
    refine PW.iconst q_241_1 ?_
    refine PW.putf q_241_2 rfl (by decide) rfl rfl rfl (by decide) ?_
    refine PW.aload_n q_241_5 rfl ?_
    refine PW.iload_n q_241_6 rfl ?_
    refine PW.callV (as := [_]) (rest := []) q_241_7 rfl (by decide) rfl (by decide) rfl rfl (Nat.le_of_ble_eq_true rfl) (Nat.le_of_ble_eq_true rfl) (by decide) (by decide) ?_
    refine PW.iload_n q_197_0 rfl ?_
    refine PW.iconst q_197_1 ?_
    refine PW.aload_n q_197_2 rfl ?_
    refine PW.getf q_197_3 rfl (by decide) rfl rfl ?_
    refine PW.iconst q_197_6 ?_
    refine PW.iald q_197_7 (by decide) rfl (by unfold vp_in; decide) ?_
    refine PW.iconst q_197_8 ?_
    refine PW.isub q_197_9 ?_
    refine PW.callS (as := [_, _, _]) (rest := []) q_197_10 rfl (by decide) rfl (Nat.le_of_ble_eq_true rfl) (Nat.le_of_ble_eq_true rfl) (by decide) (by decide) ?_
    refine PW.iload_n q_167_0 rfl ?_
    refine PW.iload_n q_167_1 rfl ?_
    refine PW.icmp_lt q_167_2 rfl (fun h1 => ?_) (fun h1 => ?_)
    · skip
      have h1 : a1.toInt < 0 := s_ltI h1
      refine PW.iconst q_167_14 ?_
      refine PW.zret q_167_15 rfl (by decide) (by decide) (by decide) ?_
      refine PW.zret q_197_13 rfl (by decide) (by decide) (by decide) ?_
      refine PW.if_eq q_241_10 rfl (fun _ => ?_) (fun q => absurd (by decide) q)
      refine PW.iconst q_241_23 ?_
      refine PW.iret q_241_24 rfl (by decide) (by decide) ?_
      refine PW.icmp_eq q_285_1219 rfl (fun _ => ?_) (fun q => absurd (by decide) q)
      exact law_tail G hL _
    · skip
      have h1 : a1.toInt ≥ 0 := s_nltI h1
      exact absurd trivial (by omega)
  · skip
    have h0 : a1.toInt ≥ 0 := s_nltI h0
    refine PW.iload_n q_144_4 rfl ?_
    refine PW.aload_n q_144_5 rfl ?_
    refine PW.getf q_144_6 rfl (by decide) rfl rfl ?_
    refine PW.getN q_144_9 rfl (by decide) rfl rfl ?_
    refine PW.getN q_144_12 rfl (by decide) rfl rfl ?_
    refine PW.icmp_ge q_144_15 rfl (fun h2 => ?_) (fun h2 => ?_)
    · skip
      have h2 : a1.toInt ≥ 0 := s_geI h2
      refine PW.iconst q_144_22 ?_
      refine PW.zret q_144_23 rfl (by decide) (by decide) (by decide) ?_
      refine PW.if_eq q_157_5 rfl (fun _ => ?_) (fun q => absurd (by decide) q)
      refine PW.iconst q_157_26 ?_
      refine PW.zret q_157_27 rfl (by decide) (by decide) (by decide) ?_
      refine PW.if_eq q_142_5 rfl (fun _ => ?_) (fun q => absurd (by decide) q)
      refine PW.iconst q_142_16 ?_
      refine PW.iret q_142_17 rfl (by decide) (by decide) ?_
      refine PW.aload_n q_285_1209 rfl ?_
      refine PW.aload_n q_285_1210 rfl ?_
      refine PW.iload q_285_1211 rfl ?_
      refine PW.iconst q_285_1213 ?_
      refine PW.iadd q_285_1214 ?_
      refine PW.sldE q_285_1215 (by rw [hL]; unfold vp_in; decide) e1 ?_
      refine PW.callV (as := [_]) (rest := [_]) q_285_1216 rfl (by decide) rfl (by decide) rfl rfl (Nat.le_of_ble_eq_true rfl) (Nat.le_of_ble_eq_true rfl) (by decide) (by decide) ?_
      refine PW.aload_n q_241_0 rfl ?_
      refine PW.iconst q_241_1 ?_
      refine PW.putf q_241_2 rfl (by decide) rfl rfl rfl (by decide) ?_
      refine PW.aload_n q_241_5 rfl ?_
      refine PW.iload_n q_241_6 rfl ?_
      refine PW.callV (as := [_]) (rest := []) q_241_7 rfl (by decide) rfl (by decide) rfl rfl (Nat.le_of_ble_eq_true rfl) (Nat.le_of_ble_eq_true rfl) (by decide) (by decide) ?_
      refine PW.iload_n q_197_0 rfl ?_
      refine PW.iconst q_197_1 ?_
      refine PW.aload_n q_197_2 rfl ?_
      refine PW.getf q_197_3 rfl (by decide) rfl rfl ?_
      refine PW.iconst q_197_6 ?_
      refine PW.iald q_197_7 (by decide) rfl (by unfold vp_in; decide) ?_
      refine PW.iconst q_197_8 ?_
      refine PW.isub q_197_9 ?_
      refine PW.callS (as := [_, _, _]) (rest := []) q_197_10 rfl (by decide) rfl (Nat.le_of_ble_eq_true rfl) (Nat.le_of_ble_eq_true rfl) (by decide) (by decide) ?_
      refine PW.iload_n q_167_0 rfl ?_
      refine PW.iload_n q_167_1 rfl ?_
      refine PW.icmp_lt q_167_2 rfl (fun h3 => ?_) (fun h3 => ?_)
      · skip
        have h3 : a1.toInt < 0 := s_ltI h3
        exact absurd trivial (by omega)
      · skip
        have h3 : a1.toInt ≥ 0 := s_nltI h3
        refine PW.iload_n q_167_5 rfl ?_
        refine PW.iload_n q_167_6 rfl ?_
        refine PW.icmp_gt q_167_7 rfl (fun h4 => ?_) (fun h4 => ?_)
        · skip
          have h4 : a1.toInt > (-1) := s_gtI h4
          refine PW.iconst q_167_14 ?_
          refine PW.zret q_167_15 rfl (by decide) (by decide) (by decide) ?_
          refine PW.zret q_197_13 rfl (by decide) (by decide) (by decide) ?_
          refine PW.if_eq q_241_10 rfl (fun _ => ?_) (fun q => absurd (by decide) q)
          refine PW.iconst q_241_23 ?_
          refine PW.iret q_241_24 rfl (by decide) (by decide) ?_
          refine PW.icmp_eq q_285_1219 rfl (fun _ => ?_) (fun q => absurd (by decide) q)
          exact law_tail G hL _
        · skip
          have h4 : a1.toInt ≤ (-1) := s_ngtI h4
          exact absurd trivial (by omega)
    · skip
      have h2 : a1.toInt < 0 := s_ngeI h2
      exact absurd trivial (by omega)
set_option maxRecDepth 100000 in
set_option maxHeartbeats 40000000 in
theorem law_least (G : pG) (hL : G.2.2.2.2.1 = 6) (a1 a2 a3 a4 a5 : Int32) (e1 : G.2.2.2.2.2 1 = a1) (e2 : G.2.2.2.2.2 2 = a2) (e3 : G.2.2.2.2.2 3 = a3) (e4 : G.2.2.2.2.2 4 = a4) (e5 : G.2.2.2.2.2 5 = a5) : PW G false 22 285 400 9000 law_K 1237 law_lv [] 311 f_M 311 8628 := by
  refine PW.aload_n q_285_1237 rfl ?_
  refine PW.aload_n q_285_1238 rfl ?_
  refine PW.iload q_285_1239 rfl ?_
  refine PW.iconst q_285_1241 ?_
  refine PW.iadd q_285_1242 ?_
  refine PW.sldE q_285_1243 (by rw [hL]; unfold vp_in; decide) e1 ?_
  refine PW.aload_n q_285_1244 rfl ?_
  refine PW.iload q_285_1245 rfl ?_
  refine PW.iconst q_285_1247 ?_
  refine PW.iadd q_285_1248 ?_
  refine PW.sldE q_285_1249 (by rw [hL]; unfold vp_in; decide) e2 ?_
  refine PW.callV (as := [_, _]) (rest := []) q_285_1250 rfl (by decide) rfl (by decide) rfl rfl (Nat.le_of_ble_eq_true rfl) (Nat.le_of_ble_eq_true rfl) (by decide) (by decide) ?_
  refine PW.aload_n q_132_0 rfl ?_
  refine PW.iload_n q_132_1 rfl ?_
  refine PW.callV (as := [_]) (rest := []) q_132_2 rfl (by decide) rfl (by decide) rfl rfl (Nat.le_of_ble_eq_true rfl) (Nat.le_of_ble_eq_true rfl) (by decide) (by decide) ?_
  refine PW.iload_n q_143_0 rfl ?_
  refine PW.if_lt q_143_1 rfl (fun h0 => ?_) (fun h0 => ?_)
  · skip
    have h0 : a1.toInt < 0 := s_ltI h0
    refine PW.iconst q_143_22 ?_
    refine PW.zret q_143_23 rfl (by decide) (by decide) (by decide) ?_
    refine PW.if_eq q_132_5 rfl (fun _ => ?_) (fun q => absurd (by decide) q)
    refine PW.iconst q_132_16 ?_
    refine PW.iret q_132_17 rfl (by decide) (by decide) ?_
    refine PW.aload_n q_285_1253 rfl ?_
    refine PW.aload_n q_285_1254 rfl ?_
    refine PW.iload q_285_1255 rfl ?_
    refine PW.iconst q_285_1257 ?_
    refine PW.iadd q_285_1258 ?_
    refine PW.sldE q_285_1259 (by rw [hL]; unfold vp_in; decide) e1 ?_
    refine PW.aload_n q_285_1260 rfl ?_
    refine PW.iload q_285_1261 rfl ?_
    refine PW.iconst q_285_1263 ?_
    refine PW.iadd q_285_1264 ?_
    refine PW.sldE q_285_1265 (by rw [hL]; unfold vp_in; decide) e2 ?_
    refine PW.callV (as := [_, _]) (rest := [_]) q_285_1266 rfl (by decide) rfl (by decide) rfl rfl (Nat.le_of_ble_eq_true rfl) (Nat.le_of_ble_eq_true rfl) (by decide) (by decide) ?_
    refine PW.aload_n q_244_0 rfl ?_
    refine PW.iconst q_244_1 ?_
    refine PW.putf q_244_2 rfl (by decide) rfl rfl rfl (by decide) ?_
    refine PW.aload_n q_244_5 rfl ?_
    refine PW.iload_n q_244_6 rfl ?_
    refine PW.callV (as := [_]) (rest := []) q_244_7 rfl (by decide) rfl (by decide) rfl rfl (Nat.le_of_ble_eq_true rfl) (Nat.le_of_ble_eq_true rfl) (by decide) (by decide) ?_
    refine PW.iload_n q_196_0 rfl ?_
    refine PW.iconst q_196_1 ?_
    refine PW.aload_n q_196_2 rfl ?_
    refine PW.getf q_196_3 rfl (by decide) rfl rfl ?_
    refine PW.iconst q_196_6 ?_
    refine PW.iald q_196_7 (by decide) rfl (by unfold vp_in; decide) ?_
    refine PW.iconst q_196_8 ?_
    refine PW.isub q_196_9 ?_
    refine PW.callS (as := [_, _, _]) (rest := []) q_196_10 rfl (by decide) rfl (Nat.le_of_ble_eq_true rfl) (Nat.le_of_ble_eq_true rfl) (by decide) (by decide) ?_
    refine PW.iload_n q_167_0 rfl ?_
    refine PW.iload_n q_167_1 rfl ?_
    refine PW.icmp_lt q_167_2 rfl (fun h1 => ?_) (fun h1 => ?_)
    · skip
      have h1 : a1.toInt < 0 := s_ltI h1
      refine PW.iconst q_167_14 ?_
      refine PW.zret q_167_15 rfl (by decide) (by decide) (by decide) ?_
      refine PW.zret q_196_13 rfl (by decide) (by decide) (by decide) ?_
      refine PW.if_eq q_244_10 rfl (fun _ => ?_) (fun q => absurd (by decide) q)
      refine PW.iconst q_244_30 ?_
      refine PW.iret q_244_31 rfl (by decide) (by decide) ?_
      refine PW.icmp_eq q_285_1269 rfl (fun _ => ?_) (fun q => absurd (by decide) q)
      exact law_tail G hL _
    · skip
      have h1 : a1.toInt ≥ 0 := s_nltI h1
      exact absurd trivial (by omega)
  · skip
    have h0 : a1.toInt ≥ 0 := s_nltI h0
    refine PW.iload_n q_143_4 rfl ?_
    refine PW.aload_n q_143_5 rfl ?_
    refine PW.getf q_143_6 rfl (by decide) rfl rfl ?_
    refine PW.getN q_143_9 rfl (by decide) rfl rfl ?_
    refine PW.getN q_143_12 rfl (by decide) rfl rfl ?_
    refine PW.icmp_ge q_143_15 rfl (fun h2 => ?_) (fun h2 => ?_)
    · skip
      have h2 : a1.toInt ≥ 0 := s_geI h2
      refine PW.iconst q_143_22 ?_
      refine PW.zret q_143_23 rfl (by decide) (by decide) (by decide) ?_
      refine PW.if_eq q_132_5 rfl (fun _ => ?_) (fun q => absurd (by decide) q)
      refine PW.iconst q_132_16 ?_
      refine PW.iret q_132_17 rfl (by decide) (by decide) ?_
      refine PW.aload_n q_285_1253 rfl ?_
      refine PW.aload_n q_285_1254 rfl ?_
      refine PW.iload q_285_1255 rfl ?_
      refine PW.iconst q_285_1257 ?_
      refine PW.iadd q_285_1258 ?_
      refine PW.sldE q_285_1259 (by rw [hL]; unfold vp_in; decide) e1 ?_
      refine PW.aload_n q_285_1260 rfl ?_
      refine PW.iload q_285_1261 rfl ?_
      refine PW.iconst q_285_1263 ?_
      refine PW.iadd q_285_1264 ?_
      refine PW.sldE q_285_1265 (by rw [hL]; unfold vp_in; decide) e2 ?_
      refine PW.callV (as := [_, _]) (rest := [_]) q_285_1266 rfl (by decide) rfl (by decide) rfl rfl (Nat.le_of_ble_eq_true rfl) (Nat.le_of_ble_eq_true rfl) (by decide) (by decide) ?_
      refine PW.aload_n q_244_0 rfl ?_
      refine PW.iconst q_244_1 ?_
      refine PW.putf q_244_2 rfl (by decide) rfl rfl rfl (by decide) ?_
      refine PW.aload_n q_244_5 rfl ?_
      refine PW.iload_n q_244_6 rfl ?_
      refine PW.callV (as := [_]) (rest := []) q_244_7 rfl (by decide) rfl (by decide) rfl rfl (Nat.le_of_ble_eq_true rfl) (Nat.le_of_ble_eq_true rfl) (by decide) (by decide) ?_
      refine PW.iload_n q_196_0 rfl ?_
      refine PW.iconst q_196_1 ?_
      refine PW.aload_n q_196_2 rfl ?_
      refine PW.getf q_196_3 rfl (by decide) rfl rfl ?_
      refine PW.iconst q_196_6 ?_
      refine PW.iald q_196_7 (by decide) rfl (by unfold vp_in; decide) ?_
      refine PW.iconst q_196_8 ?_
      refine PW.isub q_196_9 ?_
      refine PW.callS (as := [_, _, _]) (rest := []) q_196_10 rfl (by decide) rfl (Nat.le_of_ble_eq_true rfl) (Nat.le_of_ble_eq_true rfl) (by decide) (by decide) ?_
      refine PW.iload_n q_167_0 rfl ?_
      refine PW.iload_n q_167_1 rfl ?_
      refine PW.icmp_lt q_167_2 rfl (fun h3 => ?_) (fun h3 => ?_)
      · skip
        have h3 : a1.toInt < 0 := s_ltI h3
        exact absurd trivial (by omega)
      · skip
        have h3 : a1.toInt ≥ 0 := s_nltI h3
        refine PW.iload_n q_167_5 rfl ?_
        refine PW.iload_n q_167_6 rfl ?_
        refine PW.icmp_gt q_167_7 rfl (fun h4 => ?_) (fun h4 => ?_)
        · skip
          have h4 : a1.toInt > (-1) := s_gtI h4
          refine PW.iconst q_167_14 ?_
          refine PW.zret q_167_15 rfl (by decide) (by decide) (by decide) ?_
          refine PW.zret q_196_13 rfl (by decide) (by decide) (by decide) ?_
          refine PW.if_eq q_244_10 rfl (fun _ => ?_) (fun q => absurd (by decide) q)
          refine PW.iconst q_244_30 ?_
          refine PW.iret q_244_31 rfl (by decide) (by decide) ?_
          refine PW.icmp_eq q_285_1269 rfl (fun _ => ?_) (fun q => absurd (by decide) q)
          exact law_tail G hL _
        · skip
          have h4 : a1.toInt ≤ (-1) := s_ngtI h4
          exact absurd trivial (by omega)
    · skip
      have h2 : a1.toInt < 0 := s_ngeI h2
      exact absurd trivial (by omega)
set_option maxRecDepth 100000 in
set_option maxHeartbeats 40000000 in
theorem law_runs (G : pG) (hL : G.2.2.2.2.1 = 6) (a1 a2 a3 a4 a5 : Int32) (e1 : G.2.2.2.2.2 1 = a1) (e2 : G.2.2.2.2.2 2 = a2) (e3 : G.2.2.2.2.2 3 = a3) (e4 : G.2.2.2.2.2 4 = a4) (e5 : G.2.2.2.2.2 5 = a5) : PW G false 22 285 400 9000 law_K 1274 law_lv [] 311 f_M 311 8628 := by
  refine PW.aload_n q_285_1274 rfl ?_
  refine PW.aload_n q_285_1275 rfl ?_
  refine PW.iload q_285_1276 rfl ?_
  refine PW.iconst q_285_1278 ?_
  refine PW.iadd q_285_1279 ?_
  refine PW.sldE q_285_1280 (by rw [hL]; unfold vp_in; decide) e1 ?_
  refine PW.aload_n q_285_1281 rfl ?_
  refine PW.iload q_285_1282 rfl ?_
  refine PW.iconst q_285_1284 ?_
  refine PW.iadd q_285_1285 ?_
  refine PW.sldE q_285_1286 (by rw [hL]; unfold vp_in; decide) e2 ?_
  refine PW.callV (as := [_, _]) (rest := []) q_285_1287 rfl (by decide) rfl (by decide) rfl rfl (Nat.le_of_ble_eq_true rfl) (Nat.le_of_ble_eq_true rfl) (by decide) (by decide) ?_
  refine PW.aload_n q_133_0 rfl ?_
  refine PW.iload_n q_133_1 rfl ?_
  refine PW.callV (as := [_]) (rest := []) q_133_2 rfl (by decide) rfl (by decide) rfl rfl (Nat.le_of_ble_eq_true rfl) (Nat.le_of_ble_eq_true rfl) (by decide) (by decide) ?_
  refine PW.iload_n q_143_0 rfl ?_
  refine PW.if_lt q_143_1 rfl (fun h0 => ?_) (fun h0 => ?_)
  · skip
    have h0 : a1.toInt < 0 := s_ltI h0
    refine PW.iconst q_143_22 ?_
    refine PW.zret q_143_23 rfl (by decide) (by decide) (by decide) ?_
    refine PW.if_eq q_133_5 rfl (fun _ => ?_) (fun q => absurd (by decide) q)
    refine PW.iconst q_133_16 ?_
    refine PW.iret q_133_17 rfl (by decide) (by decide) ?_
    refine PW.aload_n q_285_1290 rfl ?_
    refine PW.aload_n q_285_1291 rfl ?_
    refine PW.iload q_285_1292 rfl ?_
    refine PW.iconst q_285_1294 ?_
    refine PW.iadd q_285_1295 ?_
    refine PW.sldE q_285_1296 (by rw [hL]; unfold vp_in; decide) e1 ?_
    refine PW.aload_n q_285_1297 rfl ?_
    refine PW.iload q_285_1298 rfl ?_
    refine PW.iconst q_285_1300 ?_
    refine PW.iadd q_285_1301 ?_
    refine PW.sldE q_285_1302 (by rw [hL]; unfold vp_in; decide) e2 ?_
    refine PW.callV (as := [_, _]) (rest := [_]) q_285_1303 rfl (by decide) rfl (by decide) rfl rfl (Nat.le_of_ble_eq_true rfl) (Nat.le_of_ble_eq_true rfl) (by decide) (by decide) ?_
    refine PW.aload_n q_245_0 rfl ?_
    refine PW.iconst q_245_1 ?_
    refine PW.putf q_245_2 rfl (by decide) rfl rfl rfl (by decide) ?_
    refine PW.aload_n q_245_5 rfl ?_
    refine PW.iload_n q_245_6 rfl ?_
    refine PW.callV (as := [_]) (rest := []) q_245_7 rfl (by decide) rfl (by decide) rfl rfl (Nat.le_of_ble_eq_true rfl) (Nat.le_of_ble_eq_true rfl) (by decide) (by decide) ?_
    refine PW.iload_n q_196_0 rfl ?_
    refine PW.iconst q_196_1 ?_
    refine PW.aload_n q_196_2 rfl ?_
    refine PW.getf q_196_3 rfl (by decide) rfl rfl ?_
    refine PW.iconst q_196_6 ?_
    refine PW.iald q_196_7 (by decide) rfl (by unfold vp_in; decide) ?_
    refine PW.iconst q_196_8 ?_
    refine PW.isub q_196_9 ?_
    refine PW.callS (as := [_, _, _]) (rest := []) q_196_10 rfl (by decide) rfl (Nat.le_of_ble_eq_true rfl) (Nat.le_of_ble_eq_true rfl) (by decide) (by decide) ?_
    refine PW.iload_n q_167_0 rfl ?_
    refine PW.iload_n q_167_1 rfl ?_
    refine PW.icmp_lt q_167_2 rfl (fun h1 => ?_) (fun h1 => ?_)
    · skip
      have h1 : a1.toInt < 0 := s_ltI h1
      refine PW.iconst q_167_14 ?_
      refine PW.zret q_167_15 rfl (by decide) (by decide) (by decide) ?_
      refine PW.zret q_196_13 rfl (by decide) (by decide) (by decide) ?_
      refine PW.if_eq q_245_10 rfl (fun _ => ?_) (fun q => absurd (by decide) q)
      refine PW.iconst q_245_21 ?_
      refine PW.iret q_245_22 rfl (by decide) (by decide) ?_
      refine PW.icmp_eq q_285_1306 rfl (fun _ => ?_) (fun q => absurd (by decide) q)
      exact law_tail G hL _
    · skip
      have h1 : a1.toInt ≥ 0 := s_nltI h1
      exact absurd trivial (by omega)
  · skip
    have h0 : a1.toInt ≥ 0 := s_nltI h0
    refine PW.iload_n q_143_4 rfl ?_
    refine PW.aload_n q_143_5 rfl ?_
    refine PW.getf q_143_6 rfl (by decide) rfl rfl ?_
    refine PW.getN q_143_9 rfl (by decide) rfl rfl ?_
    refine PW.getN q_143_12 rfl (by decide) rfl rfl ?_
    refine PW.icmp_ge q_143_15 rfl (fun h2 => ?_) (fun h2 => ?_)
    · skip
      have h2 : a1.toInt ≥ 0 := s_geI h2
      refine PW.iconst q_143_22 ?_
      refine PW.zret q_143_23 rfl (by decide) (by decide) (by decide) ?_
      refine PW.if_eq q_133_5 rfl (fun _ => ?_) (fun q => absurd (by decide) q)
      refine PW.iconst q_133_16 ?_
      refine PW.iret q_133_17 rfl (by decide) (by decide) ?_
      refine PW.aload_n q_285_1290 rfl ?_
      refine PW.aload_n q_285_1291 rfl ?_
      refine PW.iload q_285_1292 rfl ?_
      refine PW.iconst q_285_1294 ?_
      refine PW.iadd q_285_1295 ?_
      refine PW.sldE q_285_1296 (by rw [hL]; unfold vp_in; decide) e1 ?_
      refine PW.aload_n q_285_1297 rfl ?_
      refine PW.iload q_285_1298 rfl ?_
      refine PW.iconst q_285_1300 ?_
      refine PW.iadd q_285_1301 ?_
      refine PW.sldE q_285_1302 (by rw [hL]; unfold vp_in; decide) e2 ?_
      refine PW.callV (as := [_, _]) (rest := [_]) q_285_1303 rfl (by decide) rfl (by decide) rfl rfl (Nat.le_of_ble_eq_true rfl) (Nat.le_of_ble_eq_true rfl) (by decide) (by decide) ?_
      refine PW.aload_n q_245_0 rfl ?_
      refine PW.iconst q_245_1 ?_
      refine PW.putf q_245_2 rfl (by decide) rfl rfl rfl (by decide) ?_
      refine PW.aload_n q_245_5 rfl ?_
      refine PW.iload_n q_245_6 rfl ?_
      refine PW.callV (as := [_]) (rest := []) q_245_7 rfl (by decide) rfl (by decide) rfl rfl (Nat.le_of_ble_eq_true rfl) (Nat.le_of_ble_eq_true rfl) (by decide) (by decide) ?_
      refine PW.iload_n q_196_0 rfl ?_
      refine PW.iconst q_196_1 ?_
      refine PW.aload_n q_196_2 rfl ?_
      refine PW.getf q_196_3 rfl (by decide) rfl rfl ?_
      refine PW.iconst q_196_6 ?_
      refine PW.iald q_196_7 (by decide) rfl (by unfold vp_in; decide) ?_
      refine PW.iconst q_196_8 ?_
      refine PW.isub q_196_9 ?_
      refine PW.callS (as := [_, _, _]) (rest := []) q_196_10 rfl (by decide) rfl (Nat.le_of_ble_eq_true rfl) (Nat.le_of_ble_eq_true rfl) (by decide) (by decide) ?_
      refine PW.iload_n q_167_0 rfl ?_
      refine PW.iload_n q_167_1 rfl ?_
      refine PW.icmp_lt q_167_2 rfl (fun h3 => ?_) (fun h3 => ?_)
      · skip
        have h3 : a1.toInt < 0 := s_ltI h3
        exact absurd trivial (by omega)
      · skip
        have h3 : a1.toInt ≥ 0 := s_nltI h3
        refine PW.iload_n q_167_5 rfl ?_
        refine PW.iload_n q_167_6 rfl ?_
        refine PW.icmp_gt q_167_7 rfl (fun h4 => ?_) (fun h4 => ?_)
        · skip
          have h4 : a1.toInt > (-1) := s_gtI h4
          refine PW.iconst q_167_14 ?_
          refine PW.zret q_167_15 rfl (by decide) (by decide) (by decide) ?_
          refine PW.zret q_196_13 rfl (by decide) (by decide) (by decide) ?_
          refine PW.if_eq q_245_10 rfl (fun _ => ?_) (fun q => absurd (by decide) q)
          refine PW.iconst q_245_21 ?_
          refine PW.iret q_245_22 rfl (by decide) (by decide) ?_
          refine PW.icmp_eq q_285_1306 rfl (fun _ => ?_) (fun q => absurd (by decide) q)
          exact law_tail G hL _
        · skip
          have h4 : a1.toInt ≤ (-1) := s_ngtI h4
          exact absurd trivial (by omega)
    · skip
      have h2 : a1.toInt < 0 := s_ngeI h2
      exact absurd trivial (by omega)
