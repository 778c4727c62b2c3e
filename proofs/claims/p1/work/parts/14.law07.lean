set_option maxRecDepth 100000 in
set_option maxHeartbeats 40000000 in
theorem law_judge (G : pG) (hL : G.2.2.2.2.1 = 6) (a1 a2 a3 a4 a5 : Int32) (e1 : G.2.2.2.2.2 1 = a1) (e2 : G.2.2.2.2.2 2 = a2) (e3 : G.2.2.2.2.2 3 = a3) (e4 : G.2.2.2.2.2 4 = a4) (e5 : G.2.2.2.2.2 5 = a5) : PW G false 22 285 400 9000 law_K 1324 law_lv [] 311 f_M 311 8628 := by
  refine PW.aload_n q_285_1324 rfl ?_
  refine PW.aload_n q_285_1325 rfl ?_
  refine PW.iload q_285_1326 rfl ?_
  refine PW.iconst q_285_1328 ?_
  refine PW.iadd q_285_1329 ?_
  refine PW.sldE q_285_1330 (by rw [hL]; unfold vp_in; decide) e1 ?_
  refine PW.callV (as := [_]) (rest := []) q_285_1331 rfl (by decide) rfl (by decide) rfl rfl (Nat.le_of_ble_eq_true rfl) (Nat.le_of_ble_eq_true rfl) (by decide) (by decide) ?_
  refine PW.aload_n q_136_0 rfl ?_
  refine PW.iload_n q_136_1 rfl ?_
  refine PW.callV (as := [_]) (rest := []) q_136_2 rfl (by decide) rfl (by decide) rfl rfl (Nat.le_of_ble_eq_true rfl) (Nat.le_of_ble_eq_true rfl) (by decide) (by decide) ?_
  refine PW.iload_n q_144_0 rfl ?_
  refine PW.if_lt q_144_1 rfl (fun h0 => ?_) (fun h0 => ?_)
  · skip
    have h0 : a1.toInt < 0 := s_ltI h0
    refine PW.iconst q_144_22 ?_
    refine PW.zret q_144_23 rfl (by decide) (by decide) (by decide) ?_
    refine PW.if_eq q_136_5 rfl (fun _ => ?_) (fun q => absurd (by decide) q)
    refine PW.bipush q_136_16 ?_
    refine PW.istore_n q_136_18 (by decide) ?_
    refine PW.aload_n q_136_19 rfl ?_
    refine PW.getf q_136_20 rfl (by decide) rfl rfl ?_
    refine PW.iconst q_136_23 ?_
    refine PW.putN q_136_24 rfl (by decide) rfl rfl rfl (by decide) ?_
    refine PW.iload_n q_136_27 rfl ?_
    refine PW.iret q_136_28 rfl (by decide) (by decide) ?_
    refine PW.aload_n q_285_1334 rfl ?_
    refine PW.aload_n q_285_1335 rfl ?_
    refine PW.iload q_285_1336 rfl ?_
    refine PW.iconst q_285_1338 ?_
    refine PW.iadd q_285_1339 ?_
    refine PW.sldE q_285_1340 (by rw [hL]; unfold vp_in; decide) e1 ?_
    refine PW.callV (as := [_]) (rest := [_]) q_285_1341 rfl (by decide) rfl (by decide) rfl rfl (Nat.le_of_ble_eq_true rfl) (Nat.le_of_ble_eq_true rfl) (by decide) (by decide) ?_
    refine PW.aload_n q_247_0 rfl ?_
    refine PW.iconst q_247_1 ?_
    refine PW.putf q_247_2 rfl (by decide) rfl rfl rfl (by decide) ?_
    refine PW.aload_n q_247_5 rfl ?_
    refine PW.sipush q_247_6 ?_
    refine PW.callV (as := [_]) (rest := []) q_247_9 rfl (by decide) rfl (by decide) rfl rfl (Nat.le_of_ble_eq_true rfl) (Nat.le_of_ble_eq_true rfl) (by decide) (by decide) ?_
    refine PW.aload_n q_166_0 rfl ?_
    refine PW.aload_n q_166_1 rfl ?_
    refine PW.getf q_166_2 rfl (by decide) rfl rfl ?_
    refine PW.putf q_166_5 rfl (by decide) rfl rfl rfl (by decide) ?_
    refine PW.aload_n q_166_8 rfl ?_
    refine PW.iconst q_166_9 ?_
    refine PW.putf q_166_10 rfl (by decide) rfl rfl rfl (by decide) ?_
    refine PW.aload_n q_166_13 rfl ?_
    refine PW.iconst q_166_14 ?_
    refine PW.putf q_166_15 rfl (by decide) rfl rfl rfl (by decide) ?_
    refine PW.aload_n q_166_18 rfl ?_
    refine PW.iload_n q_166_19 rfl ?_
    refine PW.putf q_166_20 rfl (by decide) rfl rfl rfl (by decide) ?_
    refine PW.vret q_166_23 rfl (by decide) (by decide) ?_
    refine PW.aload_n q_247_12 rfl ?_
    refine PW.getf q_247_13 rfl (by decide) rfl rfl ?_
    refine PW.iconst q_247_16 ?_
    refine PW.bipush q_247_17 ?_
    refine PW.callS (as := [_, _, _]) (rest := []) q_247_19 rfl (by decide) rfl (Nat.le_of_ble_eq_true rfl) (Nat.le_of_ble_eq_true rfl) (by decide) (by decide) ?_
    refine PW.iload_n q_167_0 rfl ?_
    refine PW.iload_n q_167_1 rfl ?_
    refine PW.icmp_lt q_167_2 rfl (fun _ => ?_) (fun q => absurd (by decide) q)
    refine PW.iconst q_167_14 ?_
    refine PW.zret q_167_15 rfl (by decide) (by decide) (by decide) ?_
    refine PW.if_eq q_247_22 rfl (fun _ => ?_) (fun q => absurd (by decide) q)
    refine PW.iconst q_247_37 ?_
    refine PW.istore_n q_247_38 (by decide) ?_
    refine PW.iconst q_247_39 ?_
    refine PW.istore_n q_247_40 (by decide) ?_
    refine PW.iload_n q_247_41 rfl ?_
    refine PW.aload_n q_247_42 rfl ?_
    refine PW.getf q_247_43 rfl (by decide) rfl rfl ?_
    refine PW.icmp_ge q_247_46 rfl (fun _ => ?_) (fun q => absurd (by decide) q)
    refine PW.iload_n q_247_69 rfl ?_
    refine PW.if_ne q_247_70 rfl (fun q => absurd (by decide) q) (fun _ => ?_)
    refine PW.bipush q_247_73 ?_
    refine PW.iret q_247_75 rfl (by decide) (by decide) ?_
    refine PW.icmp_eq q_285_1344 rfl (fun _ => ?_) (fun q => absurd (by decide) q)
    exact law_tail G hL _
  · skip
    have h0 : a1.toInt ≥ 0 := s_nltI h0
    refine PW.iload_n q_144_4 rfl ?_
    refine PW.aload_n q_144_5 rfl ?_
    refine PW.getf q_144_6 rfl (by decide) rfl rfl ?_
    refine PW.getN q_144_9 rfl (by decide) rfl rfl ?_
    refine PW.getN q_144_12 rfl (by decide) rfl rfl ?_
    refine PW.icmp_ge q_144_15 rfl (fun h1 => ?_) (fun h1 => ?_)
    · skip
      have h1 : a1.toInt ≥ 0 := s_geI h1
      refine PW.iconst q_144_22 ?_
      refine PW.zret q_144_23 rfl (by decide) (by decide) (by decide) ?_
      refine PW.if_eq q_136_5 rfl (fun _ => ?_) (fun q => absurd (by decide) q)
      refine PW.bipush q_136_16 ?_
      refine PW.istore_n q_136_18 (by decide) ?_
      refine PW.aload_n q_136_19 rfl ?_
      refine PW.getf q_136_20 rfl (by decide) rfl rfl ?_
      refine PW.iconst q_136_23 ?_
      refine PW.putN q_136_24 rfl (by decide) rfl rfl rfl (by decide) ?_
      refine PW.iload_n q_136_27 rfl ?_
      refine PW.iret q_136_28 rfl (by decide) (by decide) ?_
      refine PW.aload_n q_285_1334 rfl ?_
      refine PW.aload_n q_285_1335 rfl ?_
      refine PW.iload q_285_1336 rfl ?_
      refine PW.iconst q_285_1338 ?_
      refine PW.iadd q_285_1339 ?_
      refine PW.sldE q_285_1340 (by rw [hL]; unfold vp_in; decide) e1 ?_
      refine PW.callV (as := [_]) (rest := [_]) q_285_1341 rfl (by decide) rfl (by decide) rfl rfl (Nat.le_of_ble_eq_true rfl) (Nat.le_of_ble_eq_true rfl) (by decide) (by decide) ?_
      refine PW.aload_n q_247_0 rfl ?_
      refine PW.iconst q_247_1 ?_
      refine PW.putf q_247_2 rfl (by decide) rfl rfl rfl (by decide) ?_
      refine PW.aload_n q_247_5 rfl ?_
      refine PW.sipush q_247_6 ?_
      refine PW.callV (as := [_]) (rest := []) q_247_9 rfl (by decide) rfl (by decide) rfl rfl (Nat.le_of_ble_eq_true rfl) (Nat.le_of_ble_eq_true rfl) (by decide) (by decide) ?_
      refine PW.aload_n q_166_0 rfl ?_
      refine PW.aload_n q_166_1 rfl ?_
      refine PW.getf q_166_2 rfl (by decide) rfl rfl ?_
      refine PW.putf q_166_5 rfl (by decide) rfl rfl rfl (by decide) ?_
      refine PW.aload_n q_166_8 rfl ?_
      refine PW.iconst q_166_9 ?_
      refine PW.putf q_166_10 rfl (by decide) rfl rfl rfl (by decide) ?_
      refine PW.aload_n q_166_13 rfl ?_
      refine PW.iconst q_166_14 ?_
      refine PW.putf q_166_15 rfl (by decide) rfl rfl rfl (by decide) ?_
      refine PW.aload_n q_166_18 rfl ?_
      refine PW.iload_n q_166_19 rfl ?_
      refine PW.putf q_166_20 rfl (by decide) rfl rfl rfl (by decide) ?_
      refine PW.vret q_166_23 rfl (by decide) (by decide) ?_
      refine PW.aload_n q_247_12 rfl ?_
      refine PW.getf q_247_13 rfl (by decide) rfl rfl ?_
      refine PW.iconst q_247_16 ?_
      refine PW.bipush q_247_17 ?_
      refine PW.callS (as := [_, _, _]) (rest := []) q_247_19 rfl (by decide) rfl (Nat.le_of_ble_eq_true rfl) (Nat.le_of_ble_eq_true rfl) (by decide) (by decide) ?_
      refine PW.iload_n q_167_0 rfl ?_
      refine PW.iload_n q_167_1 rfl ?_
      refine PW.icmp_lt q_167_2 rfl (fun _ => ?_) (fun q => absurd (by decide) q)
      refine PW.iconst q_167_14 ?_
      refine PW.zret q_167_15 rfl (by decide) (by decide) (by decide) ?_
      refine PW.if_eq q_247_22 rfl (fun _ => ?_) (fun q => absurd (by decide) q)
      refine PW.iconst q_247_37 ?_
      refine PW.istore_n q_247_38 (by decide) ?_
      refine PW.iconst q_247_39 ?_
      refine PW.istore_n q_247_40 (by decide) ?_
      refine PW.iload_n q_247_41 rfl ?_
      refine PW.aload_n q_247_42 rfl ?_
      refine PW.getf q_247_43 rfl (by decide) rfl rfl ?_
      refine PW.icmp_ge q_247_46 rfl (fun _ => ?_) (fun q => absurd (by decide) q)
      refine PW.iload_n q_247_69 rfl ?_
      refine PW.if_ne q_247_70 rfl (fun q => absurd (by decide) q) (fun _ => ?_)
      refine PW.bipush q_247_73 ?_
      refine PW.iret q_247_75 rfl (by decide) (by decide) ?_
      refine PW.icmp_eq q_285_1344 rfl (fun _ => ?_) (fun q => absurd (by decide) q)
      exact law_tail G hL _
    · skip
      have h1 : a1.toInt < 0 := s_ngeI h1
      exact absurd trivial (by omega)
set_option maxRecDepth 100000 in
set_option maxHeartbeats 40000000 in
theorem law_turned (G : pG) (hL : G.2.2.2.2.1 = 6) (a1 a2 a3 a4 a5 : Int32) (e1 : G.2.2.2.2.2 1 = a1) (e2 : G.2.2.2.2.2 2 = a2) (e3 : G.2.2.2.2.2 3 = a3) (e4 : G.2.2.2.2.2 4 = a4) (e5 : G.2.2.2.2.2 5 = a5) : PW G false 22 285 400 9000 law_K 1362 law_lv [] 311 f_M 311 8628 := by
  refine PW.aload_n q_285_1362 rfl ?_
  refine PW.aload_n q_285_1363 rfl ?_
  refine PW.iload q_285_1364 rfl ?_
  refine PW.iconst q_285_1366 ?_
  refine PW.iadd q_285_1367 ?_
  refine PW.sldE q_285_1368 (by rw [hL]; unfold vp_in; decide) e1 ?_
  refine PW.aload_n q_285_1369 rfl ?_
  refine PW.iload q_285_1370 rfl ?_
  refine PW.iconst q_285_1372 ?_
  refine PW.iadd q_285_1373 ?_
  refine PW.sldE q_285_1374 (by rw [hL]; unfold vp_in; decide) e2 ?_
  refine PW.callV (as := [_, _]) (rest := []) q_285_1375 rfl (by decide) rfl (by decide) rfl rfl (Nat.le_of_ble_eq_true rfl) (Nat.le_of_ble_eq_true rfl) (by decide) (by decide) ?_
  refine PW.aload_n q_115_0 rfl ?_
  refine PW.iload_n q_115_1 rfl ?_
  refine PW.callV (as := [_]) (rest := []) q_115_2 rfl (by decide) rfl (by decide) rfl rfl (Nat.le_of_ble_eq_true rfl) (Nat.le_of_ble_eq_true rfl) (by decide) (by decide) ?_
  refine PW.iload_n q_144_0 rfl ?_
  refine PW.if_lt q_144_1 rfl (fun h0 => ?_) (fun h0 => ?_)
  · skip
    have h0 : a1.toInt < 0 := s_ltI h0
    refine PW.iconst q_144_22 ?_
    refine PW.zret q_144_23 rfl (by decide) (by decide) (by decide) ?_
    refine PW.if_eq q_115_5 rfl (fun _ => ?_) (fun q => absurd (by decide) q)
    refine PW.iconst q_115_27 ?_
    refine PW.iret q_115_28 rfl (by decide) (by decide) ?_
    refine PW.aload_n q_285_1378 rfl ?_
    refine PW.aload_n q_285_1379 rfl ?_
    refine PW.iload q_285_1380 rfl ?_
    refine PW.iconst q_285_1382 ?_
    refine PW.iadd q_285_1383 ?_
    refine PW.sldE q_285_1384 (by rw [hL]; unfold vp_in; decide) e1 ?_
    refine PW.aload_n q_285_1385 rfl ?_
    refine PW.iload q_285_1386 rfl ?_
    refine PW.iconst q_285_1388 ?_
    refine PW.iadd q_285_1389 ?_
    refine PW.sldE q_285_1390 (by rw [hL]; unfold vp_in; decide) e2 ?_
    refine PW.callV (as := [_, _]) (rest := [_]) q_285_1391 rfl (by decide) rfl (by decide) rfl rfl (Nat.le_of_ble_eq_true rfl) (Nat.le_of_ble_eq_true rfl) (by decide) (by decide) ?_
    refine PW.aload_n q_251_0 rfl ?_
    refine PW.iconst q_251_1 ?_
    refine PW.putf q_251_2 rfl (by decide) rfl rfl rfl (by decide) ?_
    refine PW.aload_n q_251_5 rfl ?_
    refine PW.sipush q_251_6 ?_
    refine PW.iload_n q_251_9 rfl ?_
    refine PW.iload_n q_251_10 rfl ?_
    refine PW.callV (as := [_, _, _]) (rest := []) q_251_11 rfl (by decide) rfl (by decide) rfl rfl (Nat.le_of_ble_eq_true rfl) (Nat.le_of_ble_eq_true rfl) (by decide) (by decide) ?_
    refine PW.aload_n q_250_0 rfl ?_
    refine PW.iload_n q_250_1 rfl ?_
    refine PW.callV (as := [_]) (rest := []) q_250_2 rfl (by decide) rfl (by decide) rfl rfl (Nat.le_of_ble_eq_true rfl) (Nat.le_of_ble_eq_true rfl) (by decide) (by decide) ?_
    refine PW.iload_n q_197_0 rfl ?_
    refine PW.iconst q_197_1 ?_
    refine PW.aload_n q_197_2 rfl ?_
    refine PW.getf q_197_3 rfl (by decide) rfl rfl ?_
    refine PW.iconst q_197_6 ?_
    refine PW.iald q_197_7 (by decide) rfl (by unfold vp_in; decide) ?_
    refine PW.iconst q_197_8 ?_
    refine PW.isub q_197_9 ?_
    refine PW.callS (as := [_, _, _]) (rest := []) q_197_10 rfl (by decide) rfl (Nat.le_of_ble_eq_true rfl) (Nat.le_of_ble_eq_true rfl) (by decide) (by decide) ?_
    refine PW.iload_n q_167_0 rfl ?_
    refine PW.iload_n q_167_1 rfl ?_
    refine PW.icmp_lt q_167_2 rfl (fun h1 => ?_) (fun h1 => ?_)
    · skip
      have h1 : a1.toInt < 0 := s_ltI h1
      refine PW.iconst q_167_14 ?_
      refine PW.zret q_167_15 rfl (by decide) (by decide) (by decide) ?_
      refine PW.zret q_197_13 rfl (by decide) (by decide) (by decide) ?_
      refine PW.if_eq q_250_5 rfl (fun _ => ?_) (fun q => absurd (by decide) q)
      refine PW.iconst q_250_32 ?_
      refine PW.iret q_250_33 rfl (by decide) (by decide) ?_
      refine PW.iret q_251_14 rfl (by decide) (by decide) ?_
      refine PW.icmp_eq q_285_1394 rfl (fun _ => ?_) (fun q => absurd (by decide) q)
      exact law_tail G hL _
    · skip
      have h1 : a1.toInt ≥ 0 := s_nltI h1
      exact absurd trivial (by omega)
  · skip
    have h0 : a1.toInt ≥ 0 := s_nltI h0
    refine PW.iload_n q_144_4 rfl ?_
    refine PW.aload_n q_144_5 rfl ?_
    refine PW.getf q_144_6 rfl (by decide) rfl rfl ?_
    refine PW.getN q_144_9 rfl (by decide) rfl rfl ?_
    refine PW.getN q_144_12 rfl (by decide) rfl rfl ?_
    refine PW.icmp_ge q_144_15 rfl (fun h2 => ?_) (fun h2 => ?_)
    · skip
      have h2 : a1.toInt ≥ 0 := s_geI h2
      refine PW.iconst q_144_22 ?_
      refine PW.zret q_144_23 rfl (by decide) (by decide) (by decide) ?_
      refine PW.if_eq q_115_5 rfl (fun _ => ?_) (fun q => absurd (by decide) q)
      refine PW.iconst q_115_27 ?_
      refine PW.iret q_115_28 rfl (by decide) (by decide) ?_
      refine PW.aload_n q_285_1378 rfl ?_
      refine PW.aload_n q_285_1379 rfl ?_
      refine PW.iload q_285_1380 rfl ?_
      refine PW.iconst q_285_1382 ?_
      refine PW.iadd q_285_1383 ?_
      refine PW.sldE q_285_1384 (by rw [hL]; unfold vp_in; decide) e1 ?_
      refine PW.aload_n q_285_1385 rfl ?_
      refine PW.iload q_285_1386 rfl ?_
      refine PW.iconst q_285_1388 ?_
      refine PW.iadd q_285_1389 ?_
      refine PW.sldE q_285_1390 (by rw [hL]; unfold vp_in; decide) e2 ?_
      refine PW.callV (as := [_, _]) (rest := [_]) q_285_1391 rfl (by decide) rfl (by decide) rfl rfl (Nat.le_of_ble_eq_true rfl) (Nat.le_of_ble_eq_true rfl) (by decide) (by decide) ?_
      refine PW.aload_n q_251_0 rfl ?_
      refine PW.iconst q_251_1 ?_
      refine PW.putf q_251_2 rfl (by decide) rfl rfl rfl (by decide) ?_
      refine PW.aload_n q_251_5 rfl ?_
      refine PW.sipush q_251_6 ?_
      refine PW.iload_n q_251_9 rfl ?_
      refine PW.iload_n q_251_10 rfl ?_
      refine PW.callV (as := [_, _, _]) (rest := []) q_251_11 rfl (by decide) rfl (by decide) rfl rfl (Nat.le_of_ble_eq_true rfl) (Nat.le_of_ble_eq_true rfl) (by decide) (by decide) ?_
      refine PW.aload_n q_250_0 rfl ?_
      refine PW.iload_n q_250_1 rfl ?_
      refine PW.callV (as := [_]) (rest := []) q_250_2 rfl (by decide) rfl (by decide) rfl rfl (Nat.le_of_ble_eq_true rfl) (Nat.le_of_ble_eq_true rfl) (by decide) (by decide) ?_
      refine PW.iload_n q_197_0 rfl ?_
      refine PW.iconst q_197_1 ?_
      refine PW.aload_n q_197_2 rfl ?_
      refine PW.getf q_197_3 rfl (by decide) rfl rfl ?_
      refine PW.iconst q_197_6 ?_
      refine PW.iald q_197_7 (by decide) rfl (by unfold vp_in; decide) ?_
      refine PW.iconst q_197_8 ?_
      refine PW.isub q_197_9 ?_
      refine PW.callS (as := [_, _, _]) (rest := []) q_197_10 rfl (by decide) rfl (Nat.le_of_ble_eq_true rfl) (Nat.le_of_ble_eq_true rfl) (by decide) (by decide) ?_
      refine PW.iload_n q_167_0 rfl ?_
      refine PW.iload_n q_167_1 rfl ?_
      refine PW.icmp_lt q_167_2 rfl (fun h3 => ?_) (fun h3 => ?_)
      · skip
        have h3 : a1.toInt < 0 := s_ltI h3
        exact absurd trivial (by omega)
      · skip
        have h3 : a1.toInt ≥ 0 := s_nltI h3
        refine PW.iload_n q_167_5 rfl ?_
        refine PW.iload_n q_167_6 rfl ?_
        refine PW.icmp_gt q_167_7 rfl (fun h4 => ?_) (fun h4 => ?_)
        · skip
          have h4 : a1.toInt > (-1) := s_gtI h4
          refine PW.iconst q_167_14 ?_
          refine PW.zret q_167_15 rfl (by decide) (by decide) (by decide) ?_
          refine PW.zret q_197_13 rfl (by decide) (by decide) (by decide) ?_
          refine PW.if_eq q_250_5 rfl (fun _ => ?_) (fun q => absurd (by decide) q)
          refine PW.iconst q_250_32 ?_
          refine PW.iret q_250_33 rfl (by decide) (by decide) ?_
          refine PW.iret q_251_14 rfl (by decide) (by decide) ?_
          refine PW.icmp_eq q_285_1394 rfl (fun _ => ?_) (fun q => absurd (by decide) q)
          exact law_tail G hL _
        · skip
          have h4 : a1.toInt ≤ (-1) := s_ngtI h4
          exact absurd trivial (by omega)
    · skip
      have h2 : a1.toInt < 0 := s_ngeI h2
      exact absurd trivial (by omega)
set_option maxRecDepth 100000 in
set_option maxHeartbeats 40000000 in
theorem law_turnedAt (G : pG) (hL : G.2.2.2.2.1 = 6) (a1 a2 a3 a4 a5 : Int32) (e1 : G.2.2.2.2.2 1 = a1) (e2 : G.2.2.2.2.2 2 = a2) (e3 : G.2.2.2.2.2 3 = a3) (e4 : G.2.2.2.2.2 4 = a4) (e5 : G.2.2.2.2.2 5 = a5) : PW G false 22 285 400 9000 law_K 1399 law_lv [] 311 f_M 311 8628 := by
  refine PW.aload_n q_285_1399 rfl ?_
  refine PW.aload_n q_285_1400 rfl ?_
  refine PW.iload q_285_1401 rfl ?_
  refine PW.iconst q_285_1403 ?_
  refine PW.iadd q_285_1404 ?_
  refine PW.sldE q_285_1405 (by rw [hL]; unfold vp_in; decide) e1 ?_
  refine PW.aload_n q_285_1406 rfl ?_
  refine PW.iload q_285_1407 rfl ?_
  refine PW.iconst q_285_1409 ?_
  refine PW.iadd q_285_1410 ?_
  refine PW.sldE q_285_1411 (by rw [hL]; unfold vp_in; decide) e2 ?_
  refine PW.callV (as := [_, _]) (rest := []) q_285_1412 rfl (by decide) rfl (by decide) rfl rfl (Nat.le_of_ble_eq_true rfl) (Nat.le_of_ble_eq_true rfl) (by decide) (by decide) ?_
  refine PW.aload_n q_116_0 rfl ?_
  refine PW.iload_n q_116_1 rfl ?_
  refine PW.callV (as := [_]) (rest := []) q_116_2 rfl (by decide) rfl (by decide) rfl rfl (Nat.le_of_ble_eq_true rfl) (Nat.le_of_ble_eq_true rfl) (by decide) (by decide) ?_
  refine PW.iload_n q_144_0 rfl ?_
  refine PW.if_lt q_144_1 rfl (fun h0 => ?_) (fun h0 => ?_)
  · skip
    have h0 : a1.toInt < 0 := s_ltI h0
    refine PW.iconst q_144_22 ?_
    refine PW.zret q_144_23 rfl (by decide) (by decide) (by decide) ?_
    refine PW.if_eq q_116_5 rfl (fun _ => ?_) (fun q => absurd (by decide) q)
    refine PW.iconst q_116_27 ?_
    refine PW.iret q_116_28 rfl (by decide) (by decide) ?_
    refine PW.aload_n q_285_1415 rfl ?_
    refine PW.aload_n q_285_1416 rfl ?_
    refine PW.iload q_285_1417 rfl ?_
    refine PW.iconst q_285_1419 ?_
    refine PW.iadd q_285_1420 ?_
    refine PW.sldE q_285_1421 (by rw [hL]; unfold vp_in; decide) e1 ?_
    refine PW.aload_n q_285_1422 rfl ?_
    refine PW.iload q_285_1423 rfl ?_
    refine PW.iconst q_285_1425 ?_
    refine PW.iadd q_285_1426 ?_
    refine PW.sldE q_285_1427 (by rw [hL]; unfold vp_in; decide) e2 ?_
    refine PW.callV (as := [_, _]) (rest := [_]) q_285_1428 rfl (by decide) rfl (by decide) rfl rfl (Nat.le_of_ble_eq_true rfl) (Nat.le_of_ble_eq_true rfl) (by decide) (by decide) ?_
    refine PW.aload_n q_252_0 rfl ?_
    refine PW.iconst q_252_1 ?_
    refine PW.putf q_252_2 rfl (by decide) rfl rfl rfl (by decide) ?_
    refine PW.aload_n q_252_5 rfl ?_
    refine PW.sipush q_252_6 ?_
    refine PW.iload_n q_252_9 rfl ?_
    refine PW.iload_n q_252_10 rfl ?_
    refine PW.callV (as := [_, _, _]) (rest := []) q_252_11 rfl (by decide) rfl (by decide) rfl rfl (Nat.le_of_ble_eq_true rfl) (Nat.le_of_ble_eq_true rfl) (by decide) (by decide) ?_
    refine PW.aload_n q_250_0 rfl ?_
    refine PW.iload_n q_250_1 rfl ?_
    refine PW.callV (as := [_]) (rest := []) q_250_2 rfl (by decide) rfl (by decide) rfl rfl (Nat.le_of_ble_eq_true rfl) (Nat.le_of_ble_eq_true rfl) (by decide) (by decide) ?_
    refine PW.iload_n q_197_0 rfl ?_
    refine PW.iconst q_197_1 ?_
    refine PW.aload_n q_197_2 rfl ?_
    refine PW.getf q_197_3 rfl (by decide) rfl rfl ?_
    refine PW.iconst q_197_6 ?_
    refine PW.iald q_197_7 (by decide) rfl (by unfold vp_in; decide) ?_
    refine PW.iconst q_197_8 ?_
    refine PW.isub q_197_9 ?_
    refine PW.callS (as := [_, _, _]) (rest := []) q_197_10 rfl (by decide) rfl (Nat.le_of_ble_eq_true rfl) (Nat.le_of_ble_eq_true rfl) (by decide) (by decide) ?_
    refine PW.iload_n q_167_0 rfl ?_
    refine PW.iload_n q_167_1 rfl ?_
    refine PW.icmp_lt q_167_2 rfl (fun h1 => ?_) (fun h1 => ?_)
    · skip
      have h1 : a1.toInt < 0 := s_ltI h1
      refine PW.iconst q_167_14 ?_
      refine PW.zret q_167_15 rfl (by decide) (by decide) (by decide) ?_
      refine PW.zret q_197_13 rfl (by decide) (by decide) (by decide) ?_
      refine PW.if_eq q_250_5 rfl (fun _ => ?_) (fun q => absurd (by decide) q)
      refine PW.iconst q_250_32 ?_
      refine PW.iret q_250_33 rfl (by decide) (by decide) ?_
      refine PW.iret q_252_14 rfl (by decide) (by decide) ?_
      refine PW.icmp_eq q_285_1431 rfl (fun _ => ?_) (fun q => absurd (by decide) q)
      exact law_tail G hL _
    · skip
      have h1 : a1.toInt ≥ 0 := s_nltI h1
      exact absurd trivial (by omega)
  · skip
    have h0 : a1.toInt ≥ 0 := s_nltI h0
    refine PW.iload_n q_144_4 rfl ?_
    refine PW.aload_n q_144_5 rfl ?_
    refine PW.getf q_144_6 rfl (by decide) rfl rfl ?_
    refine PW.getN q_144_9 rfl (by decide) rfl rfl ?_
    refine PW.getN q_144_12 rfl (by decide) rfl rfl ?_
    refine PW.icmp_ge q_144_15 rfl (fun h2 => ?_) (fun h2 => ?_)
    · skip
      have h2 : a1.toInt ≥ 0 := s_geI h2
      refine PW.iconst q_144_22 ?_
      refine PW.zret q_144_23 rfl (by decide) (by decide) (by decide) ?_
      refine PW.if_eq q_116_5 rfl (fun _ => ?_) (fun q => absurd (by decide) q)
      refine PW.iconst q_116_27 ?_
      refine PW.iret q_116_28 rfl (by decide) (by decide) ?_
      refine PW.aload_n q_285_1415 rfl ?_
      refine PW.aload_n q_285_1416 rfl ?_
      refine PW.iload q_285_1417 rfl ?_
      refine PW.iconst q_285_1419 ?_
      refine PW.iadd q_285_1420 ?_
      refine PW.sldE q_285_1421 (by rw [hL]; unfold vp_in; decide) e1 ?_
      refine PW.aload_n q_285_1422 rfl ?_
      refine PW.iload q_285_1423 rfl ?_
      refine PW.iconst q_285_1425 ?_
      refine PW.iadd q_285_1426 ?_
      refine PW.sldE q_285_1427 (by rw [hL]; unfold vp_in; decide) e2 ?_
      refine PW.callV (as := [_, _]) (rest := [_]) q_285_1428 rfl (by decide) rfl (by decide) rfl rfl (Nat.le_of_ble_eq_true rfl) (Nat.le_of_ble_eq_true rfl) (by decide) (by decide) ?_
      refine PW.aload_n q_252_0 rfl ?_
      refine PW.iconst q_252_1 ?_
      refine PW.putf q_252_2 rfl (by decide) rfl rfl rfl (by decide) ?_
      refine PW.aload_n q_252_5 rfl ?_
      refine PW.sipush q_252_6 ?_
      refine PW.iload_n q_252_9 rfl ?_
      refine PW.iload_n q_252_10 rfl ?_
      refine PW.callV (as := [_, _, _]) (rest := []) q_252_11 rfl (by decide) rfl (by decide) rfl rfl (Nat.le_of_ble_eq_true rfl) (Nat.le_of_ble_eq_true rfl) (by decide) (by decide) ?_
      refine PW.aload_n q_250_0 rfl ?_
      refine PW.iload_n q_250_1 rfl ?_
      refine PW.callV (as := [_]) (rest := []) q_250_2 rfl (by decide) rfl (by decide) rfl rfl (Nat.le_of_ble_eq_true rfl) (Nat.le_of_ble_eq_true rfl) (by decide) (by decide) ?_
      refine PW.iload_n q_197_0 rfl ?_
      refine PW.iconst q_197_1 ?_
      refine PW.aload_n q_197_2 rfl ?_
      refine PW.getf q_197_3 rfl (by decide) rfl rfl ?_
      refine PW.iconst q_197_6 ?_
      refine PW.iald q_197_7 (by decide) rfl (by unfold vp_in; decide) ?_
      refine PW.iconst q_197_8 ?_
      refine PW.isub q_197_9 ?_
      refine PW.callS (as := [_, _, _]) (rest := []) q_197_10 rfl (by decide) rfl (Nat.le_of_ble_eq_true rfl) (Nat.le_of_ble_eq_true rfl) (by decide) (by decide) ?_
      refine PW.iload_n q_167_0 rfl ?_
      refine PW.iload_n q_167_1 rfl ?_
      refine PW.icmp_lt q_167_2 rfl (fun h3 => ?_) (fun h3 => ?_)
      · skip
        have h3 : a1.toInt < 0 := s_ltI h3
        exact absurd trivial (by omega)
      · skip
        have h3 : a1.toInt ≥ 0 := s_nltI h3
        refine PW.iload_n q_167_5 rfl ?_
        refine PW.iload_n q_167_6 rfl ?_
        refine PW.icmp_gt q_167_7 rfl (fun h4 => ?_) (fun h4 => ?_)
        · skip
          have h4 : a1.toInt > (-1) := s_gtI h4
          refine PW.iconst q_167_14 ?_
          refine PW.zret q_167_15 rfl (by decide) (by decide) (by decide) ?_
          refine PW.zret q_197_13 rfl (by decide) (by decide) (by decide) ?_
          refine PW.if_eq q_250_5 rfl (fun _ => ?_) (fun q => absurd (by decide) q)
          refine PW.iconst q_250_32 ?_
          refine PW.iret q_250_33 rfl (by decide) (by decide) ?_
          refine PW.iret q_252_14 rfl (by decide) (by decide) ?_
          refine PW.icmp_eq q_285_1431 rfl (fun _ => ?_) (fun q => absurd (by decide) q)
          exact law_tail G hL _
        · skip
          have h4 : a1.toInt ≤ (-1) := s_ngtI h4
          exact absurd trivial (by omega)
    · skip
      have h2 : a1.toInt < 0 := s_ngeI h2
      exact absurd trivial (by omega)
