set_option maxRecDepth 100000 in
set_option maxHeartbeats 40000000 in
theorem law_drawn (G : pG) (hL : G.2.2.2.2.1 = 6) (a1 a2 a3 a4 a5 : Int32) (e1 : G.2.2.2.2.2 1 = a1) (e2 : G.2.2.2.2.2 2 = a2) (e3 : G.2.2.2.2.2 3 = a3) (e4 : G.2.2.2.2.2 4 = a4) (e5 : G.2.2.2.2.2 5 = a5) : PW G false 22 285 400 9000 law_K 1436 law_lv [] 311 f_M 311 8628 := by
  refine PW.aload_n q_285_1436 rfl ?_
  refine PW.aload_n q_285_1437 rfl ?_
  refine PW.iload q_285_1438 rfl ?_
  refine PW.iconst q_285_1440 ?_
  refine PW.iadd q_285_1441 ?_
  refine PW.sldE q_285_1442 (by rw [hL]; unfold vp_in; decide) e1 ?_
  refine PW.aload_n q_285_1443 rfl ?_
  refine PW.iload q_285_1444 rfl ?_
  refine PW.iconst q_285_1446 ?_
  refine PW.iadd q_285_1447 ?_
  refine PW.sldE q_285_1448 (by rw [hL]; unfold vp_in; decide) e2 ?_
  refine PW.callV (as := [_, _]) (rest := []) q_285_1449 rfl (by decide) rfl (by decide) rfl rfl (Nat.le_of_ble_eq_true rfl) (Nat.le_of_ble_eq_true rfl) (by decide) (by decide) ?_
  refine PW.iload_n q_123_0 rfl ?_
  refine PW.iconst q_123_1 ?_
  refine PW.icmp_lt q_123_2 rfl (fun h0 => ?_) (fun h0 => ?_)
  · skip
    have h0 : a1.toInt < 1 := s_ltI h0
    refine PW.iconst q_123_24 ?_
    refine PW.iret q_123_25 rfl (by decide) (by decide) ?_
    refine PW.aload_n q_285_1452 rfl ?_
    refine PW.aload_n q_285_1453 rfl ?_
    refine PW.iload q_285_1454 rfl ?_
    refine PW.iconst q_285_1456 ?_
    refine PW.iadd q_285_1457 ?_
    refine PW.sldE q_285_1458 (by rw [hL]; unfold vp_in; decide) e1 ?_
    refine PW.aload_n q_285_1459 rfl ?_
    refine PW.iload q_285_1460 rfl ?_
    refine PW.iconst q_285_1462 ?_
    refine PW.iadd q_285_1463 ?_
    refine PW.sldE q_285_1464 (by rw [hL]; unfold vp_in; decide) e2 ?_
    refine PW.callV (as := [_, _]) (rest := [_]) q_285_1465 rfl (by decide) rfl (by decide) rfl rfl (Nat.le_of_ble_eq_true rfl) (Nat.le_of_ble_eq_true rfl) (by decide) (by decide) ?_
    refine PW.aload_n q_256_0 rfl ?_
    refine PW.iconst q_256_1 ?_
    refine PW.putf q_256_2 rfl (by decide) rfl rfl rfl (by decide) ?_
    refine PW.iload_n q_256_5 rfl ?_
    refine PW.iconst q_256_6 ?_
    refine PW.bipush q_256_7 ?_
    refine PW.callS (as := [_, _, _]) (rest := []) q_256_9 rfl (by decide) rfl (Nat.le_of_ble_eq_true rfl) (Nat.le_of_ble_eq_true rfl) (by decide) (by decide) ?_
    refine PW.iload_n q_167_0 rfl ?_
    refine PW.iload_n q_167_1 rfl ?_
    refine PW.icmp_lt q_167_2 rfl (fun h1 => ?_) (fun h1 => ?_)
    · skip
      have h1 : a1.toInt < 1 := s_ltI h1
      refine PW.iconst q_167_14 ?_
      refine PW.zret q_167_15 rfl (by decide) (by decide) (by decide) ?_
      refine PW.if_eq q_256_12 rfl (fun _ => ?_) (fun q => absurd (by decide) q)
      refine PW.iconst q_256_24 ?_
      refine PW.iret q_256_25 rfl (by decide) (by decide) ?_
      refine PW.icmp_eq q_285_1468 rfl (fun _ => ?_) (fun q => absurd (by decide) q)
      exact law_tail G hL _
    · skip
      have h1 : a1.toInt ≥ 1 := s_nltI h1
      exact absurd trivial (by omega)
  · skip
    have h0 : a1.toInt ≥ 1 := s_nltI h0
    refine PW.iload_n q_123_5 rfl ?_
    refine PW.bipush q_123_6 ?_
    refine PW.icmp_gt q_123_8 rfl (fun h2 => ?_) (fun h2 => ?_)
    · skip
      have h2 : a1.toInt > 60 := s_gtI h2
      refine PW.iconst q_123_24 ?_
      refine PW.iret q_123_25 rfl (by decide) (by decide) ?_
      refine PW.aload_n q_285_1452 rfl ?_
      refine PW.aload_n q_285_1453 rfl ?_
      refine PW.iload q_285_1454 rfl ?_
      refine PW.iconst q_285_1456 ?_
      refine PW.iadd q_285_1457 ?_
      refine PW.sldE q_285_1458 (by rw [hL]; unfold vp_in; decide) e1 ?_
      refine PW.aload_n q_285_1459 rfl ?_
      refine PW.iload q_285_1460 rfl ?_
      refine PW.iconst q_285_1462 ?_
      refine PW.iadd q_285_1463 ?_
      refine PW.sldE q_285_1464 (by rw [hL]; unfold vp_in; decide) e2 ?_
      refine PW.callV (as := [_, _]) (rest := [_]) q_285_1465 rfl (by decide) rfl (by decide) rfl rfl (Nat.le_of_ble_eq_true rfl) (Nat.le_of_ble_eq_true rfl) (by decide) (by decide) ?_
      refine PW.aload_n q_256_0 rfl ?_
      refine PW.iconst q_256_1 ?_
      refine PW.putf q_256_2 rfl (by decide) rfl rfl rfl (by decide) ?_
      refine PW.iload_n q_256_5 rfl ?_
      refine PW.iconst q_256_6 ?_
      refine PW.bipush q_256_7 ?_
      refine PW.callS (as := [_, _, _]) (rest := []) q_256_9 rfl (by decide) rfl (Nat.le_of_ble_eq_true rfl) (Nat.le_of_ble_eq_true rfl) (by decide) (by decide) ?_
      refine PW.iload_n q_167_0 rfl ?_
      refine PW.iload_n q_167_1 rfl ?_
      refine PW.icmp_lt q_167_2 rfl (fun h3 => ?_) (fun h3 => ?_)
      · skip
        have h3 : a1.toInt < 1 := s_ltI h3
        exact absurd trivial (by omega)
      · skip
        have h3 : a1.toInt ≥ 1 := s_nltI h3
        refine PW.iload_n q_167_5 rfl ?_
        refine PW.iload_n q_167_6 rfl ?_
        refine PW.icmp_gt q_167_7 rfl (fun h4 => ?_) (fun h4 => ?_)
        · skip
          have h4 : a1.toInt > 60 := s_gtI h4
          refine PW.iconst q_167_14 ?_
          refine PW.zret q_167_15 rfl (by decide) (by decide) (by decide) ?_
          refine PW.if_eq q_256_12 rfl (fun _ => ?_) (fun q => absurd (by decide) q)
          refine PW.iconst q_256_24 ?_
          refine PW.iret q_256_25 rfl (by decide) (by decide) ?_
          refine PW.icmp_eq q_285_1468 rfl (fun _ => ?_) (fun q => absurd (by decide) q)
          exact law_tail G hL _
        · skip
          have h4 : a1.toInt ≤ 60 := s_ngtI h4
          exact absurd trivial (by omega)
    · skip
      have h2 : a1.toInt ≤ 60 := s_ngtI h2
      refine PW.aload_n q_123_11 rfl ?_
      refine PW.getf q_123_12 rfl (by decide) rfl rfl ?_
      refine PW.getN q_123_15 rfl (by decide) rfl rfl ?_
      refine PW.getN q_123_18 rfl (by decide) rfl rfl ?_
      refine PW.if_ne q_123_21 rfl (fun q => absurd (by decide) q) (fun _ => ?_)
      refine PW.iconst q_123_24 ?_
      refine PW.iret q_123_25 rfl (by decide) (by decide) ?_
      refine PW.aload_n q_285_1452 rfl ?_
      refine PW.aload_n q_285_1453 rfl ?_
      refine PW.iload q_285_1454 rfl ?_
      refine PW.iconst q_285_1456 ?_
      refine PW.iadd q_285_1457 ?_
      refine PW.sldE q_285_1458 (by rw [hL]; unfold vp_in; decide) e1 ?_
      refine PW.aload_n q_285_1459 rfl ?_
      refine PW.iload q_285_1460 rfl ?_
      refine PW.iconst q_285_1462 ?_
      refine PW.iadd q_285_1463 ?_
      refine PW.sldE q_285_1464 (by rw [hL]; unfold vp_in; decide) e2 ?_
      refine PW.callV (as := [_, _]) (rest := [_]) q_285_1465 rfl (by decide) rfl (by decide) rfl rfl (Nat.le_of_ble_eq_true rfl) (Nat.le_of_ble_eq_true rfl) (by decide) (by decide) ?_
      refine PW.aload_n q_256_0 rfl ?_
      refine PW.iconst q_256_1 ?_
      refine PW.putf q_256_2 rfl (by decide) rfl rfl rfl (by decide) ?_
      refine PW.iload_n q_256_5 rfl ?_
      refine PW.iconst q_256_6 ?_
      refine PW.bipush q_256_7 ?_
      refine PW.callS (as := [_, _, _]) (rest := []) q_256_9 rfl (by decide) rfl (Nat.le_of_ble_eq_true rfl) (Nat.le_of_ble_eq_true rfl) (by decide) (by decide) ?_
      refine PW.iload_n q_167_0 rfl ?_
      refine PW.iload_n q_167_1 rfl ?_
      refine PW.icmp_lt q_167_2 rfl (fun h5 => ?_) (fun h5 => ?_)
      · skip
        have h5 : a1.toInt < 1 := s_ltI h5
        exact absurd trivial (by omega)
      · skip
        have h5 : a1.toInt ≥ 1 := s_nltI h5
        refine PW.iload_n q_167_5 rfl ?_
        refine PW.iload_n q_167_6 rfl ?_
        refine PW.icmp_gt q_167_7 rfl (fun h6 => ?_) (fun h6 => ?_)
        · skip
          have h6 : a1.toInt > 60 := s_gtI h6
          exact absurd trivial (by omega)
        · skip
          have h6 : a1.toInt ≤ 60 := s_ngtI h6
          refine PW.iconst q_167_10 ?_
          refine PW.goto q_167_11 rfl ?_
          refine PW.zret q_167_15 rfl (by decide) (by decide) (by decide) ?_
          refine PW.if_eq q_256_12 rfl (fun q => absurd q (by decide)) (fun _ => ?_)
          refine PW.aload_n q_256_15 rfl ?_
          refine PW.getf q_256_16 rfl (by decide) rfl rfl ?_
          refine PW.iconst q_256_19 ?_
          refine PW.iald q_256_20 (by decide) rfl (by unfold vp_in; decide) ?_
          refine PW.if_ne q_256_21 rfl (fun q => absurd (by decide) q) (fun _ => ?_)
          refine PW.iconst q_256_24 ?_
          refine PW.iret q_256_25 rfl (by decide) (by decide) ?_
          refine PW.icmp_eq q_285_1468 rfl (fun _ => ?_) (fun q => absurd (by decide) q)
          exact law_tail G hL _
set_option maxRecDepth 100000 in
set_option maxHeartbeats 40000000 in
theorem law_odds (G : pG) (hL : G.2.2.2.2.1 = 6) (a1 a2 a3 a4 a5 : Int32) (e1 : G.2.2.2.2.2 1 = a1) (e2 : G.2.2.2.2.2 2 = a2) (e3 : G.2.2.2.2.2 3 = a3) (e4 : G.2.2.2.2.2 4 = a4) (e5 : G.2.2.2.2.2 5 = a5) : PW G false 22 285 400 9000 law_K 1473 law_lv [] 311 f_M 311 8628 := by
  refine PW.aload_n q_285_1473 rfl ?_
  refine PW.aload_n q_285_1474 rfl ?_
  refine PW.iload q_285_1475 rfl ?_
  refine PW.iconst q_285_1477 ?_
  refine PW.iadd q_285_1478 ?_
  refine PW.sldE q_285_1479 (by rw [hL]; unfold vp_in; decide) e1 ?_
  refine PW.aload_n q_285_1480 rfl ?_
  refine PW.iload q_285_1481 rfl ?_
  refine PW.iconst q_285_1483 ?_
  refine PW.iadd q_285_1484 ?_
  refine PW.sldE q_285_1485 (by rw [hL]; unfold vp_in; decide) e2 ?_
  refine PW.aload_n q_285_1486 rfl ?_
  refine PW.iload q_285_1487 rfl ?_
  refine PW.iconst q_285_1489 ?_
  refine PW.iadd q_285_1490 ?_
  refine PW.sldE q_285_1491 (by rw [hL]; unfold vp_in; decide) e3 ?_
  refine PW.callV (as := [_, _, _]) (rest := []) q_285_1492 rfl (by decide) rfl (by decide) rfl rfl (Nat.le_of_ble_eq_true rfl) (Nat.le_of_ble_eq_true rfl) (by decide) (by decide) ?_
  refine PW.aload_n q_134_0 rfl ?_
  refine PW.iload_n q_134_1 rfl ?_
  refine PW.callV (as := [_]) (rest := []) q_134_2 rfl (by decide) rfl (by decide) rfl rfl (Nat.le_of_ble_eq_true rfl) (Nat.le_of_ble_eq_true rfl) (by decide) (by decide) ?_
  refine PW.iload_n q_143_0 rfl ?_
  refine PW.if_lt q_143_1 rfl (fun h0 => ?_) (fun h0 => ?_)
  · skip
    have h0 : a1.toInt < 0 := s_ltI h0
    refine PW.iconst q_143_22 ?_
    refine PW.zret q_143_23 rfl (by decide) (by decide) (by decide) ?_
    refine PW.if_eq q_134_5 rfl (fun _ => ?_) (fun q => absurd (by decide) q)
    refine PW.iconst q_134_19 ?_
    refine PW.iret q_134_20 rfl (by decide) (by decide) ?_
    refine PW.aload_n q_285_1495 rfl ?_
    refine PW.aload_n q_285_1496 rfl ?_
    refine PW.iload q_285_1497 rfl ?_
    refine PW.iconst q_285_1499 ?_
    refine PW.iadd q_285_1500 ?_
    refine PW.sldE q_285_1501 (by rw [hL]; unfold vp_in; decide) e1 ?_
    refine PW.aload_n q_285_1502 rfl ?_
    refine PW.iload q_285_1503 rfl ?_
    refine PW.iconst q_285_1505 ?_
    refine PW.iadd q_285_1506 ?_
    refine PW.sldE q_285_1507 (by rw [hL]; unfold vp_in; decide) e2 ?_
    refine PW.aload_n q_285_1508 rfl ?_
    refine PW.iload q_285_1509 rfl ?_
    refine PW.iconst q_285_1511 ?_
    refine PW.iadd q_285_1512 ?_
    refine PW.sldE q_285_1513 (by rw [hL]; unfold vp_in; decide) e3 ?_
    refine PW.callV (as := [_, _, _]) (rest := [_]) q_285_1514 rfl (by decide) rfl (by decide) rfl rfl (Nat.le_of_ble_eq_true rfl) (Nat.le_of_ble_eq_true rfl) (by decide) (by decide) ?_
    refine PW.aload_n q_257_0 rfl ?_
    refine PW.iconst q_257_1 ?_
    refine PW.putf q_257_2 rfl (by decide) rfl rfl rfl (by decide) ?_
    refine PW.aload_n q_257_5 rfl ?_
    refine PW.iload_n q_257_6 rfl ?_
    refine PW.callV (as := [_]) (rest := []) q_257_7 rfl (by decide) rfl (by decide) rfl rfl (Nat.le_of_ble_eq_true rfl) (Nat.le_of_ble_eq_true rfl) (by decide) (by decide) ?_
    refine PW.iload_n q_196_0 rfl ?_
    refine PW.iconst q_196_1 ?_
    refine PW.aload_n q_196_2 rfl ?_
    refine PW.getf q_196_3 rfl (by decide) rfl rfl ?_
    refine PW.iconst q_196_6 ?_
    refine PW.iald q_196_7 (by decide) rfl (by unfold vp_in; decide) ?_
    refine PW.iconst q_196_8 ?_
    refine PW.isub q_196_9 ?_
    refine PW.callS (as := [_, _, _]) (rest := []) q_196_10 rfl (by decide) rfl (Nat.le_of_ble_eq_true rfl) (Nat.le_of_ble_eq_true rfl) (by decide) (by decide) ?_
    refine PW.iload_n q_167_0 rfl ?_
    refine PW.iload_n q_167_1 rfl ?_
    refine PW.icmp_lt q_167_2 rfl (fun h1 => ?_) (fun h1 => ?_)
    · skip
      have h1 : a1.toInt < 0 := s_ltI h1
      refine PW.iconst q_167_14 ?_
      refine PW.zret q_167_15 rfl (by decide) (by decide) (by decide) ?_
      refine PW.zret q_196_13 rfl (by decide) (by decide) (by decide) ?_
      refine PW.if_eq q_257_10 rfl (fun _ => ?_) (fun q => absurd (by decide) q)
      refine PW.iconst q_257_23 ?_
      refine PW.iret q_257_24 rfl (by decide) (by decide) ?_
      refine PW.icmp_eq q_285_1517 rfl (fun _ => ?_) (fun q => absurd (by decide) q)
      exact law_tail G hL _
    · skip
      have h1 : a1.toInt ≥ 0 := s_nltI h1
      exact absurd trivial (by omega)
  · skip
    have h0 : a1.toInt ≥ 0 := s_nltI h0
    refine PW.iload_n q_143_4 rfl ?_
    refine PW.aload_n q_143_5 rfl ?_
    refine PW.getf q_143_6 rfl (by decide) rfl rfl ?_
    refine PW.getN q_143_9 rfl (by decide) rfl rfl ?_
    refine PW.getN q_143_12 rfl (by decide) rfl rfl ?_
    refine PW.icmp_ge q_143_15 rfl (fun h2 => ?_) (fun h2 => ?_)
    · skip
      have h2 : a1.toInt ≥ 0 := s_geI h2
      refine PW.iconst q_143_22 ?_
      refine PW.zret q_143_23 rfl (by decide) (by decide) (by decide) ?_
      refine PW.if_eq q_134_5 rfl (fun _ => ?_) (fun q => absurd (by decide) q)
      refine PW.iconst q_134_19 ?_
      refine PW.iret q_134_20 rfl (by decide) (by decide) ?_
      refine PW.aload_n q_285_1495 rfl ?_
      refine PW.aload_n q_285_1496 rfl ?_
      refine PW.iload q_285_1497 rfl ?_
      refine PW.iconst q_285_1499 ?_
      refine PW.iadd q_285_1500 ?_
      refine PW.sldE q_285_1501 (by rw [hL]; unfold vp_in; decide) e1 ?_
      refine PW.aload_n q_285_1502 rfl ?_
      refine PW.iload q_285_1503 rfl ?_
      refine PW.iconst q_285_1505 ?_
      refine PW.iadd q_285_1506 ?_
      refine PW.sldE q_285_1507 (by rw [hL]; unfold vp_in; decide) e2 ?_
      refine PW.aload_n q_285_1508 rfl ?_
      refine PW.iload q_285_1509 rfl ?_
      refine PW.iconst q_285_1511 ?_
      refine PW.iadd q_285_1512 ?_
      refine PW.sldE q_285_1513 (by rw [hL]; unfold vp_in; decide) e3 ?_
      refine PW.callV (as := [_, _, _]) (rest := [_]) q_285_1514 rfl (by decide) rfl (by decide) rfl rfl (Nat.le_of_ble_eq_true rfl) (Nat.le_of_ble_eq_true rfl) (by decide) (by decide) ?_
      refine PW.aload_n q_257_0 rfl ?_
      refine PW.iconst q_257_1 ?_
      refine PW.putf q_257_2 rfl (by decide) rfl rfl rfl (by decide) ?_
      refine PW.aload_n q_257_5 rfl ?_
      refine PW.iload_n q_257_6 rfl ?_
      refine PW.callV (as := [_]) (rest := []) q_257_7 rfl (by decide) rfl (by decide) rfl rfl (Nat.le_of_ble_eq_true rfl) (Nat.le_of_ble_eq_true rfl) (by decide) (by decide) ?_
      refine PW.iload_n q_196_0 rfl ?_
      refine PW.iconst q_196_1 ?_
      refine PW.aload_n q_196_2 rfl ?_
      refine PW.getf q_196_3 rfl (by decide) rfl rfl ?_
      refine PW.iconst q_196_6 ?_
      refine PW.iald q_196_7 (by decide) rfl (by unfold vp_in; decide) ?_
      refine PW.iconst q_196_8 ?_
      refine PW.isub q_196_9 ?_
      refine PW.callS (as := [_, _, _]) (rest := []) q_196_10 rfl (by decide) rfl (Nat.le_of_ble_eq_true rfl) (Nat.le_of_ble_eq_true rfl) (by decide) (by decide) ?_
      refine PW.iload_n q_167_0 rfl ?_
      refine PW.iload_n q_167_1 rfl ?_
      refine PW.icmp_lt q_167_2 rfl (fun h3 => ?_) (fun h3 => ?_)
      · skip
        have h3 : a1.toInt < 0 := s_ltI h3
        exact absurd trivial (by omega)
      · skip
        have h3 : a1.toInt ≥ 0 := s_nltI h3
        refine PW.iload_n q_167_5 rfl ?_
        refine PW.iload_n q_167_6 rfl ?_
        refine PW.icmp_gt q_167_7 rfl (fun h4 => ?_) (fun h4 => ?_)
        · skip
          have h4 : a1.toInt > (-1) := s_gtI h4
          refine PW.iconst q_167_14 ?_
          refine PW.zret q_167_15 rfl (by decide) (by decide) (by decide) ?_
          refine PW.zret q_196_13 rfl (by decide) (by decide) (by decide) ?_
          refine PW.if_eq q_257_10 rfl (fun _ => ?_) (fun q => absurd (by decide) q)
          refine PW.iconst q_257_23 ?_
          refine PW.iret q_257_24 rfl (by decide) (by decide) ?_
          refine PW.icmp_eq q_285_1517 rfl (fun _ => ?_) (fun q => absurd (by decide) q)
          exact law_tail G hL _
        · skip
          have h4 : a1.toInt ≤ (-1) := s_ngtI h4
          exact absurd trivial (by omega)
    · skip
      have h2 : a1.toInt < 0 := s_ngeI h2
      exact absurd trivial (by omega)
set_option maxRecDepth 100000 in
set_option maxHeartbeats 40000000 in
theorem law_logged (G : pG) (hL : G.2.2.2.2.1 = 6) (a1 a2 a3 a4 a5 : Int32) (e1 : G.2.2.2.2.2 1 = a1) (e2 : G.2.2.2.2.2 2 = a2) (e3 : G.2.2.2.2.2 3 = a3) (e4 : G.2.2.2.2.2 4 = a4) (e5 : G.2.2.2.2.2 5 = a5) : PW G false 22 285 400 9000 law_K 1547 law_lv [] 311 f_M 311 8628 := by
  refine PW.aload_n q_285_1547 rfl ?_
  refine PW.aload_n q_285_1548 rfl ?_
  refine PW.iload q_285_1549 rfl ?_
  refine PW.iconst q_285_1551 ?_
  refine PW.iadd q_285_1552 ?_
  refine PW.sldE q_285_1553 (by rw [hL]; unfold vp_in; decide) e1 ?_
  refine PW.callV (as := [_]) (rest := []) q_285_1554 rfl (by decide) rfl (by decide) rfl rfl (Nat.le_of_ble_eq_true rfl) (Nat.le_of_ble_eq_true rfl) (by decide) (by decide) ?_
  refine PW.aload_n q_107_0 rfl ?_
  refine PW.getf q_107_1 rfl (by decide) rfl rfl ?_
  refine PW.getN q_107_4 rfl (by decide) rfl rfl ?_
  refine PW.if_ne q_107_7 rfl (fun q => absurd (by decide) q) (fun _ => ?_)
  refine PW.iconst q_107_10 ?_
  refine PW.iret q_107_11 rfl (by decide) (by decide) ?_
  refine PW.aload_n q_285_1557 rfl ?_
  refine PW.aload_n q_285_1558 rfl ?_
  refine PW.iload q_285_1559 rfl ?_
  refine PW.iconst q_285_1561 ?_
  refine PW.iadd q_285_1562 ?_
  refine PW.sldE q_285_1563 (by rw [hL]; unfold vp_in; decide) e1 ?_
  refine PW.callV (as := [_]) (rest := [_]) q_285_1564 rfl (by decide) rfl (by decide) rfl rfl (Nat.le_of_ble_eq_true rfl) (Nat.le_of_ble_eq_true rfl) (by decide) (by decide) ?_
  refine PW.aload_n q_261_0 rfl ?_
  refine PW.iconst q_261_1 ?_
  refine PW.putf q_261_2 rfl (by decide) rfl rfl rfl (by decide) ?_
  refine PW.aload_n q_261_5 rfl ?_
  refine PW.getf q_261_6 rfl (by decide) rfl rfl ?_
  refine PW.if_eq q_261_9 rfl (fun _ => ?_) (fun q => absurd (by decide) q)
  refine PW.iconst q_261_30 ?_
  refine PW.iret q_261_31 rfl (by decide) (by decide) ?_
  refine PW.icmp_eq q_285_1567 rfl (fun _ => ?_) (fun q => absurd (by decide) q)
  exact law_tail G hL _
set_option maxRecDepth 100000 in
set_option maxHeartbeats 40000000 in
theorem law_told (G : pG) (hL : G.2.2.2.2.1 = 6) (a1 a2 a3 a4 a5 : Int32) (e1 : G.2.2.2.2.2 1 = a1) (e2 : G.2.2.2.2.2 2 = a2) (e3 : G.2.2.2.2.2 3 = a3) (e4 : G.2.2.2.2.2 4 = a4) (e5 : G.2.2.2.2.2 5 = a5) : PW G false 22 285 400 9000 law_K 1585 law_lv [] 311 f_M 311 8628 := by
  refine PW.aload_n q_285_1585 rfl ?_
  refine PW.aload_n q_285_1586 rfl ?_
  refine PW.iload q_285_1587 rfl ?_
  refine PW.iconst q_285_1589 ?_
  refine PW.iadd q_285_1590 ?_
  refine PW.sldE q_285_1591 (by rw [hL]; unfold vp_in; decide) e1 ?_
  refine PW.callV (as := [_]) (rest := []) q_285_1592 rfl (by decide) rfl (by decide) rfl rfl (Nat.le_of_ble_eq_true rfl) (Nat.le_of_ble_eq_true rfl) (by decide) (by decide) ?_
  refine PW.aload_n q_105_0 rfl ?_
  refine PW.getf q_105_1 rfl (by decide) rfl rfl ?_
  refine PW.getN q_105_4 rfl (by decide) rfl rfl ?_
  refine PW.getN q_105_7 rfl (by decide) rfl rfl ?_
  refine PW.if_ne q_105_10 rfl (fun q => absurd (by decide) q) (fun _ => ?_)
  refine PW.iconst q_105_13 ?_
  refine PW.iret q_105_14 rfl (by decide) (by decide) ?_
  refine PW.aload_n q_285_1595 rfl ?_
  refine PW.aload_n q_285_1596 rfl ?_
  refine PW.iload q_285_1597 rfl ?_
  refine PW.iconst q_285_1599 ?_
  refine PW.iadd q_285_1600 ?_
  refine PW.sldE q_285_1601 (by rw [hL]; unfold vp_in; decide) e1 ?_
  refine PW.callV (as := [_]) (rest := [_]) q_285_1602 rfl (by decide) rfl (by decide) rfl rfl (Nat.le_of_ble_eq_true rfl) (Nat.le_of_ble_eq_true rfl) (by decide) (by decide) ?_
  refine PW.aload_n q_272_0 rfl ?_
  refine PW.iconst q_272_1 ?_
  refine PW.putf q_272_2 rfl (by decide) rfl rfl rfl (by decide) ?_
  refine PW.aload_n q_272_5 rfl ?_
  refine PW.getf q_272_6 rfl (by decide) rfl rfl ?_
  refine PW.sipush q_272_9 ?_
  refine PW.iald q_272_12 (by decide) rfl (by unfold vp_in; decide) ?_
  refine PW.if_eq q_272_13 rfl (fun _ => ?_) (fun q => absurd (by decide) q)
  refine PW.iconst q_272_21 ?_
  refine PW.iret q_272_22 rfl (by decide) (by decide) ?_
  refine PW.icmp_eq q_285_1605 rfl (fun _ => ?_) (fun q => absurd (by decide) q)
  exact law_tail G hL _
set_option maxRecDepth 100000 in
set_option maxHeartbeats 40000000 in
theorem law_restore (G : pG) (hL : G.2.2.2.2.1 = 6) (a1 a2 a3 a4 a5 : Int32) (e1 : G.2.2.2.2.2 1 = a1) (e2 : G.2.2.2.2.2 2 = a2) (e3 : G.2.2.2.2.2 3 = a3) (e4 : G.2.2.2.2.2 4 = a4) (e5 : G.2.2.2.2.2 5 = a5) : PW G false 22 285 400 9000 law_K 1635 law_lv [] 311 f_M 311 8628 := by
  by_cases c0 : a1 = 0
  · subst c0
    refine PW.aload_n q_285_1635 rfl ?_
    refine PW.aload_n q_285_1636 rfl ?_
    refine PW.iload q_285_1637 rfl ?_
    refine PW.iconst q_285_1639 ?_
    refine PW.iadd q_285_1640 ?_
    refine PW.sldE q_285_1641 (by rw [hL]; unfold vp_in; decide) e1 ?_
    refine PW.callV (as := [_]) (rest := []) q_285_1642 rfl (by decide) rfl (by decide) rfl rfl (Nat.le_of_ble_eq_true rfl) (Nat.le_of_ble_eq_true rfl) (by decide) (by decide) ?_
    refine PW.iload_n q_126_0 rfl ?_
    refine PW.if_lt q_126_1 rfl (fun q => absurd q (by decide)) (fun _ => ?_)
    refine PW.iload_n q_126_4 rfl ?_
    refine PW.iconst q_126_5 ?_
    refine PW.icmp_ge q_126_6 rfl (fun q => absurd q (by decide)) (fun _ => ?_)
    refine PW.aload_n q_126_9 rfl ?_
    refine PW.getf q_126_10 rfl (by decide) rfl rfl ?_
    refine PW.iload_n q_126_13 rfl ?_
    refine PW.zald q_126_14 (by decide) rfl (by unfold vp_in; decide) ?_
    refine PW.if_ne q_126_15 rfl (fun q => absurd (by decide) q) (fun _ => ?_)
    refine PW.iconst q_126_18 ?_
    refine PW.zret q_126_19 rfl (by decide) (by decide) (by decide) ?_
    refine PW.aload_n q_285_1645 rfl ?_
    refine PW.aload_n q_285_1646 rfl ?_
    refine PW.iload q_285_1647 rfl ?_
    refine PW.iconst q_285_1649 ?_
    refine PW.iadd q_285_1650 ?_
    refine PW.sldE q_285_1651 (by rw [hL]; unfold vp_in; decide) e1 ?_
    refine PW.callV (as := [_]) (rest := [_]) q_285_1652 rfl (by decide) rfl (by decide) rfl rfl (Nat.le_of_ble_eq_true rfl) (Nat.le_of_ble_eq_true rfl) (by decide) (by decide) ?_
    refine PW.aload_n q_274_0 rfl ?_
    refine PW.iconst q_274_1 ?_
    refine PW.putf q_274_2 rfl (by decide) rfl rfl rfl (by decide) ?_
    refine PW.iload_n q_274_5 rfl ?_
    refine PW.iconst q_274_6 ?_
    refine PW.iconst q_274_7 ?_
    refine PW.callS (as := [_, _, _]) (rest := []) q_274_8 rfl (by decide) rfl (Nat.le_of_ble_eq_true rfl) (Nat.le_of_ble_eq_true rfl) (by decide) (by decide) ?_
    refine PW.iload_n q_167_0 rfl ?_
    refine PW.iload_n q_167_1 rfl ?_
    refine PW.icmp_lt q_167_2 rfl (fun q => absurd q (by decide)) (fun _ => ?_)
    refine PW.iload_n q_167_5 rfl ?_
    refine PW.iload_n q_167_6 rfl ?_
    refine PW.icmp_gt q_167_7 rfl (fun q => absurd q (by decide)) (fun _ => ?_)
    refine PW.iconst q_167_10 ?_
    refine PW.goto q_167_11 rfl ?_
    refine PW.zret q_167_15 rfl (by decide) (by decide) (by decide) ?_
    refine PW.if_eq q_274_11 rfl (fun q => absurd q (by decide)) (fun _ => ?_)
    refine PW.aload_n q_274_14 rfl ?_
    refine PW.getf q_274_15 rfl (by decide) rfl rfl ?_
    refine PW.iload_n q_274_18 rfl ?_
    refine PW.zald q_274_19 (by decide) rfl (by unfold vp_in; decide) ?_
    refine PW.if_ne q_274_20 rfl (fun q => absurd (by decide) q) (fun _ => ?_)
    refine PW.iconst q_274_23 ?_
    refine PW.zret q_274_24 rfl (by decide) (by decide) (by decide) ?_
    refine PW.icmp_eq q_285_1655 rfl (fun _ => ?_) (fun q => absurd (by decide) q)
    exact law_tail G hL _
  have c0 : ¬ a1.toInt = 0 := s_neI c0
  by_cases c1 : a1 = 1
  · subst c1
    refine PW.aload_n q_285_1635 rfl ?_
    refine PW.aload_n q_285_1636 rfl ?_
    refine PW.iload q_285_1637 rfl ?_
    refine PW.iconst q_285_1639 ?_
    refine PW.iadd q_285_1640 ?_
    refine PW.sldE q_285_1641 (by rw [hL]; unfold vp_in; decide) e1 ?_
    refine PW.callV (as := [_]) (rest := []) q_285_1642 rfl (by decide) rfl (by decide) rfl rfl (Nat.le_of_ble_eq_true rfl) (Nat.le_of_ble_eq_true rfl) (by decide) (by decide) ?_
    refine PW.iload_n q_126_0 rfl ?_
    refine PW.if_lt q_126_1 rfl (fun q => absurd q (by decide)) (fun _ => ?_)
    refine PW.iload_n q_126_4 rfl ?_
    refine PW.iconst q_126_5 ?_
    refine PW.icmp_ge q_126_6 rfl (fun q => absurd q (by decide)) (fun _ => ?_)
    refine PW.aload_n q_126_9 rfl ?_
    refine PW.getf q_126_10 rfl (by decide) rfl rfl ?_
    refine PW.iload_n q_126_13 rfl ?_
    refine PW.zald q_126_14 (by decide) rfl (by unfold vp_in; decide) ?_
    refine PW.if_ne q_126_15 rfl (fun q => absurd (by decide) q) (fun _ => ?_)
    refine PW.iconst q_126_18 ?_
    refine PW.zret q_126_19 rfl (by decide) (by decide) (by decide) ?_
    refine PW.aload_n q_285_1645 rfl ?_
    refine PW.aload_n q_285_1646 rfl ?_
    refine PW.iload q_285_1647 rfl ?_
    refine PW.iconst q_285_1649 ?_
    refine PW.iadd q_285_1650 ?_
    refine PW.sldE q_285_1651 (by rw [hL]; unfold vp_in; decide) e1 ?_
    refine PW.callV (as := [_]) (rest := [_]) q_285_1652 rfl (by decide) rfl (by decide) rfl rfl (Nat.le_of_ble_eq_true rfl) (Nat.le_of_ble_eq_true rfl) (by decide) (by decide) ?_
    refine PW.aload_n q_274_0 rfl ?_
    refine PW.iconst q_274_1 ?_
    refine PW.putf q_274_2 rfl (by decide) rfl rfl rfl (by decide) ?_
    refine PW.iload_n q_274_5 rfl ?_
    refine PW.iconst q_274_6 ?_
    refine PW.iconst q_274_7 ?_
    refine PW.callS (as := [_, _, _]) (rest := []) q_274_8 rfl (by decide) rfl (Nat.le_of_ble_eq_true rfl) (Nat.le_of_ble_eq_true rfl) (by decide) (by decide) ?_
    refine PW.iload_n q_167_0 rfl ?_
    refine PW.iload_n q_167_1 rfl ?_
    refine PW.icmp_lt q_167_2 rfl (fun q => absurd q (by decide)) (fun _ => ?_)
    refine PW.iload_n q_167_5 rfl ?_
    refine PW.iload_n q_167_6 rfl ?_
    refine PW.icmp_gt q_167_7 rfl (fun q => absurd q (by decide)) (fun _ => ?_)
    refine PW.iconst q_167_10 ?_
    refine PW.goto q_167_11 rfl ?_
    refine PW.zret q_167_15 rfl (by decide) (by decide) (by decide) ?_
    refine PW.if_eq q_274_11 rfl (fun q => absurd q (by decide)) (fun _ => ?_)
    refine PW.aload_n q_274_14 rfl ?_
    refine PW.getf q_274_15 rfl (by decide) rfl rfl ?_
    refine PW.iload_n q_274_18 rfl ?_
    refine PW.zald q_274_19 (by decide) rfl (by unfold vp_in; decide) ?_
    refine PW.if_ne q_274_20 rfl (fun q => absurd (by decide) q) (fun _ => ?_)
    refine PW.iconst q_274_23 ?_
    refine PW.zret q_274_24 rfl (by decide) (by decide) (by decide) ?_
    refine PW.icmp_eq q_285_1655 rfl (fun _ => ?_) (fun q => absurd (by decide) q)
    exact law_tail G hL _
  have c1 : ¬ a1.toInt = 1 := s_neI c1
  refine PW.aload_n q_285_1635 rfl ?_
  refine PW.aload_n q_285_1636 rfl ?_
  refine PW.iload q_285_1637 rfl ?_
  refine PW.iconst q_285_1639 ?_
  refine PW.iadd q_285_1640 ?_
  refine PW.sldE q_285_1641 (by rw [hL]; unfold vp_in; decide) e1 ?_
  refine PW.callV (as := [_]) (rest := []) q_285_1642 rfl (by decide) rfl (by decide) rfl rfl (Nat.le_of_ble_eq_true rfl) (Nat.le_of_ble_eq_true rfl) (by decide) (by decide) ?_
  refine PW.iload_n q_126_0 rfl ?_
  refine PW.if_lt q_126_1 rfl (fun h0 => ?_) (fun h0 => ?_)
  · skip
    have h0 : a1.toInt < 0 := s_ltI h0
    refine PW.iconst q_126_18 ?_
    refine PW.zret q_126_19 rfl (by decide) (by decide) (by decide) ?_
    refine PW.aload_n q_285_1645 rfl ?_
    refine PW.aload_n q_285_1646 rfl ?_
    refine PW.iload q_285_1647 rfl ?_
    refine PW.iconst q_285_1649 ?_
    refine PW.iadd q_285_1650 ?_
    refine PW.sldE q_285_1651 (by rw [hL]; unfold vp_in; decide) e1 ?_
    refine PW.callV (as := [_]) (rest := [_]) q_285_1652 rfl (by decide) rfl (by decide) rfl rfl (Nat.le_of_ble_eq_true rfl) (Nat.le_of_ble_eq_true rfl) (by decide) (by decide) ?_
    refine PW.aload_n q_274_0 rfl ?_
    refine PW.iconst q_274_1 ?_
    refine PW.putf q_274_2 rfl (by decide) rfl rfl rfl (by decide) ?_
    refine PW.iload_n q_274_5 rfl ?_
    refine PW.iconst q_274_6 ?_
    refine PW.iconst q_274_7 ?_
    refine PW.callS (as := [_, _, _]) (rest := []) q_274_8 rfl (by decide) rfl (Nat.le_of_ble_eq_true rfl) (Nat.le_of_ble_eq_true rfl) (by decide) (by decide) ?_
    refine PW.iload_n q_167_0 rfl ?_
    refine PW.iload_n q_167_1 rfl ?_
    refine PW.icmp_lt q_167_2 rfl (fun h1 => ?_) (fun h1 => ?_)
    · skip
      have h1 : a1.toInt < 0 := s_ltI h1
      refine PW.iconst q_167_14 ?_
      refine PW.zret q_167_15 rfl (by decide) (by decide) (by decide) ?_
      refine PW.if_eq q_274_11 rfl (fun _ => ?_) (fun q => absurd (by decide) q)
      refine PW.iconst q_274_23 ?_
      refine PW.zret q_274_24 rfl (by decide) (by decide) (by decide) ?_
      refine PW.icmp_eq q_285_1655 rfl (fun _ => ?_) (fun q => absurd (by decide) q)
      exact law_tail G hL _
    · skip
      have h1 : a1.toInt ≥ 0 := s_nltI h1
      exact absurd trivial (by omega)
  · skip
    have h0 : a1.toInt ≥ 0 := s_nltI h0
    refine PW.iload_n q_126_4 rfl ?_
    refine PW.iconst q_126_5 ?_
    refine PW.icmp_ge q_126_6 rfl (fun h2 => ?_) (fun h2 => ?_)
    · skip
      have h2 : a1.toInt ≥ 2 := s_geI h2
      refine PW.iconst q_126_18 ?_
      refine PW.zret q_126_19 rfl (by decide) (by decide) (by decide) ?_
      refine PW.aload_n q_285_1645 rfl ?_
      refine PW.aload_n q_285_1646 rfl ?_
      refine PW.iload q_285_1647 rfl ?_
      refine PW.iconst q_285_1649 ?_
      refine PW.iadd q_285_1650 ?_
      refine PW.sldE q_285_1651 (by rw [hL]; unfold vp_in; decide) e1 ?_
      refine PW.callV (as := [_]) (rest := [_]) q_285_1652 rfl (by decide) rfl (by decide) rfl rfl (Nat.le_of_ble_eq_true rfl) (Nat.le_of_ble_eq_true rfl) (by decide) (by decide) ?_
      refine PW.aload_n q_274_0 rfl ?_
      refine PW.iconst q_274_1 ?_
      refine PW.putf q_274_2 rfl (by decide) rfl rfl rfl (by decide) ?_
      refine PW.iload_n q_274_5 rfl ?_
      refine PW.iconst q_274_6 ?_
      refine PW.iconst q_274_7 ?_
      refine PW.callS (as := [_, _, _]) (rest := []) q_274_8 rfl (by decide) rfl (Nat.le_of_ble_eq_true rfl) (Nat.le_of_ble_eq_true rfl) (by decide) (by decide) ?_
      refine PW.iload_n q_167_0 rfl ?_
      refine PW.iload_n q_167_1 rfl ?_
      refine PW.icmp_lt q_167_2 rfl (fun h3 => ?_) (fun h3 => ?_)
      · skip
        have h3 : a1.toInt < 0 := s_ltI h3
        exact absurd trivial (by omega)
      · skip
        have h3 : a1.toInt ≥ 0 := s_nltI h3
        refine PW.iload_n q_167_5 rfl ?_
        refine PW.iload_n q_167_6 rfl ?_
        refine PW.icmp_gt q_167_7 rfl (fun h4 => ?_) (fun h4 => ?_)
        · skip
          have h4 : a1.toInt > 1 := s_gtI h4
          refine PW.iconst q_167_14 ?_
          refine PW.zret q_167_15 rfl (by decide) (by decide) (by decide) ?_
          refine PW.if_eq q_274_11 rfl (fun _ => ?_) (fun q => absurd (by decide) q)
          refine PW.iconst q_274_23 ?_
          refine PW.zret q_274_24 rfl (by decide) (by decide) (by decide) ?_
          refine PW.icmp_eq q_285_1655 rfl (fun _ => ?_) (fun q => absurd (by decide) q)
          exact law_tail G hL _
        · skip
          have h4 : a1.toInt ≤ 1 := s_ngtI h4
          exact absurd trivial (by omega)
    · skip
      have h2 : a1.toInt < 2 := s_ngeI h2
      exact absurd trivial (by omega)
