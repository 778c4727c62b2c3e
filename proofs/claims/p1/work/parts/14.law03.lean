set_option maxRecDepth 100000 in
set_option maxHeartbeats 40000000 in
theorem law_stop (G : pG) (hL : G.2.2.2.2.1 = 6) (a1 a2 a3 a4 a5 : Int32) (e1 : G.2.2.2.2.2 1 = a1) (e2 : G.2.2.2.2.2 2 = a2) (e3 : G.2.2.2.2.2 3 = a3) (e4 : G.2.2.2.2.2 4 = a4) (e5 : G.2.2.2.2.2 5 = a5) : PW G false 22 285 400 9000 law_K 513 law_lv [] 311 f_M 311 8628 := by
  refine PW.aload_n q_285_513 rfl ?_
  refine PW.aload_n q_285_514 rfl ?_
  refine PW.iload q_285_515 rfl ?_
  refine PW.iconst q_285_517 ?_
  refine PW.iadd q_285_518 ?_
  refine PW.sldE q_285_519 (by rw [hL]; unfold vp_in; decide) e1 ?_
  refine PW.callV (as := [_]) (rest := []) q_285_520 rfl (by decide) rfl (by decide) rfl rfl (Nat.le_of_ble_eq_true rfl) (Nat.le_of_ble_eq_true rfl) (by decide) (by decide) ?_
  refine PW.aload_n q_117_0 rfl ?_
  refine PW.gets q_117_1 rfl ?_
  refine PW.iload_n q_117_4 rfl ?_
  refine PW.callV (as := [_, _]) (rest := []) q_117_5 rfl (by decide) rfl (by decide) rfl rfl (Nat.le_of_ble_eq_true rfl) (Nat.le_of_ble_eq_true rfl) (by decide) (by decide) ?_
  refine PW.aload_n q_145_0 rfl ?_
  refine PW.iload_n q_145_1 rfl ?_
  refine PW.callV (as := [_]) (rest := []) q_145_2 rfl (by decide) rfl (by decide) rfl rfl (Nat.le_of_ble_eq_true rfl) (Nat.le_of_ble_eq_true rfl) (by decide) (by decide) ?_
  refine PW.iload_n q_143_0 rfl ?_
  refine PW.if_lt q_143_1 rfl (fun h0 => ?_) (fun h0 => ?_)
  · skip
    have h0 : a1.toInt < 0 := s_ltI h0
    refine PW.iconst q_143_22 ?_
    refine PW.zret q_143_23 rfl (by decide) (by decide) (by decide) ?_
    refine PW.if_ne q_145_5 rfl (fun q => absurd (by decide) q) (fun _ => ?_)
    refine PW.iconst q_145_8 ?_
    refine PW.iret q_145_9 rfl (by decide) (by decide) ?_
    refine PW.iret q_117_8 rfl (by decide) (by decide) ?_
    refine PW.aload_n q_285_523 rfl ?_
    refine PW.aload_n q_285_524 rfl ?_
    refine PW.iload q_285_525 rfl ?_
    refine PW.iconst q_285_527 ?_
    refine PW.iadd q_285_528 ?_
    refine PW.sldE q_285_529 (by rw [hL]; unfold vp_in; decide) e1 ?_
    refine PW.callV (as := [_]) (rest := [_]) q_285_530 rfl (by decide) rfl (by decide) rfl rfl (Nat.le_of_ble_eq_true rfl) (Nat.le_of_ble_eq_true rfl) (by decide) (by decide) ?_
    refine PW.aload_n q_215_0 rfl ?_
    refine PW.iconst q_215_1 ?_
    refine PW.putf q_215_2 rfl (by decide) rfl rfl rfl (by decide) ?_
    refine PW.aload_n q_215_5 rfl ?_
    refine PW.iload_n q_215_6 rfl ?_
    refine PW.callV (as := [_]) (rest := []) q_215_7 rfl (by decide) rfl (by decide) rfl rfl (Nat.le_of_ble_eq_true rfl) (Nat.le_of_ble_eq_true rfl) (by decide) (by decide) ?_
    refine PW.iload_n q_196_0 rfl ?_
    refine PW.iconst q_196_1 ?_
    refine PW.aload_n q_196_2 rfl ?_
    refine PW.getf q_196_3 rfl (by decide) rfl rfl ?_
    refine PW.iconst q_196_6 ?_
    refine PW.iald q_196_7 (by decide) rfl (by unfold vp_in; decide) ?_
    refine PW.iconst q_196_8 ?_
    refine PW.isub q_196_9 ?_
    refine PW.callS (as := [_, _, _]) (rest := []) q_196_10 rfl (by decide) rfl (Nat.le_of_ble_eq_true rfl) (Nat.le_of_ble_eq_true rfl) (by decide) (by decide) ?_
    refine PW.iload_n q_167_0 rfl ?_
    refine PW.iload_n q_167_1 rfl ?_
    refine PW.icmp_lt q_167_2 rfl (fun h1 => ?_) (fun h1 => ?_)
    · skip
      have h1 : a1.toInt < 0 := s_ltI h1
      refine PW.iconst q_167_14 ?_
      refine PW.zret q_167_15 rfl (by decide) (by decide) (by decide) ?_
      refine PW.zret q_196_13 rfl (by decide) (by decide) (by decide) ?_
      refine PW.if_ne q_215_10 rfl (fun q => absurd (by decide) q) (fun _ => ?_)
      refine PW.iconst q_215_13 ?_
      refine PW.iret q_215_14 rfl (by decide) (by decide) ?_
      refine PW.icmp_eq q_285_533 rfl (fun _ => ?_) (fun q => absurd (by decide) q)
      exact law_tail G hL _
    · skip
      have h1 : a1.toInt ≥ 0 := s_nltI h1
      exact absurd trivial (by omega)
  · skip
    have h0 : a1.toInt ≥ 0 := s_nltI h0
    refine PW.iload_n q_143_4 rfl ?_
    refine PW.aload_n q_143_5 rfl ?_
    refine PW.getf q_143_6 rfl (by decide) rfl rfl ?_
    refine PW.getN q_143_9 rfl (by decide) rfl rfl ?_
    refine PW.getN q_143_12 rfl (by decide) rfl rfl ?_
    refine PW.icmp_ge q_143_15 rfl (fun h2 => ?_) (fun h2 => ?_)
    · skip
      have h2 : a1.toInt ≥ 0 := s_geI h2
      refine PW.iconst q_143_22 ?_
      refine PW.zret q_143_23 rfl (by decide) (by decide) (by decide) ?_
      refine PW.if_ne q_145_5 rfl (fun q => absurd (by decide) q) (fun _ => ?_)
      refine PW.iconst q_145_8 ?_
      refine PW.iret q_145_9 rfl (by decide) (by decide) ?_
      refine PW.iret q_117_8 rfl (by decide) (by decide) ?_
      refine PW.aload_n q_285_523 rfl ?_
      refine PW.aload_n q_285_524 rfl ?_
      refine PW.iload q_285_525 rfl ?_
      refine PW.iconst q_285_527 ?_
      refine PW.iadd q_285_528 ?_
      refine PW.sldE q_285_529 (by rw [hL]; unfold vp_in; decide) e1 ?_
      refine PW.callV (as := [_]) (rest := [_]) q_285_530 rfl (by decide) rfl (by decide) rfl rfl (Nat.le_of_ble_eq_true rfl) (Nat.le_of_ble_eq_true rfl) (by decide) (by decide) ?_
      refine PW.aload_n q_215_0 rfl ?_
      refine PW.iconst q_215_1 ?_
      refine PW.putf q_215_2 rfl (by decide) rfl rfl rfl (by decide) ?_
      refine PW.aload_n q_215_5 rfl ?_
      refine PW.iload_n q_215_6 rfl ?_
      refine PW.callV (as := [_]) (rest := []) q_215_7 rfl (by decide) rfl (by decide) rfl rfl (Nat.le_of_ble_eq_true rfl) (Nat.le_of_ble_eq_true rfl) (by decide) (by decide) ?_
      refine PW.iload_n q_196_0 rfl ?_
      refine PW.iconst q_196_1 ?_
      refine PW.aload_n q_196_2 rfl ?_
      refine PW.getf q_196_3 rfl (by decide) rfl rfl ?_
      refine PW.iconst q_196_6 ?_
      refine PW.iald q_196_7 (by decide) rfl (by unfold vp_in; decide) ?_
      refine PW.iconst q_196_8 ?_
      refine PW.isub q_196_9 ?_
      refine PW.callS (as := [_, _, _]) (rest := []) q_196_10 rfl (by decide) rfl (Nat.le_of_ble_eq_true rfl) (Nat.le_of_ble_eq_true rfl) (by decide) (by decide) ?_
      refine PW.iload_n q_167_0 rfl ?_
      refine PW.iload_n q_167_1 rfl ?_
      refine PW.icmp_lt q_167_2 rfl (fun h3 => ?_) (fun h3 => ?_)
      · skip
        have h3 : a1.toInt < 0 := s_ltI h3
        exact absurd trivial (by omega)
      · skip
        have h3 : a1.toInt ≥ 0 := s_nltI h3
        refine PW.iload_n q_167_5 rfl ?_
        refine PW.iload_n q_167_6 rfl ?_
        refine PW.icmp_gt q_167_7 rfl (fun h4 => ?_) (fun h4 => ?_)
        · skip
          have h4 : a1.toInt > (-1) := s_gtI h4
          refine PW.iconst q_167_14 ?_
          refine PW.zret q_167_15 rfl (by decide) (by decide) (by decide) ?_
          refine PW.zret q_196_13 rfl (by decide) (by decide) (by decide) ?_
          refine PW.if_ne q_215_10 rfl (fun q => absurd (by decide) q) (fun _ => ?_)
          refine PW.iconst q_215_13 ?_
          refine PW.iret q_215_14 rfl (by decide) (by decide) ?_
          refine PW.icmp_eq q_285_533 rfl (fun _ => ?_) (fun q => absurd (by decide) q)
          exact law_tail G hL _
        · skip
          have h4 : a1.toInt ≤ (-1) := s_ngtI h4
          exact absurd trivial (by omega)
    · skip
      have h2 : a1.toInt < 0 := s_ngeI h2
      exact absurd trivial (by omega)
set_option maxRecDepth 100000 in
set_option maxHeartbeats 40000000 in
theorem law_walk (G : pG) (hL : G.2.2.2.2.1 = 6) (a1 a2 a3 a4 a5 : Int32) (e1 : G.2.2.2.2.2 1 = a1) (e2 : G.2.2.2.2.2 2 = a2) (e3 : G.2.2.2.2.2 3 = a3) (e4 : G.2.2.2.2.2 4 = a4) (e5 : G.2.2.2.2.2 5 = a5) : PW G false 22 285 400 9000 law_K 538 law_lv [] 311 f_M 311 8628 := by
  refine PW.aload_n q_285_538 rfl ?_
  refine PW.aload_n q_285_539 rfl ?_
  refine PW.iload q_285_540 rfl ?_
  refine PW.iconst q_285_542 ?_
  refine PW.iadd q_285_543 ?_
  refine PW.sldE q_285_544 (by rw [hL]; unfold vp_in; decide) e1 ?_
  refine PW.callV (as := [_]) (rest := []) q_285_545 rfl (by decide) rfl (by decide) rfl rfl (Nat.le_of_ble_eq_true rfl) (Nat.le_of_ble_eq_true rfl) (by decide) (by decide) ?_
  refine PW.aload_n q_118_0 rfl ?_
  refine PW.gets q_118_1 rfl ?_
  refine PW.iload_n q_118_4 rfl ?_
  refine PW.callV (as := [_, _]) (rest := []) q_118_5 rfl (by decide) rfl (by decide) rfl rfl (Nat.le_of_ble_eq_true rfl) (Nat.le_of_ble_eq_true rfl) (by decide) (by decide) ?_
  refine PW.aload_n q_145_0 rfl ?_
  refine PW.iload_n q_145_1 rfl ?_
  refine PW.callV (as := [_]) (rest := []) q_145_2 rfl (by decide) rfl (by decide) rfl rfl (Nat.le_of_ble_eq_true rfl) (Nat.le_of_ble_eq_true rfl) (by decide) (by decide) ?_
  refine PW.iload_n q_143_0 rfl ?_
  refine PW.if_lt q_143_1 rfl (fun h0 => ?_) (fun h0 => ?_)
  · skip
    have h0 : a1.toInt < 0 := s_ltI h0
    refine PW.iconst q_143_22 ?_
    refine PW.zret q_143_23 rfl (by decide) (by decide) (by decide) ?_
    refine PW.if_ne q_145_5 rfl (fun q => absurd (by decide) q) (fun _ => ?_)
    refine PW.iconst q_145_8 ?_
    refine PW.iret q_145_9 rfl (by decide) (by decide) ?_
    refine PW.iret q_118_8 rfl (by decide) (by decide) ?_
    refine PW.aload_n q_285_548 rfl ?_
    refine PW.aload_n q_285_549 rfl ?_
    refine PW.iload q_285_550 rfl ?_
    refine PW.iconst q_285_552 ?_
    refine PW.iadd q_285_553 ?_
    refine PW.sldE q_285_554 (by rw [hL]; unfold vp_in; decide) e1 ?_
    refine PW.callV (as := [_]) (rest := [_]) q_285_555 rfl (by decide) rfl (by decide) rfl rfl (Nat.le_of_ble_eq_true rfl) (Nat.le_of_ble_eq_true rfl) (by decide) (by decide) ?_
    refine PW.aload_n q_216_0 rfl ?_
    refine PW.iconst q_216_1 ?_
    refine PW.putf q_216_2 rfl (by decide) rfl rfl rfl (by decide) ?_
    refine PW.aload_n q_216_5 rfl ?_
    refine PW.iload_n q_216_6 rfl ?_
    refine PW.callV (as := [_]) (rest := []) q_216_7 rfl (by decide) rfl (by decide) rfl rfl (Nat.le_of_ble_eq_true rfl) (Nat.le_of_ble_eq_true rfl) (by decide) (by decide) ?_
    refine PW.iload_n q_196_0 rfl ?_
    refine PW.iconst q_196_1 ?_
    refine PW.aload_n q_196_2 rfl ?_
    refine PW.getf q_196_3 rfl (by decide) rfl rfl ?_
    refine PW.iconst q_196_6 ?_
    refine PW.iald q_196_7 (by decide) rfl (by unfold vp_in; decide) ?_
    refine PW.iconst q_196_8 ?_
    refine PW.isub q_196_9 ?_
    refine PW.callS (as := [_, _, _]) (rest := []) q_196_10 rfl (by decide) rfl (Nat.le_of_ble_eq_true rfl) (Nat.le_of_ble_eq_true rfl) (by decide) (by decide) ?_
    refine PW.iload_n q_167_0 rfl ?_
    refine PW.iload_n q_167_1 rfl ?_
    refine PW.icmp_lt q_167_2 rfl (fun h1 => ?_) (fun h1 => ?_)
    · skip
      have h1 : a1.toInt < 0 := s_ltI h1
      refine PW.iconst q_167_14 ?_
      refine PW.zret q_167_15 rfl (by decide) (by decide) (by decide) ?_
      refine PW.zret q_196_13 rfl (by decide) (by decide) (by decide) ?_
      refine PW.if_ne q_216_10 rfl (fun q => absurd (by decide) q) (fun _ => ?_)
      refine PW.iconst q_216_13 ?_
      refine PW.iret q_216_14 rfl (by decide) (by decide) ?_
      refine PW.icmp_eq q_285_558 rfl (fun _ => ?_) (fun q => absurd (by decide) q)
      exact law_tail G hL _
    · skip
      have h1 : a1.toInt ≥ 0 := s_nltI h1
      exact absurd trivial (by omega)
  · skip
    have h0 : a1.toInt ≥ 0 := s_nltI h0
    refine PW.iload_n q_143_4 rfl ?_
    refine PW.aload_n q_143_5 rfl ?_
    refine PW.getf q_143_6 rfl (by decide) rfl rfl ?_
    refine PW.getN q_143_9 rfl (by decide) rfl rfl ?_
    refine PW.getN q_143_12 rfl (by decide) rfl rfl ?_
    refine PW.icmp_ge q_143_15 rfl (fun h2 => ?_) (fun h2 => ?_)
    · skip
      have h2 : a1.toInt ≥ 0 := s_geI h2
      refine PW.iconst q_143_22 ?_
      refine PW.zret q_143_23 rfl (by decide) (by decide) (by decide) ?_
      refine PW.if_ne q_145_5 rfl (fun q => absurd (by decide) q) (fun _ => ?_)
      refine PW.iconst q_145_8 ?_
      refine PW.iret q_145_9 rfl (by decide) (by decide) ?_
      refine PW.iret q_118_8 rfl (by decide) (by decide) ?_
      refine PW.aload_n q_285_548 rfl ?_
      refine PW.aload_n q_285_549 rfl ?_
      refine PW.iload q_285_550 rfl ?_
      refine PW.iconst q_285_552 ?_
      refine PW.iadd q_285_553 ?_
      refine PW.sldE q_285_554 (by rw [hL]; unfold vp_in; decide) e1 ?_
      refine PW.callV (as := [_]) (rest := [_]) q_285_555 rfl (by decide) rfl (by decide) rfl rfl (Nat.le_of_ble_eq_true rfl) (Nat.le_of_ble_eq_true rfl) (by decide) (by decide) ?_
      refine PW.aload_n q_216_0 rfl ?_
      refine PW.iconst q_216_1 ?_
      refine PW.putf q_216_2 rfl (by decide) rfl rfl rfl (by decide) ?_
      refine PW.aload_n q_216_5 rfl ?_
      refine PW.iload_n q_216_6 rfl ?_
      refine PW.callV (as := [_]) (rest := []) q_216_7 rfl (by decide) rfl (by decide) rfl rfl (Nat.le_of_ble_eq_true rfl) (Nat.le_of_ble_eq_true rfl) (by decide) (by decide) ?_
      refine PW.iload_n q_196_0 rfl ?_
      refine PW.iconst q_196_1 ?_
      refine PW.aload_n q_196_2 rfl ?_
      refine PW.getf q_196_3 rfl (by decide) rfl rfl ?_
      refine PW.iconst q_196_6 ?_
      refine PW.iald q_196_7 (by decide) rfl (by unfold vp_in; decide) ?_
      refine PW.iconst q_196_8 ?_
      refine PW.isub q_196_9 ?_
      refine PW.callS (as := [_, _, _]) (rest := []) q_196_10 rfl (by decide) rfl (Nat.le_of_ble_eq_true rfl) (Nat.le_of_ble_eq_true rfl) (by decide) (by decide) ?_
      refine PW.iload_n q_167_0 rfl ?_
      refine PW.iload_n q_167_1 rfl ?_
      refine PW.icmp_lt q_167_2 rfl (fun h3 => ?_) (fun h3 => ?_)
      · skip
        have h3 : a1.toInt < 0 := s_ltI h3
        exact absurd trivial (by omega)
      · skip
        have h3 : a1.toInt ≥ 0 := s_nltI h3
        refine PW.iload_n q_167_5 rfl ?_
        refine PW.iload_n q_167_6 rfl ?_
        refine PW.icmp_gt q_167_7 rfl (fun h4 => ?_) (fun h4 => ?_)
        · skip
          have h4 : a1.toInt > (-1) := s_gtI h4
          refine PW.iconst q_167_14 ?_
          refine PW.zret q_167_15 rfl (by decide) (by decide) (by decide) ?_
          refine PW.zret q_196_13 rfl (by decide) (by decide) (by decide) ?_
          refine PW.if_ne q_216_10 rfl (fun q => absurd (by decide) q) (fun _ => ?_)
          refine PW.iconst q_216_13 ?_
          refine PW.iret q_216_14 rfl (by decide) (by decide) ?_
          refine PW.icmp_eq q_285_558 rfl (fun _ => ?_) (fun q => absurd (by decide) q)
          exact law_tail G hL _
        · skip
          have h4 : a1.toInt ≤ (-1) := s_ngtI h4
          exact absurd trivial (by omega)
    · skip
      have h2 : a1.toInt < 0 := s_ngeI h2
      exact absurd trivial (by omega)
set_option maxRecDepth 100000 in
set_option maxHeartbeats 40000000 in
theorem law_turn (G : pG) (hL : G.2.2.2.2.1 = 6) (a1 a2 a3 a4 a5 : Int32) (e1 : G.2.2.2.2.2 1 = a1) (e2 : G.2.2.2.2.2 2 = a2) (e3 : G.2.2.2.2.2 3 = a3) (e4 : G.2.2.2.2.2 4 = a4) (e5 : G.2.2.2.2.2 5 = a5) : PW G false 22 285 400 9000 law_K 563 law_lv [] 311 f_M 311 8628 := by
  refine PW.aload_n q_285_563 rfl ?_
  refine PW.aload_n q_285_564 rfl ?_
  refine PW.iload q_285_565 rfl ?_
  refine PW.iconst q_285_567 ?_
  refine PW.iadd q_285_568 ?_
  refine PW.sldE q_285_569 (by rw [hL]; unfold vp_in; decide) e1 ?_
  refine PW.callV (as := [_]) (rest := []) q_285_570 rfl (by decide) rfl (by decide) rfl rfl (Nat.le_of_ble_eq_true rfl) (Nat.le_of_ble_eq_true rfl) (by decide) (by decide) ?_
  refine PW.aload_n q_119_0 rfl ?_
  refine PW.gets q_119_1 rfl ?_
  refine PW.iload_n q_119_4 rfl ?_
  refine PW.callV (as := [_, _]) (rest := []) q_119_5 rfl (by decide) rfl (by decide) rfl rfl (Nat.le_of_ble_eq_true rfl) (Nat.le_of_ble_eq_true rfl) (by decide) (by decide) ?_
  refine PW.aload_n q_145_0 rfl ?_
  refine PW.iload_n q_145_1 rfl ?_
  refine PW.callV (as := [_]) (rest := []) q_145_2 rfl (by decide) rfl (by decide) rfl rfl (Nat.le_of_ble_eq_true rfl) (Nat.le_of_ble_eq_true rfl) (by decide) (by decide) ?_
  refine PW.iload_n q_143_0 rfl ?_
  refine PW.if_lt q_143_1 rfl (fun h0 => ?_) (fun h0 => ?_)
  · skip
    have h0 : a1.toInt < 0 := s_ltI h0
    refine PW.iconst q_143_22 ?_
    refine PW.zret q_143_23 rfl (by decide) (by decide) (by decide) ?_
    refine PW.if_ne q_145_5 rfl (fun q => absurd (by decide) q) (fun _ => ?_)
    refine PW.iconst q_145_8 ?_
    refine PW.iret q_145_9 rfl (by decide) (by decide) ?_
    refine PW.iret q_119_8 rfl (by decide) (by decide) ?_
    refine PW.aload_n q_285_573 rfl ?_
    refine PW.aload_n q_285_574 rfl ?_
    refine PW.iload q_285_575 rfl ?_
    refine PW.iconst q_285_577 ?_
    refine PW.iadd q_285_578 ?_
    refine PW.sldE q_285_579 (by rw [hL]; unfold vp_in; decide) e1 ?_
    refine PW.callV (as := [_]) (rest := [_]) q_285_580 rfl (by decide) rfl (by decide) rfl rfl (Nat.le_of_ble_eq_true rfl) (Nat.le_of_ble_eq_true rfl) (by decide) (by decide) ?_
    refine PW.aload_n q_217_0 rfl ?_
    refine PW.iconst q_217_1 ?_
    refine PW.putf q_217_2 rfl (by decide) rfl rfl rfl (by decide) ?_
    refine PW.aload_n q_217_5 rfl ?_
    refine PW.iload_n q_217_6 rfl ?_
    refine PW.callV (as := [_]) (rest := []) q_217_7 rfl (by decide) rfl (by decide) rfl rfl (Nat.le_of_ble_eq_true rfl) (Nat.le_of_ble_eq_true rfl) (by decide) (by decide) ?_
    refine PW.iload_n q_196_0 rfl ?_
    refine PW.iconst q_196_1 ?_
    refine PW.aload_n q_196_2 rfl ?_
    refine PW.getf q_196_3 rfl (by decide) rfl rfl ?_
    refine PW.iconst q_196_6 ?_
    refine PW.iald q_196_7 (by decide) rfl (by unfold vp_in; decide) ?_
    refine PW.iconst q_196_8 ?_
    refine PW.isub q_196_9 ?_
    refine PW.callS (as := [_, _, _]) (rest := []) q_196_10 rfl (by decide) rfl (Nat.le_of_ble_eq_true rfl) (Nat.le_of_ble_eq_true rfl) (by decide) (by decide) ?_
    refine PW.iload_n q_167_0 rfl ?_
    refine PW.iload_n q_167_1 rfl ?_
    refine PW.icmp_lt q_167_2 rfl (fun h1 => ?_) (fun h1 => ?_)
    · skip
      have h1 : a1.toInt < 0 := s_ltI h1
      refine PW.iconst q_167_14 ?_
      refine PW.zret q_167_15 rfl (by decide) (by decide) (by decide) ?_
      refine PW.zret q_196_13 rfl (by decide) (by decide) (by decide) ?_
      refine PW.if_ne q_217_10 rfl (fun q => absurd (by decide) q) (fun _ => ?_)
      refine PW.iconst q_217_13 ?_
      refine PW.iret q_217_14 rfl (by decide) (by decide) ?_
      refine PW.icmp_eq q_285_583 rfl (fun _ => ?_) (fun q => absurd (by decide) q)
      exact law_tail G hL _
    · skip
      have h1 : a1.toInt ≥ 0 := s_nltI h1
      exact absurd trivial (by omega)
  · skip
    have h0 : a1.toInt ≥ 0 := s_nltI h0
    refine PW.iload_n q_143_4 rfl ?_
    refine PW.aload_n q_143_5 rfl ?_
    refine PW.getf q_143_6 rfl (by decide) rfl rfl ?_
    refine PW.getN q_143_9 rfl (by decide) rfl rfl ?_
    refine PW.getN q_143_12 rfl (by decide) rfl rfl ?_
    refine PW.icmp_ge q_143_15 rfl (fun h2 => ?_) (fun h2 => ?_)
    · skip
      have h2 : a1.toInt ≥ 0 := s_geI h2
      refine PW.iconst q_143_22 ?_
      refine PW.zret q_143_23 rfl (by decide) (by decide) (by decide) ?_
      refine PW.if_ne q_145_5 rfl (fun q => absurd (by decide) q) (fun _ => ?_)
      refine PW.iconst q_145_8 ?_
      refine PW.iret q_145_9 rfl (by decide) (by decide) ?_
      refine PW.iret q_119_8 rfl (by decide) (by decide) ?_
      refine PW.aload_n q_285_573 rfl ?_
      refine PW.aload_n q_285_574 rfl ?_
      refine PW.iload q_285_575 rfl ?_
      refine PW.iconst q_285_577 ?_
      refine PW.iadd q_285_578 ?_
      refine PW.sldE q_285_579 (by rw [hL]; unfold vp_in; decide) e1 ?_
      refine PW.callV (as := [_]) (rest := [_]) q_285_580 rfl (by decide) rfl (by decide) rfl rfl (Nat.le_of_ble_eq_true rfl) (Nat.le_of_ble_eq_true rfl) (by decide) (by decide) ?_
      refine PW.aload_n q_217_0 rfl ?_
      refine PW.iconst q_217_1 ?_
      refine PW.putf q_217_2 rfl (by decide) rfl rfl rfl (by decide) ?_
      refine PW.aload_n q_217_5 rfl ?_
      refine PW.iload_n q_217_6 rfl ?_
      refine PW.callV (as := [_]) (rest := []) q_217_7 rfl (by decide) rfl (by decide) rfl rfl (Nat.le_of_ble_eq_true rfl) (Nat.le_of_ble_eq_true rfl) (by decide) (by decide) ?_
      refine PW.iload_n q_196_0 rfl ?_
      refine PW.iconst q_196_1 ?_
      refine PW.aload_n q_196_2 rfl ?_
      refine PW.getf q_196_3 rfl (by decide) rfl rfl ?_
      refine PW.iconst q_196_6 ?_
      refine PW.iald q_196_7 (by decide) rfl (by unfold vp_in; decide) ?_
      refine PW.iconst q_196_8 ?_
      refine PW.isub q_196_9 ?_
      refine PW.callS (as := [_, _, _]) (rest := []) q_196_10 rfl (by decide) rfl (Nat.le_of_ble_eq_true rfl) (Nat.le_of_ble_eq_true rfl) (by decide) (by decide) ?_
      refine PW.iload_n q_167_0 rfl ?_
      refine PW.iload_n q_167_1 rfl ?_
      refine PW.icmp_lt q_167_2 rfl (fun h3 => ?_) (fun h3 => ?_)
      · skip
        have h3 : a1.toInt < 0 := s_ltI h3
        exact absurd trivial (by omega)
      · skip
        have h3 : a1.toInt ≥ 0 := s_nltI h3
        refine PW.iload_n q_167_5 rfl ?_
        refine PW.iload_n q_167_6 rfl ?_
        refine PW.icmp_gt q_167_7 rfl (fun h4 => ?_) (fun h4 => ?_)
        · skip
          have h4 : a1.toInt > (-1) := s_gtI h4
          refine PW.iconst q_167_14 ?_
          refine PW.zret q_167_15 rfl (by decide) (by decide) (by decide) ?_
          refine PW.zret q_196_13 rfl (by decide) (by decide) (by decide) ?_
          refine PW.if_ne q_217_10 rfl (fun q => absurd (by decide) q) (fun _ => ?_)
          refine PW.iconst q_217_13 ?_
          refine PW.iret q_217_14 rfl (by decide) (by decide) ?_
          refine PW.icmp_eq q_285_583 rfl (fun _ => ?_) (fun q => absurd (by decide) q)
          exact law_tail G hL _
        · skip
          have h4 : a1.toInt ≤ (-1) := s_ngtI h4
          exact absurd trivial (by omega)
    · skip
      have h2 : a1.toInt < 0 := s_ngeI h2
      exact absurd trivial (by omega)
set_option maxRecDepth 100000 in
set_option maxHeartbeats 40000000 in
theorem law_call (G : pG) (hL : G.2.2.2.2.1 = 6) (a1 a2 a3 a4 a5 : Int32) (e1 : G.2.2.2.2.2 1 = a1) (e2 : G.2.2.2.2.2 2 = a2) (e3 : G.2.2.2.2.2 3 = a3) (e4 : G.2.2.2.2.2 4 = a4) (e5 : G.2.2.2.2.2 5 = a5) : PW G false 22 285 400 9000 law_K 588 law_lv [] 311 f_M 311 8628 := by
  refine PW.aload_n q_285_588 rfl ?_
  refine PW.aload_n q_285_589 rfl ?_
  refine PW.iload q_285_590 rfl ?_
  refine PW.iconst q_285_592 ?_
  refine PW.iadd q_285_593 ?_
  refine PW.sldE q_285_594 (by rw [hL]; unfold vp_in; decide) e1 ?_
  refine PW.callV (as := [_]) (rest := []) q_285_595 rfl (by decide) rfl (by decide) rfl rfl (Nat.le_of_ble_eq_true rfl) (Nat.le_of_ble_eq_true rfl) (by decide) (by decide) ?_
  refine PW.aload_n q_120_0 rfl ?_
  refine PW.gets q_120_1 rfl ?_
  refine PW.iload_n q_120_4 rfl ?_
  refine PW.callV (as := [_, _]) (rest := []) q_120_5 rfl (by decide) rfl (by decide) rfl rfl (Nat.le_of_ble_eq_true rfl) (Nat.le_of_ble_eq_true rfl) (by decide) (by decide) ?_
  refine PW.aload_n q_145_0 rfl ?_
  refine PW.iload_n q_145_1 rfl ?_
  refine PW.callV (as := [_]) (rest := []) q_145_2 rfl (by decide) rfl (by decide) rfl rfl (Nat.le_of_ble_eq_true rfl) (Nat.le_of_ble_eq_true rfl) (by decide) (by decide) ?_
  refine PW.iload_n q_143_0 rfl ?_
  refine PW.if_lt q_143_1 rfl (fun h0 => ?_) (fun h0 => ?_)
  · skip
    have h0 : a1.toInt < 0 := s_ltI h0
    refine PW.iconst q_143_22 ?_
    refine PW.zret q_143_23 rfl (by decide) (by decide) (by decide) ?_
    refine PW.if_ne q_145_5 rfl (fun q => absurd (by decide) q) (fun _ => ?_)
    refine PW.iconst q_145_8 ?_
    refine PW.iret q_145_9 rfl (by decide) (by decide) ?_
    refine PW.iret q_120_8 rfl (by decide) (by decide) ?_
    refine PW.aload_n q_285_598 rfl ?_
    refine PW.aload_n q_285_599 rfl ?_
    refine PW.iload q_285_600 rfl ?_
    refine PW.iconst q_285_602 ?_
    refine PW.iadd q_285_603 ?_
    refine PW.sldE q_285_604 (by rw [hL]; unfold vp_in; decide) e1 ?_
    refine PW.callV (as := [_]) (rest := [_]) q_285_605 rfl (by decide) rfl (by decide) rfl rfl (Nat.le_of_ble_eq_true rfl) (Nat.le_of_ble_eq_true rfl) (by decide) (by decide) ?_
    refine PW.aload_n q_218_0 rfl ?_
    refine PW.iconst q_218_1 ?_
    refine PW.putf q_218_2 rfl (by decide) rfl rfl rfl (by decide) ?_
    refine PW.aload_n q_218_5 rfl ?_
    refine PW.iload_n q_218_6 rfl ?_
    refine PW.callV (as := [_]) (rest := []) q_218_7 rfl (by decide) rfl (by decide) rfl rfl (Nat.le_of_ble_eq_true rfl) (Nat.le_of_ble_eq_true rfl) (by decide) (by decide) ?_
    refine PW.iload_n q_196_0 rfl ?_
    refine PW.iconst q_196_1 ?_
    refine PW.aload_n q_196_2 rfl ?_
    refine PW.getf q_196_3 rfl (by decide) rfl rfl ?_
    refine PW.iconst q_196_6 ?_
    refine PW.iald q_196_7 (by decide) rfl (by unfold vp_in; decide) ?_
    refine PW.iconst q_196_8 ?_
    refine PW.isub q_196_9 ?_
    refine PW.callS (as := [_, _, _]) (rest := []) q_196_10 rfl (by decide) rfl (Nat.le_of_ble_eq_true rfl) (Nat.le_of_ble_eq_true rfl) (by decide) (by decide) ?_
    refine PW.iload_n q_167_0 rfl ?_
    refine PW.iload_n q_167_1 rfl ?_
    refine PW.icmp_lt q_167_2 rfl (fun h1 => ?_) (fun h1 => ?_)
    · skip
      have h1 : a1.toInt < 0 := s_ltI h1
      refine PW.iconst q_167_14 ?_
      refine PW.zret q_167_15 rfl (by decide) (by decide) (by decide) ?_
      refine PW.zret q_196_13 rfl (by decide) (by decide) (by decide) ?_
      refine PW.if_ne q_218_10 rfl (fun q => absurd (by decide) q) (fun _ => ?_)
      refine PW.iconst q_218_13 ?_
      refine PW.iret q_218_14 rfl (by decide) (by decide) ?_
      refine PW.icmp_eq q_285_608 rfl (fun _ => ?_) (fun q => absurd (by decide) q)
      exact law_tail G hL _
    · skip
      have h1 : a1.toInt ≥ 0 := s_nltI h1
      exact absurd trivial (by omega)
  · skip
    have h0 : a1.toInt ≥ 0 := s_nltI h0
    refine PW.iload_n q_143_4 rfl ?_
    refine PW.aload_n q_143_5 rfl ?_
    refine PW.getf q_143_6 rfl (by decide) rfl rfl ?_
    refine PW.getN q_143_9 rfl (by decide) rfl rfl ?_
    refine PW.getN q_143_12 rfl (by decide) rfl rfl ?_
    refine PW.icmp_ge q_143_15 rfl (fun h2 => ?_) (fun h2 => ?_)
    · skip
      have h2 : a1.toInt ≥ 0 := s_geI h2
      refine PW.iconst q_143_22 ?_
      refine PW.zret q_143_23 rfl (by decide) (by decide) (by decide) ?_
      refine PW.if_ne q_145_5 rfl (fun q => absurd (by decide) q) (fun _ => ?_)
      refine PW.iconst q_145_8 ?_
      refine PW.iret q_145_9 rfl (by decide) (by decide) ?_
      refine PW.iret q_120_8 rfl (by decide) (by decide) ?_
      refine PW.aload_n q_285_598 rfl ?_
      refine PW.aload_n q_285_599 rfl ?_
      refine PW.iload q_285_600 rfl ?_
      refine PW.iconst q_285_602 ?_
      refine PW.iadd q_285_603 ?_
      refine PW.sldE q_285_604 (by rw [hL]; unfold vp_in; decide) e1 ?_
      refine PW.callV (as := [_]) (rest := [_]) q_285_605 rfl (by decide) rfl (by decide) rfl rfl (Nat.le_of_ble_eq_true rfl) (Nat.le_of_ble_eq_true rfl) (by decide) (by decide) ?_
      refine PW.aload_n q_218_0 rfl ?_
      refine PW.iconst q_218_1 ?_
      refine PW.putf q_218_2 rfl (by decide) rfl rfl rfl (by decide) ?_
      refine PW.aload_n q_218_5 rfl ?_
      refine PW.iload_n q_218_6 rfl ?_
      refine PW.callV (as := [_]) (rest := []) q_218_7 rfl (by decide) rfl (by decide) rfl rfl (Nat.le_of_ble_eq_true rfl) (Nat.le_of_ble_eq_true rfl) (by decide) (by decide) ?_
      refine PW.iload_n q_196_0 rfl ?_
      refine PW.iconst q_196_1 ?_
      refine PW.aload_n q_196_2 rfl ?_
      refine PW.getf q_196_3 rfl (by decide) rfl rfl ?_
      refine PW.iconst q_196_6 ?_
      refine PW.iald q_196_7 (by decide) rfl (by unfold vp_in; decide) ?_
      refine PW.iconst q_196_8 ?_
      refine PW.isub q_196_9 ?_
      refine PW.callS (as := [_, _, _]) (rest := []) q_196_10 rfl (by decide) rfl (Nat.le_of_ble_eq_true rfl) (Nat.le_of_ble_eq_true rfl) (by decide) (by decide) ?_
      refine PW.iload_n q_167_0 rfl ?_
      refine PW.iload_n q_167_1 rfl ?_
      refine PW.icmp_lt q_167_2 rfl (fun h3 => ?_) (fun h3 => ?_)
      · skip
        have h3 : a1.toInt < 0 := s_ltI h3
        exact absurd trivial (by omega)
      · skip
        have h3 : a1.toInt ≥ 0 := s_nltI h3
        refine PW.iload_n q_167_5 rfl ?_
        refine PW.iload_n q_167_6 rfl ?_
        refine PW.icmp_gt q_167_7 rfl (fun h4 => ?_) (fun h4 => ?_)
        · skip
          have h4 : a1.toInt > (-1) := s_gtI h4
          refine PW.iconst q_167_14 ?_
          refine PW.zret q_167_15 rfl (by decide) (by decide) (by decide) ?_
          refine PW.zret q_196_13 rfl (by decide) (by decide) (by decide) ?_
          refine PW.if_ne q_218_10 rfl (fun q => absurd (by decide) q) (fun _ => ?_)
          refine PW.iconst q_218_13 ?_
          refine PW.iret q_218_14 rfl (by decide) (by decide) ?_
          refine PW.icmp_eq q_285_608 rfl (fun _ => ?_) (fun q => absurd (by decide) q)
          exact law_tail G hL _
        · skip
          have h4 : a1.toInt ≤ (-1) := s_ngtI h4
          exact absurd trivial (by omega)
    · skip
      have h2 : a1.toInt < 0 := s_ngeI h2
      exact absurd trivial (by omega)
