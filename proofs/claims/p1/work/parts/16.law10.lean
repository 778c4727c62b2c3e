set_option maxRecDepth 100000 in
set_option maxHeartbeats 40000000 in
theorem law_sentence (G : pG) (hL : G.2.2.2.2.1 = 6) (a1 a2 a3 a4 a5 : Int32) (e1 : G.2.2.2.2.2 1 = a1) (e2 : G.2.2.2.2.2 2 = a2) (e3 : G.2.2.2.2.2 3 = a3) (e4 : G.2.2.2.2.2 4 = a4) (e5 : G.2.2.2.2.2 5 = a5) : PW G false 22 285 400 9000 law_K 1572 law_lv [] 311 f_M 311 8628 := by
  refine PW.aload_n q_285_1572 rfl ?_
  refine PW.callV (as := []) (rest := []) q_285_1573 rfl (by decide) rfl (by decide) rfl rfl (Nat.le_of_ble_eq_true rfl) (Nat.le_of_ble_eq_true rfl) (by decide) (by decide) ?_
  refine PW.exD x_sentence_ok ?_
  refine PW.mem2 (M2 := f_lo) (d_mix x_sentence_ok) ?_
  refine PW.aload_n q_285_1576 rfl ?_
  refine PW.callV (as := []) (rest := [_]) q_285_1577 rfl (by decide) rfl (by decide) rfl rfl (Nat.le_of_ble_eq_true rfl) (Nat.le_of_ble_eq_true rfl) (by decide) (by decide) ?_
  refine PW.exD y_sentence_ok ?_
  refine PW.icmp_eq q_285_1580 rfl (fun _ => ?_) (fun q => absurd (by decide) q)
  exact law_tail G hL _
set_option maxRecDepth 100000 in
set_option maxHeartbeats 40000000 in
theorem law_image (G : pG) (hL : G.2.2.2.2.1 = 6) (a1 a2 a3 a4 a5 : Int32) (e1 : G.2.2.2.2.2 1 = a1) (e2 : G.2.2.2.2.2 2 = a2) (e3 : G.2.2.2.2.2 3 = a3) (e4 : G.2.2.2.2.2 4 = a4) (e5 : G.2.2.2.2.2 5 = a5) : PW G false 22 285 400 9000 law_K 1610 law_lv [] 311 f_M 311 8628 := by
  by_cases c0 : a1 = 0
  · subst c0
    refine PW.aload_n q_285_1610 rfl ?_
    refine PW.aload_n q_285_1611 rfl ?_
    refine PW.iload q_285_1612 rfl ?_
    refine PW.iconst q_285_1614 ?_
    refine PW.iadd q_285_1615 ?_
    refine PW.sldE q_285_1616 (by rw [hL]; unfold vp_in; decide) e1 ?_
    refine PW.callV (as := [_]) (rest := []) q_285_1617 rfl (by decide) rfl (by decide) rfl rfl (Nat.le_of_ble_eq_true rfl) (Nat.le_of_ble_eq_true rfl) (by decide) (by decide) ?_
    refine PW.exD x_image0_ok ?_
    refine PW.mem2 (M2 := f_lo) (d_mix x_image0_ok) ?_
    refine PW.aload_n q_285_1620 rfl ?_
    refine PW.aload_n q_285_1621 rfl ?_
    refine PW.iload q_285_1622 rfl ?_
    refine PW.iconst q_285_1624 ?_
    refine PW.iadd q_285_1625 ?_
    refine PW.sldE q_285_1626 (by rw [hL]; unfold vp_in; decide) e1 ?_
    refine PW.callV (as := [_]) (rest := [_]) q_285_1627 rfl (by decide) rfl (by decide) rfl rfl (Nat.le_of_ble_eq_true rfl) (Nat.le_of_ble_eq_true rfl) (by decide) (by decide) ?_
    refine PW.exD y_image0_ok ?_
    refine PW.icmp_eq q_285_1630 rfl (fun _ => ?_) (fun q => absurd (by decide) q)
    exact law_tail G hL _
  have c0 : ¬ a1.toInt = 0 := s_neI c0
  by_cases c1 : a1 = 1
  · subst c1
    refine PW.aload_n q_285_1610 rfl ?_
    refine PW.aload_n q_285_1611 rfl ?_
    refine PW.iload q_285_1612 rfl ?_
    refine PW.iconst q_285_1614 ?_
    refine PW.iadd q_285_1615 ?_
    refine PW.sldE q_285_1616 (by rw [hL]; unfold vp_in; decide) e1 ?_
    refine PW.callV (as := [_]) (rest := []) q_285_1617 rfl (by decide) rfl (by decide) rfl rfl (Nat.le_of_ble_eq_true rfl) (Nat.le_of_ble_eq_true rfl) (by decide) (by decide) ?_
    refine PW.exD x_image1_ok ?_
    refine PW.mem2 (M2 := f_lo) (d_mix x_image1_ok) ?_
    refine PW.aload_n q_285_1620 rfl ?_
    refine PW.aload_n q_285_1621 rfl ?_
    refine PW.iload q_285_1622 rfl ?_
    refine PW.iconst q_285_1624 ?_
    refine PW.iadd q_285_1625 ?_
    refine PW.sldE q_285_1626 (by rw [hL]; unfold vp_in; decide) e1 ?_
    refine PW.callV (as := [_]) (rest := [_]) q_285_1627 rfl (by decide) rfl (by decide) rfl rfl (Nat.le_of_ble_eq_true rfl) (Nat.le_of_ble_eq_true rfl) (by decide) (by decide) ?_
    refine PW.exD y_image1_ok ?_
    refine PW.icmp_eq q_285_1630 rfl (fun _ => ?_) (fun q => absurd (by decide) q)
    exact law_tail G hL _
  have c1 : ¬ a1.toInt = 1 := s_neI c1
  refine PW.aload_n q_285_1610 rfl ?_
  refine PW.aload_n q_285_1611 rfl ?_
  refine PW.iload q_285_1612 rfl ?_
  refine PW.iconst q_285_1614 ?_
  refine PW.iadd q_285_1615 ?_
  refine PW.sldE q_285_1616 (by rw [hL]; unfold vp_in; decide) e1 ?_
  refine PW.callV (as := [_]) (rest := []) q_285_1617 rfl (by decide) rfl (by decide) rfl rfl (Nat.le_of_ble_eq_true rfl) (Nat.le_of_ble_eq_true rfl) (by decide) (by decide) ?_
  refine PW.iload_n q_125_0 rfl ?_
  refine PW.if_lt q_125_1 rfl (fun h0 => ?_) (fun h0 => ?_)
  · skip
    have h0 : a1.toInt < 0 := s_ltI h0
    refine PW.iconst q_125_9 ?_
    refine PW.zret q_125_10 rfl (by decide) (by decide) (by decide) ?_
    refine PW.aload_n q_285_1620 rfl ?_
    refine PW.aload_n q_285_1621 rfl ?_
    refine PW.iload q_285_1622 rfl ?_
    refine PW.iconst q_285_1624 ?_
    refine PW.iadd q_285_1625 ?_
    refine PW.sldE q_285_1626 (by rw [hL]; unfold vp_in; decide) e1 ?_
    refine PW.callV (as := [_]) (rest := [_]) q_285_1627 rfl (by decide) rfl (by decide) rfl rfl (Nat.le_of_ble_eq_true rfl) (Nat.le_of_ble_eq_true rfl) (by decide) (by decide) ?_
    refine PW.aload_n q_273_0 rfl ?_
    refine PW.iconst q_273_1 ?_
    refine PW.putf q_273_2 rfl (by decide) rfl rfl rfl (by decide) ?_
    refine PW.iload_n q_273_5 rfl ?_
    refine PW.iconst q_273_6 ?_
    refine PW.iconst q_273_7 ?_
    refine PW.callS (as := [_, _, _]) (rest := []) q_273_8 rfl (by decide) rfl (Nat.le_of_ble_eq_true rfl) (Nat.le_of_ble_eq_true rfl) (by decide) (by decide) ?_
    refine PW.iload_n q_167_0 rfl ?_
    refine PW.iload_n q_167_1 rfl ?_
    refine PW.icmp_lt q_167_2 rfl (fun h1 => ?_) (fun h1 => ?_)
    · skip
      have h1 : a1.toInt < 0 := s_ltI h1
      refine PW.iconst q_167_14 ?_
      refine PW.zret q_167_15 rfl (by decide) (by decide) (by decide) ?_
      refine PW.if_ne q_273_11 rfl (fun q => absurd (by decide) q) (fun _ => ?_)
      refine PW.iconst q_273_14 ?_
      refine PW.zret q_273_15 rfl (by decide) (by decide) (by decide) ?_
      refine PW.icmp_eq q_285_1630 rfl (fun _ => ?_) (fun q => absurd (by decide) q)
      exact law_tail G hL _
    · skip
      have h1 : a1.toInt ≥ 0 := s_nltI h1
      exact absurd trivial (by omega)
  · skip
    have h0 : a1.toInt ≥ 0 := s_nltI h0
    refine PW.iload_n q_125_4 rfl ?_
    refine PW.iconst q_125_5 ?_
    refine PW.icmp_lt q_125_6 rfl (fun h2 => ?_) (fun h2 => ?_)
    · skip
      have h2 : a1.toInt < 2 := s_ltI h2
      exact absurd trivial (by omega)
    · skip
      have h2 : a1.toInt ≥ 2 := s_nltI h2
      refine PW.iconst q_125_9 ?_
      refine PW.zret q_125_10 rfl (by decide) (by decide) (by decide) ?_
      refine PW.aload_n q_285_1620 rfl ?_
      refine PW.aload_n q_285_1621 rfl ?_
      refine PW.iload q_285_1622 rfl ?_
      refine PW.iconst q_285_1624 ?_
      refine PW.iadd q_285_1625 ?_
      refine PW.sldE q_285_1626 (by rw [hL]; unfold vp_in; decide) e1 ?_
      refine PW.callV (as := [_]) (rest := [_]) q_285_1627 rfl (by decide) rfl (by decide) rfl rfl (Nat.le_of_ble_eq_true rfl) (Nat.le_of_ble_eq_true rfl) (by decide) (by decide) ?_
      refine PW.aload_n q_273_0 rfl ?_
      refine PW.iconst q_273_1 ?_
      refine PW.putf q_273_2 rfl (by decide) rfl rfl rfl (by decide) ?_
      refine PW.iload_n q_273_5 rfl ?_
      refine PW.iconst q_273_6 ?_
      refine PW.iconst q_273_7 ?_
      refine PW.callS (as := [_, _, _]) (rest := []) q_273_8 rfl (by decide) rfl (Nat.le_of_ble_eq_true rfl) (Nat.le_of_ble_eq_true rfl) (by decide) (by decide) ?_
      refine PW.iload_n q_167_0 rfl ?_
      refine PW.iload_n q_167_1 rfl ?_
      refine PW.icmp_lt q_167_2 rfl (fun h3 => ?_) (fun h3 => ?_)
      · skip
        have h3 : a1.toInt < 0 := s_ltI h3
        exact absurd trivial (by omega)
      · skip
        have h3 : a1.toInt ≥ 0 := s_nltI h3
        refine PW.iload_n q_167_5 rfl ?_
        refine PW.iload_n q_167_6 rfl ?_
        refine PW.icmp_gt q_167_7 rfl (fun h4 => ?_) (fun h4 => ?_)
        · skip
          have h4 : a1.toInt > 1 := s_gtI h4
          refine PW.iconst q_167_14 ?_
          refine PW.zret q_167_15 rfl (by decide) (by decide) (by decide) ?_
          refine PW.if_ne q_273_11 rfl (fun q => absurd (by decide) q) (fun _ => ?_)
          refine PW.iconst q_273_14 ?_
          refine PW.zret q_273_15 rfl (by decide) (by decide) (by decide) ?_
          refine PW.icmp_eq q_285_1630 rfl (fun _ => ?_) (fun q => absurd (by decide) q)
          exact law_tail G hL _
        · skip
          have h4 : a1.toInt ≤ 1 := s_ngtI h4
          exact absurd trivial (by omega)
