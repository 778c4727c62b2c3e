set_option maxRecDepth 100000 in
set_option maxHeartbeats 40000000 in
theorem law_throwStick (G : pG) (hL : G.2.2.2.2.1 = 6) (a1 a2 a3 a4 a5 : Int32) (e1 : G.2.2.2.2.2 1 = a1) (e2 : G.2.2.2.2.2 2 = a2) (e3 : G.2.2.2.2.2 3 = a3) (e4 : G.2.2.2.2.2 4 = a4) (e5 : G.2.2.2.2.2 5 = a5) : PW G false 22 285 400 9000 law_K 613 law_lv [] 311 f_M 311 8628 := by
  refine PW.aload_n q_285_613 rfl ?_
  refine PW.aload_n q_285_614 rfl ?_
  refine PW.iload q_285_615 rfl ?_
  refine PW.iconst q_285_617 ?_
  refine PW.iadd q_285_618 ?_
  refine PW.sldE q_285_619 (by rw [hL]; unfold vp_in; decide) e1 ?_
  refine PW.callV (as := [_]) (rest := []) q_285_620 rfl (by decide) rfl (by decide) rfl rfl (Nat.le_of_ble_eq_true rfl) (Nat.le_of_ble_eq_true rfl) (by decide) (by decide) ?_
  refine PW.aload_n q_121_0 rfl ?_
  refine PW.gets q_121_1 rfl ?_
  refine PW.iload_n q_121_4 rfl ?_
  refine PW.callV (as := [_, _]) (rest := []) q_121_5 rfl (by decide) rfl (by decide) rfl rfl (Nat.le_of_ble_eq_true rfl) (Nat.le_of_ble_eq_true rfl) (by decide) (by decide) ?_
  refine PW.aload_n q_145_0 rfl ?_
  refine PW.iload_n q_145_1 rfl ?_
  refine PW.callV (as := [_]) (rest := []) q_145_2 rfl (by decide) rfl (by decide) rfl rfl (Nat.le_of_ble_eq_true rfl) (Nat.le_of_ble_eq_true rfl) (by decide) (by decide) ?_
  refine PW.iload_n q_143_0 rfl ?_
  refine PW.if_lt q_143_1 rfl (fun h0 => ?_) (fun h0 => ?_)
  · skip
    have h0 : a1.toInt < 0 := s_ltI h0
    refine PW.iconst q_143_22 ?_
    refine PW.zret q_143_23 rfl (by decide) (by decide) (by decide) ?_
    refine PW.if_ne q_145_5 rfl (fun q => absurd (by decide) q) (fun _ => ?_)
    refine PW.iconst q_145_8 ?_
    refine PW.iret q_145_9 rfl (by decide) (by decide) ?_
    refine PW.iret q_121_8 rfl (by decide) (by decide) ?_
    refine PW.aload_n q_285_623 rfl ?_
    refine PW.aload_n q_285_624 rfl ?_
    refine PW.iload q_285_625 rfl ?_
    refine PW.iconst q_285_627 ?_
    refine PW.iadd q_285_628 ?_
    refine PW.sldE q_285_629 (by rw [hL]; unfold vp_in; decide) e1 ?_
    refine PW.callV (as := [_]) (rest := [_]) q_285_630 rfl (by decide) rfl (by decide) rfl rfl (Nat.le_of_ble_eq_true rfl) (Nat.le_of_ble_eq_true rfl) (by decide) (by decide) ?_
    refine PW.aload_n q_219_0 rfl ?_
    refine PW.iconst q_219_1 ?_
    refine PW.putf q_219_2 rfl (by decide) rfl rfl rfl (by decide) ?_
    refine PW.aload_n q_219_5 rfl ?_
    refine PW.iload_n q_219_6 rfl ?_
    refine PW.callV (as := [_]) (rest := []) q_219_7 rfl (by decide) rfl (by decide) rfl rfl (Nat.le_of_ble_eq_true rfl) (Nat.le_of_ble_eq_true rfl) (by decide) (by decide) ?_
    refine PW.iload_n q_196_0 rfl ?_
    refine PW.iconst q_196_1 ?_
    refine PW.aload_n q_196_2 rfl ?_
    refine PW.getf q_196_3 rfl (by decide) rfl rfl ?_
    refine PW.iconst q_196_6 ?_
    refine PW.iald q_196_7 (by decide) rfl (by unfold vp_in; decide) ?_
    refine PW.iconst q_196_8 ?_
    refine PW.isub q_196_9 ?_
    refine PW.callS (as := [_, _, _]) (rest := []) q_196_10 rfl (by decide) rfl (Nat.le_of_ble_eq_true rfl) (Nat.le_of_ble_eq_true rfl) (by decide) (by decide) ?_
    refine PW.iload_n q_167_0 rfl ?_
    refine PW.iload_n q_167_1 rfl ?_
    refine PW.icmp_lt q_167_2 rfl (fun h1 => ?_) (fun h1 => ?_)
    · skip
      have h1 : a1.toInt < 0 := s_ltI h1
      refine PW.iconst q_167_14 ?_
      refine PW.zret q_167_15 rfl (by decide) (by decide) (by decide) ?_
      refine PW.zret q_196_13 rfl (by decide) (by decide) (by decide) ?_
      refine PW.if_ne q_219_10 rfl (fun q => absurd (by decide) q) (fun _ => ?_)
      refine PW.iconst q_219_13 ?_
      refine PW.iret q_219_14 rfl (by decide) (by decide) ?_
      refine PW.icmp_eq q_285_633 rfl (fun _ => ?_) (fun q => absurd (by decide) q)
      exact law_tail G hL _
    · skip
      have h1 : a1.toInt ≥ 0 := s_nltI h1
      exact absurd trivial (by omega)
  · skip
    have h0 : a1.toInt ≥ 0 := s_nltI h0
    refine PW.iload_n q_143_4 rfl ?_
    refine PW.aload_n q_143_5 rfl ?_
    refine PW.getf q_143_6 rfl (by decide) rfl rfl ?_
    refine PW.getN q_143_9 rfl (by decide) rfl rfl ?_
    refine PW.getN q_143_12 rfl (by decide) rfl rfl ?_
    refine PW.icmp_ge q_143_15 rfl (fun h2 => ?_) (fun h2 => ?_)
    · skip
      have h2 : a1.toInt ≥ 0 := s_geI h2
      refine PW.iconst q_143_22 ?_
      refine PW.zret q_143_23 rfl (by decide) (by decide) (by decide) ?_
      refine PW.if_ne q_145_5 rfl (fun q => absurd (by decide) q) (fun _ => ?_)
      refine PW.iconst q_145_8 ?_
      refine PW.iret q_145_9 rfl (by decide) (by decide) ?_
      refine PW.iret q_121_8 rfl (by decide) (by decide) ?_
      refine PW.aload_n q_285_623 rfl ?_
      refine PW.aload_n q_285_624 rfl ?_
      refine PW.iload q_285_625 rfl ?_
      refine PW.iconst q_285_627 ?_
      refine PW.iadd q_285_628 ?_
      refine PW.sldE q_285_629 (by rw [hL]; unfold vp_in; decide) e1 ?_
      refine PW.callV (as := [_]) (rest := [_]) q_285_630 rfl (by decide) rfl (by decide) rfl rfl (Nat.le_of_ble_eq_true rfl) (Nat.le_of_ble_eq_true rfl) (by decide) (by decide) ?_
      refine PW.aload_n q_219_0 rfl ?_
      refine PW.iconst q_219_1 ?_
      refine PW.putf q_219_2 rfl (by decide) rfl rfl rfl (by decide) ?_
      refine PW.aload_n q_219_5 rfl ?_
      refine PW.iload_n q_219_6 rfl ?_
      refine PW.callV (as := [_]) (rest := []) q_219_7 rfl (by decide) rfl (by decide) rfl rfl (Nat.le_of_ble_eq_true rfl) (Nat.le_of_ble_eq_true rfl) (by decide) (by decide) ?_
      refine PW.iload_n q_196_0 rfl ?_
      refine PW.iconst q_196_1 ?_
      refine PW.aload_n q_196_2 rfl ?_
      refine PW.getf q_196_3 rfl (by decide) rfl rfl ?_
      refine PW.iconst q_196_6 ?_
      refine PW.iald q_196_7 (by decide) rfl (by unfold vp_in; decide) ?_
      refine PW.iconst q_196_8 ?_
      refine PW.isub q_196_9 ?_
      refine PW.callS (as := [_, _, _]) (rest := []) q_196_10 rfl (by decide) rfl (Nat.le_of_ble_eq_true rfl) (Nat.le_of_ble_eq_true rfl) (by decide) (by decide) ?_
      refine PW.iload_n q_167_0 rfl ?_
      refine PW.iload_n q_167_1 rfl ?_
      refine PW.icmp_lt q_167_2 rfl (fun h3 => ?_) (fun h3 => ?_)
      · skip
        have h3 : a1.toInt < 0 := s_ltI h3
        exact absurd trivial (by omega)
      · skip
        have h3 : a1.toInt ≥ 0 := s_nltI h3
        refine PW.iload_n q_167_5 rfl ?_
        refine PW.iload_n q_167_6 rfl ?_
        refine PW.icmp_gt q_167_7 rfl (fun h4 => ?_) (fun h4 => ?_)
        · skip
          have h4 : a1.toInt > (-1) := s_gtI h4
          refine PW.iconst q_167_14 ?_
          refine PW.zret q_167_15 rfl (by decide) (by decide) (by decide) ?_
          refine PW.zret q_196_13 rfl (by decide) (by decide) (by decide) ?_
          refine PW.if_ne q_219_10 rfl (fun q => absurd (by decide) q) (fun _ => ?_)
          refine PW.iconst q_219_13 ?_
          refine PW.iret q_219_14 rfl (by decide) (by decide) ?_
          refine PW.icmp_eq q_285_633 rfl (fun _ => ?_) (fun q => absurd (by decide) q)
          exact law_tail G hL _
        · skip
          have h4 : a1.toInt ≤ (-1) := s_ngtI h4
          exact absurd trivial (by omega)
    · skip
      have h2 : a1.toInt < 0 := s_ngeI h2
      exact absurd trivial (by omega)
set_option maxRecDepth 100000 in
set_option maxHeartbeats 40000000 in
theorem law_gap (G : pG) (hL : G.2.2.2.2.1 = 6) (a1 a2 a3 a4 a5 : Int32) (e1 : G.2.2.2.2.2 1 = a1) (e2 : G.2.2.2.2.2 2 = a2) (e3 : G.2.2.2.2.2 3 = a3) (e4 : G.2.2.2.2.2 4 = a4) (e5 : G.2.2.2.2.2 5 = a5) : PW G false 22 285 400 9000 law_K 676 law_lv [] 311 f_M 311 8628 := by
  refine PW.aload_n q_285_676 rfl ?_
  refine PW.aload_n q_285_677 rfl ?_
  refine PW.iload q_285_678 rfl ?_
  refine PW.iconst q_285_680 ?_
  refine PW.iadd q_285_681 ?_
  refine PW.sldE q_285_682 (by rw [hL]; unfold vp_in; decide) e1 ?_
  refine PW.aload_n q_285_683 rfl ?_
  refine PW.iload q_285_684 rfl ?_
  refine PW.iconst q_285_686 ?_
  refine PW.iadd q_285_687 ?_
  refine PW.sldE q_285_688 (by rw [hL]; unfold vp_in; decide) e2 ?_
  refine PW.callV (as := [_, _]) (rest := []) q_285_689 rfl (by decide) rfl (by decide) rfl rfl (Nat.le_of_ble_eq_true rfl) (Nat.le_of_ble_eq_true rfl) (by decide) (by decide) ?_
  refine PW.aload_n q_112_0 rfl ?_
  refine PW.iload_n q_112_1 rfl ?_
  refine PW.callV (as := [_]) (rest := []) q_112_2 rfl (by decide) rfl (by decide) rfl rfl (Nat.le_of_ble_eq_true rfl) (Nat.le_of_ble_eq_true rfl) (by decide) (by decide) ?_
  refine PW.iload_n q_143_0 rfl ?_
  refine PW.if_lt q_143_1 rfl (fun h0 => ?_) (fun h0 => ?_)
  · skip
    have h0 : a1.toInt < 0 := s_ltI h0
    refine PW.iconst q_143_22 ?_
    refine PW.zret q_143_23 rfl (by decide) (by decide) (by decide) ?_
    refine PW.if_eq q_112_5 rfl (fun _ => ?_) (fun q => absurd (by decide) q)
    refine PW.iconst q_112_16 ?_
    refine PW.iret q_112_17 rfl (by decide) (by decide) ?_
    refine PW.aload_n q_285_692 rfl ?_
    refine PW.aload_n q_285_693 rfl ?_
    refine PW.iload q_285_694 rfl ?_
    refine PW.iconst q_285_696 ?_
    refine PW.iadd q_285_697 ?_
    refine PW.sldE q_285_698 (by rw [hL]; unfold vp_in; decide) e1 ?_
    refine PW.aload_n q_285_699 rfl ?_
    refine PW.iload q_285_700 rfl ?_
    refine PW.iconst q_285_702 ?_
    refine PW.iadd q_285_703 ?_
    refine PW.sldE q_285_704 (by rw [hL]; unfold vp_in; decide) e2 ?_
    refine PW.callV (as := [_, _]) (rest := [_]) q_285_705 rfl (by decide) rfl (by decide) rfl rfl (Nat.le_of_ble_eq_true rfl) (Nat.le_of_ble_eq_true rfl) (by decide) (by decide) ?_
    refine PW.aload_n q_225_0 rfl ?_
    refine PW.iconst q_225_1 ?_
    refine PW.putf q_225_2 rfl (by decide) rfl rfl rfl (by decide) ?_
    refine PW.aload_n q_225_5 rfl ?_
    refine PW.iload_n q_225_6 rfl ?_
    refine PW.callV (as := [_]) (rest := []) q_225_7 rfl (by decide) rfl (by decide) rfl rfl (Nat.le_of_ble_eq_true rfl) (Nat.le_of_ble_eq_true rfl) (by decide) (by decide) ?_
    refine PW.iload_n q_196_0 rfl ?_
    refine PW.iconst q_196_1 ?_
    refine PW.aload_n q_196_2 rfl ?_
    refine PW.getf q_196_3 rfl (by decide) rfl rfl ?_
    refine PW.iconst q_196_6 ?_
    refine PW.iald q_196_7 (by decide) rfl (by unfold vp_in; decide) ?_
    refine PW.iconst q_196_8 ?_
    refine PW.isub q_196_9 ?_
    refine PW.callS (as := [_, _, _]) (rest := []) q_196_10 rfl (by decide) rfl (Nat.le_of_ble_eq_true rfl) (Nat.le_of_ble_eq_true rfl) (by decide) (by decide) ?_
    refine PW.iload_n q_167_0 rfl ?_
    refine PW.iload_n q_167_1 rfl ?_
    refine PW.icmp_lt q_167_2 rfl (fun h1 => ?_) (fun h1 => ?_)
    · skip
      have h1 : a1.toInt < 0 := s_ltI h1
      refine PW.iconst q_167_14 ?_
      refine PW.zret q_167_15 rfl (by decide) (by decide) (by decide) ?_
      refine PW.zret q_196_13 rfl (by decide) (by decide) (by decide) ?_
      refine PW.if_eq q_225_10 rfl (fun _ => ?_) (fun q => absurd (by decide) q)
      refine PW.iconst q_225_30 ?_
      refine PW.iret q_225_31 rfl (by decide) (by decide) ?_
      refine PW.icmp_eq q_285_708 rfl (fun _ => ?_) (fun q => absurd (by decide) q)
      exact law_tail G hL _
    · skip
      have h1 : a1.toInt ≥ 0 := s_nltI h1
      exact absurd trivial (by omega)
  · skip
    have h0 : a1.toInt ≥ 0 := s_nltI h0
    refine PW.iload_n q_143_4 rfl ?_
    refine PW.aload_n q_143_5 rfl ?_
    refine PW.getf q_143_6 rfl (by decide) rfl rfl ?_
    refine PW.getN q_143_9 rfl (by decide) rfl rfl ?_
    refine PW.getN q_143_12 rfl (by decide) rfl rfl ?_
    refine PW.icmp_ge q_143_15 rfl (fun h2 => ?_) (fun h2 => ?_)
    · skip
      have h2 : a1.toInt ≥ 0 := s_geI h2
      refine PW.iconst q_143_22 ?_
      refine PW.zret q_143_23 rfl (by decide) (by decide) (by decide) ?_
      refine PW.if_eq q_112_5 rfl (fun _ => ?_) (fun q => absurd (by decide) q)
      refine PW.iconst q_112_16 ?_
      refine PW.iret q_112_17 rfl (by decide) (by decide) ?_
      refine PW.aload_n q_285_692 rfl ?_
      refine PW.aload_n q_285_693 rfl ?_
      refine PW.iload q_285_694 rfl ?_
      refine PW.iconst q_285_696 ?_
      refine PW.iadd q_285_697 ?_
      refine PW.sldE q_285_698 (by rw [hL]; unfold vp_in; decide) e1 ?_
      refine PW.aload_n q_285_699 rfl ?_
      refine PW.iload q_285_700 rfl ?_
      refine PW.iconst q_285_702 ?_
      refine PW.iadd q_285_703 ?_
      refine PW.sldE q_285_704 (by rw [hL]; unfold vp_in; decide) e2 ?_
      refine PW.callV (as := [_, _]) (rest := [_]) q_285_705 rfl (by decide) rfl (by decide) rfl rfl (Nat.le_of_ble_eq_true rfl) (Nat.le_of_ble_eq_true rfl) (by decide) (by decide) ?_
      refine PW.aload_n q_225_0 rfl ?_
      refine PW.iconst q_225_1 ?_
      refine PW.putf q_225_2 rfl (by decide) rfl rfl rfl (by decide) ?_
      refine PW.aload_n q_225_5 rfl ?_
      refine PW.iload_n q_225_6 rfl ?_
      refine PW.callV (as := [_]) (rest := []) q_225_7 rfl (by decide) rfl (by decide) rfl rfl (Nat.le_of_ble_eq_true rfl) (Nat.le_of_ble_eq_true rfl) (by decide) (by decide) ?_
      refine PW.iload_n q_196_0 rfl ?_
      refine PW.iconst q_196_1 ?_
      refine PW.aload_n q_196_2 rfl ?_
      refine PW.getf q_196_3 rfl (by decide) rfl rfl ?_
      refine PW.iconst q_196_6 ?_
      refine PW.iald q_196_7 (by decide) rfl (by unfold vp_in; decide) ?_
      refine PW.iconst q_196_8 ?_
      refine PW.isub q_196_9 ?_
      refine PW.callS (as := [_, _, _]) (rest := []) q_196_10 rfl (by decide) rfl (Nat.le_of_ble_eq_true rfl) (Nat.le_of_ble_eq_true rfl) (by decide) (by decide) ?_
      refine PW.iload_n q_167_0 rfl ?_
      refine PW.iload_n q_167_1 rfl ?_
      refine PW.icmp_lt q_167_2 rfl (fun h3 => ?_) (fun h3 => ?_)
      · skip
        have h3 : a1.toInt < 0 := s_ltI h3
        exact absurd trivial (by omega)
      · skip
        have h3 : a1.toInt ≥ 0 := s_nltI h3
        refine PW.iload_n q_167_5 rfl ?_
        refine PW.iload_n q_167_6 rfl ?_
        refine PW.icmp_gt q_167_7 rfl (fun h4 => ?_) (fun h4 => ?_)
        · skip
          have h4 : a1.toInt > (-1) := s_gtI h4
          refine PW.iconst q_167_14 ?_
          refine PW.zret q_167_15 rfl (by decide) (by decide) (by decide) ?_
          refine PW.zret q_196_13 rfl (by decide) (by decide) (by decide) ?_
          refine PW.if_eq q_225_10 rfl (fun _ => ?_) (fun q => absurd (by decide) q)
          refine PW.iconst q_225_30 ?_
          refine PW.iret q_225_31 rfl (by decide) (by decide) ?_
          refine PW.icmp_eq q_285_708 rfl (fun _ => ?_) (fun q => absurd (by decide) q)
          exact law_tail G hL _
        · skip
          have h4 : a1.toInt ≤ (-1) := s_ngtI h4
          exact absurd trivial (by omega)
    · skip
      have h2 : a1.toInt < 0 := s_ngeI h2
      exact absurd trivial (by omega)
set_option maxRecDepth 100000 in
set_option maxHeartbeats 40000000 in
theorem law_meet (G : pG) (hL : G.2.2.2.2.1 = 6) (a1 a2 a3 a4 a5 : Int32) (e1 : G.2.2.2.2.2 1 = a1) (e2 : G.2.2.2.2.2 2 = a2) (e3 : G.2.2.2.2.2 3 = a3) (e4 : G.2.2.2.2.2 4 = a4) (e5 : G.2.2.2.2.2 5 = a5) : PW G false 22 285 400 9000 law_K 713 law_lv [] 311 f_M 311 8628 := by
  refine PW.aload_n q_285_713 rfl ?_
  refine PW.aload_n q_285_714 rfl ?_
  refine PW.iload q_285_715 rfl ?_
  refine PW.iconst q_285_717 ?_
  refine PW.iadd q_285_718 ?_
  refine PW.sldE q_285_719 (by rw [hL]; unfold vp_in; decide) e1 ?_
  refine PW.aload_n q_285_720 rfl ?_
  refine PW.iload q_285_721 rfl ?_
  refine PW.iconst q_285_723 ?_
  refine PW.iadd q_285_724 ?_
  refine PW.sldE q_285_725 (by rw [hL]; unfold vp_in; decide) e2 ?_
  refine PW.callV (as := [_, _]) (rest := []) q_285_726 rfl (by decide) rfl (by decide) rfl rfl (Nat.le_of_ble_eq_true rfl) (Nat.le_of_ble_eq_true rfl) (by decide) (by decide) ?_
  refine PW.aload_n q_127_0 rfl ?_
  refine PW.iload_n q_127_1 rfl ?_
  refine PW.callV (as := [_]) (rest := []) q_127_2 rfl (by decide) rfl (by decide) rfl rfl (Nat.le_of_ble_eq_true rfl) (Nat.le_of_ble_eq_true rfl) (by decide) (by decide) ?_
  refine PW.iload_n q_143_0 rfl ?_
  refine PW.if_lt q_143_1 rfl (fun h0 => ?_) (fun h0 => ?_)
  · skip
    have h0 : a1.toInt < 0 := s_ltI h0
    refine PW.iconst q_143_22 ?_
    refine PW.zret q_143_23 rfl (by decide) (by decide) (by decide) ?_
    refine PW.if_eq q_127_5 rfl (fun _ => ?_) (fun q => absurd (by decide) q)
    refine PW.iconst q_127_21 ?_
    refine PW.iret q_127_22 rfl (by decide) (by decide) ?_
    refine PW.aload_n q_285_729 rfl ?_
    refine PW.aload_n q_285_730 rfl ?_
    refine PW.iload q_285_731 rfl ?_
    refine PW.iconst q_285_733 ?_
    refine PW.iadd q_285_734 ?_
    refine PW.sldE q_285_735 (by rw [hL]; unfold vp_in; decide) e1 ?_
    refine PW.aload_n q_285_736 rfl ?_
    refine PW.iload q_285_737 rfl ?_
    refine PW.iconst q_285_739 ?_
    refine PW.iadd q_285_740 ?_
    refine PW.sldE q_285_741 (by rw [hL]; unfold vp_in; decide) e2 ?_
    refine PW.callV (as := [_, _]) (rest := [_]) q_285_742 rfl (by decide) rfl (by decide) rfl rfl (Nat.le_of_ble_eq_true rfl) (Nat.le_of_ble_eq_true rfl) (by decide) (by decide) ?_
    refine PW.aload_n q_226_0 rfl ?_
    refine PW.iconst q_226_1 ?_
    refine PW.putf q_226_2 rfl (by decide) rfl rfl rfl (by decide) ?_
    refine PW.aload_n q_226_5 rfl ?_
    refine PW.iload_n q_226_6 rfl ?_
    refine PW.iload_n q_226_7 rfl ?_
    refine PW.callV (as := [_, _]) (rest := []) q_226_8 rfl (by decide) rfl (by decide) rfl rfl (Nat.le_of_ble_eq_true rfl) (Nat.le_of_ble_eq_true rfl) (by decide) (by decide) ?_
    refine PW.aload_n q_198_0 rfl ?_
    refine PW.iload_n q_198_1 rfl ?_
    refine PW.callV (as := [_]) (rest := []) q_198_2 rfl (by decide) rfl (by decide) rfl rfl (Nat.le_of_ble_eq_true rfl) (Nat.le_of_ble_eq_true rfl) (by decide) (by decide) ?_
    refine PW.iload_n q_196_0 rfl ?_
    refine PW.iconst q_196_1 ?_
    refine PW.aload_n q_196_2 rfl ?_
    refine PW.getf q_196_3 rfl (by decide) rfl rfl ?_
    refine PW.iconst q_196_6 ?_
    refine PW.iald q_196_7 (by decide) rfl (by unfold vp_in; decide) ?_
    refine PW.iconst q_196_8 ?_
    refine PW.isub q_196_9 ?_
    refine PW.callS (as := [_, _, _]) (rest := []) q_196_10 rfl (by decide) rfl (Nat.le_of_ble_eq_true rfl) (Nat.le_of_ble_eq_true rfl) (by decide) (by decide) ?_
    refine PW.iload_n q_167_0 rfl ?_
    refine PW.iload_n q_167_1 rfl ?_
    refine PW.icmp_lt q_167_2 rfl (fun h1 => ?_) (fun h1 => ?_)
    · skip
      have h1 : a1.toInt < 0 := s_ltI h1
      refine PW.iconst q_167_14 ?_
      refine PW.zret q_167_15 rfl (by decide) (by decide) (by decide) ?_
      refine PW.zret q_196_13 rfl (by decide) (by decide) (by decide) ?_
      refine PW.if_eq q_198_5 rfl (fun _ => ?_) (fun q => absurd (by decide) q)
      refine PW.iconst q_198_25 ?_
      refine PW.zret q_198_26 rfl (by decide) (by decide) (by decide) ?_
      refine PW.if_ne q_226_11 rfl (fun q => absurd (by decide) q) (fun _ => ?_)
      refine PW.iconst q_226_14 ?_
      refine PW.iret q_226_15 rfl (by decide) (by decide) ?_
      refine PW.icmp_eq q_285_745 rfl (fun _ => ?_) (fun q => absurd (by decide) q)
      exact law_tail G hL _
    · skip
      have h1 : a1.toInt ≥ 0 := s_nltI h1
      exact absurd trivial (by omega)
  · skip
    have h0 : a1.toInt ≥ 0 := s_nltI h0
    refine PW.iload_n q_143_4 rfl ?_
    refine PW.aload_n q_143_5 rfl ?_
    refine PW.getf q_143_6 rfl (by decide) rfl rfl ?_
    refine PW.getN q_143_9 rfl (by decide) rfl rfl ?_
    refine PW.getN q_143_12 rfl (by decide) rfl rfl ?_
    refine PW.icmp_ge q_143_15 rfl (fun h2 => ?_) (fun h2 => ?_)
    · skip
      have h2 : a1.toInt ≥ 0 := s_geI h2
      refine PW.iconst q_143_22 ?_
      refine PW.zret q_143_23 rfl (by decide) (by decide) (by decide) ?_
      refine PW.if_eq q_127_5 rfl (fun _ => ?_) (fun q => absurd (by decide) q)
      refine PW.iconst q_127_21 ?_
      refine PW.iret q_127_22 rfl (by decide) (by decide) ?_
      refine PW.aload_n q_285_729 rfl ?_
      refine PW.aload_n q_285_730 rfl ?_
      refine PW.iload q_285_731 rfl ?_
      refine PW.iconst q_285_733 ?_
      refine PW.iadd q_285_734 ?_
      refine PW.sldE q_285_735 (by rw [hL]; unfold vp_in; decide) e1 ?_
      refine PW.aload_n q_285_736 rfl ?_
      refine PW.iload q_285_737 rfl ?_
      refine PW.iconst q_285_739 ?_
      refine PW.iadd q_285_740 ?_
      refine PW.sldE q_285_741 (by rw [hL]; unfold vp_in; decide) e2 ?_
      refine PW.callV (as := [_, _]) (rest := [_]) q_285_742 rfl (by decide) rfl (by decide) rfl rfl (Nat.le_of_ble_eq_true rfl) (Nat.le_of_ble_eq_true rfl) (by decide) (by decide) ?_
      refine PW.aload_n q_226_0 rfl ?_
      refine PW.iconst q_226_1 ?_
      refine PW.putf q_226_2 rfl (by decide) rfl rfl rfl (by decide) ?_
      refine PW.aload_n q_226_5 rfl ?_
      refine PW.iload_n q_226_6 rfl ?_
      refine PW.iload_n q_226_7 rfl ?_
      refine PW.callV (as := [_, _]) (rest := []) q_226_8 rfl (by decide) rfl (by decide) rfl rfl (Nat.le_of_ble_eq_true rfl) (Nat.le_of_ble_eq_true rfl) (by decide) (by decide) ?_
      refine PW.aload_n q_198_0 rfl ?_
      refine PW.iload_n q_198_1 rfl ?_
      refine PW.callV (as := [_]) (rest := []) q_198_2 rfl (by decide) rfl (by decide) rfl rfl (Nat.le_of_ble_eq_true rfl) (Nat.le_of_ble_eq_true rfl) (by decide) (by decide) ?_
      refine PW.iload_n q_196_0 rfl ?_
      refine PW.iconst q_196_1 ?_
      refine PW.aload_n q_196_2 rfl ?_
      refine PW.getf q_196_3 rfl (by decide) rfl rfl ?_
      refine PW.iconst q_196_6 ?_
      refine PW.iald q_196_7 (by decide) rfl (by unfold vp_in; decide) ?_
      refine PW.iconst q_196_8 ?_
      refine PW.isub q_196_9 ?_
      refine PW.callS (as := [_, _, _]) (rest := []) q_196_10 rfl (by decide) rfl (Nat.le_of_ble_eq_true rfl) (Nat.le_of_ble_eq_true rfl) (by decide) (by decide) ?_
      refine PW.iload_n q_167_0 rfl ?_
      refine PW.iload_n q_167_1 rfl ?_
      refine PW.icmp_lt q_167_2 rfl (fun h3 => ?_) (fun h3 => ?_)
      · skip
        have h3 : a1.toInt < 0 := s_ltI h3
        exact absurd trivial (by omega)
      · skip
        have h3 : a1.toInt ≥ 0 := s_nltI h3
        refine PW.iload_n q_167_5 rfl ?_
        refine PW.iload_n q_167_6 rfl ?_
        refine PW.icmp_gt q_167_7 rfl (fun h4 => ?_) (fun h4 => ?_)
        · skip
          have h4 : a1.toInt > (-1) := s_gtI h4
          refine PW.iconst q_167_14 ?_
          refine PW.zret q_167_15 rfl (by decide) (by decide) (by decide) ?_
          refine PW.zret q_196_13 rfl (by decide) (by decide) (by decide) ?_
          refine PW.if_eq q_198_5 rfl (fun _ => ?_) (fun q => absurd (by decide) q)
          refine PW.iconst q_198_25 ?_
          refine PW.zret q_198_26 rfl (by decide) (by decide) (by decide) ?_
          refine PW.if_ne q_226_11 rfl (fun q => absurd (by decide) q) (fun _ => ?_)
          refine PW.iconst q_226_14 ?_
          refine PW.iret q_226_15 rfl (by decide) (by decide) ?_
          refine PW.icmp_eq q_285_745 rfl (fun _ => ?_) (fun q => absurd (by decide) q)
          exact law_tail G hL _
        · skip
          have h4 : a1.toInt ≤ (-1) := s_ngtI h4
          exact absurd trivial (by omega)
    · skip
      have h2 : a1.toInt < 0 := s_ngeI h2
      exact absurd trivial (by omega)
