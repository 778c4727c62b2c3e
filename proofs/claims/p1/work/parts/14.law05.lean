set_option maxRecDepth 100000 in
set_option maxHeartbeats 40000000 in
theorem law_run (G : pG) (hL : G.2.2.2.2.1 = 6) (a1 a2 a3 a4 a5 : Int32) (e1 : G.2.2.2.2.2 1 = a1) (e2 : G.2.2.2.2.2 2 = a2) (e3 : G.2.2.2.2.2 3 = a3) (e4 : G.2.2.2.2.2 4 = a4) (e5 : G.2.2.2.2.2 5 = a5) : PW G false 22 285 400 9000 law_K 750 law_lv [] 311 f_M 311 8628 := by
  refine PW.aload_n q_285_750 rfl ?_
  refine PW.aload_n q_285_751 rfl ?_
  refine PW.iload q_285_752 rfl ?_
  refine PW.iconst q_285_754 ?_
  refine PW.iadd q_285_755 ?_
  refine PW.sldE q_285_756 (by rw [hL]; unfold vp_in; decide) e1 ?_
  refine PW.aload_n q_285_757 rfl ?_
  refine PW.iload q_285_758 rfl ?_
  refine PW.iconst q_285_760 ?_
  refine PW.iadd q_285_761 ?_
  refine PW.sldE q_285_762 (by rw [hL]; unfold vp_in; decide) e2 ?_
  refine PW.callV (as := [_, _]) (rest := []) q_285_763 rfl (by decide) rfl (by decide) rfl rfl (Nat.le_of_ble_eq_true rfl) (Nat.le_of_ble_eq_true rfl) (by decide) (by decide) ?_
  refine PW.aload_n q_128_0 rfl ?_
  refine PW.iload_n q_128_1 rfl ?_
  refine PW.callV (as := [_]) (rest := []) q_128_2 rfl (by decide) rfl (by decide) rfl rfl (Nat.le_of_ble_eq_true rfl) (Nat.le_of_ble_eq_true rfl) (by decide) (by decide) ?_
  refine PW.iload_n q_144_0 rfl ?_
  refine PW.if_lt q_144_1 rfl (fun h0 => ?_) (fun h0 => ?_)
  · skip
    have h0 : a1.toInt < 0 := s_ltI h0
    refine PW.iconst q_144_22 ?_
    refine PW.zret q_144_23 rfl (by decide) (by decide) (by decide) ?_
    refine PW.if_eq q_128_5 rfl (fun _ => ?_) (fun q => absurd (by decide) q)
    refine PW.iconst q_128_19 ?_
    refine PW.iret q_128_20 rfl (by decide) (by decide) ?_
    refine PW.aload_n q_285_766 rfl ?_
    refine PW.aload_n q_285_767 rfl ?_
    refine PW.iload q_285_768 rfl ?_
    refine PW.iconst q_285_770 ?_
    refine PW.iadd q_285_771 ?_
    refine PW.sldE q_285_772 (by rw [hL]; unfold vp_in; decide) e1 ?_
    refine PW.aload_n q_285_773 rfl ?_
    refine PW.iload q_285_774 rfl ?_
    refine PW.iconst q_285_776 ?_
    refine PW.iadd q_285_777 ?_
    refine PW.sldE q_285_778 (by rw [hL]; unfold vp_in; decide) e2 ?_
    refine PW.callV (as := [_, _]) (rest := [_]) q_285_779 rfl (by decide) rfl (by decide) rfl rfl (Nat.le_of_ble_eq_true rfl) (Nat.le_of_ble_eq_true rfl) (by decide) (by decide) ?_
    refine PW.aload_n q_227_0 rfl ?_
    refine PW.iconst q_227_1 ?_
    refine PW.putf q_227_2 rfl (by decide) rfl rfl rfl (by decide) ?_
    refine PW.aload_n q_227_5 rfl ?_
    refine PW.iload_n q_227_6 rfl ?_
    refine PW.callV (as := [_]) (rest := []) q_227_7 rfl (by decide) rfl (by decide) rfl rfl (Nat.le_of_ble_eq_true rfl) (Nat.le_of_ble_eq_true rfl) (by decide) (by decide) ?_
    refine PW.iload_n q_197_0 rfl ?_
    refine PW.iconst q_197_1 ?_
    refine PW.aload_n q_197_2 rfl ?_
    refine PW.getf q_197_3 rfl (by decide) rfl rfl ?_
    refine PW.iconst q_197_6 ?_
    refine PW.iald q_197_7 (by decide) rfl (by unfold vp_in; decide) ?_
    refine PW.iconst q_197_8 ?_
    refine PW.isub q_197_9 ?_
    refine PW.callS (as := [_, _, _]) (rest := []) q_197_10 rfl (by decide) rfl (Nat.le_of_ble_eq_true rfl) (Nat.le_of_ble_eq_true rfl) (by decide) (by decide) ?_
    refine PW.iload_n q_167_0 rfl ?_
    refine PW.iload_n q_167_1 rfl ?_
    refine PW.icmp_lt q_167_2 rfl (fun h1 => ?_) (fun h1 => ?_)
    · skip
      have h1 : a1.toInt < 0 := s_ltI h1
      refine PW.iconst q_167_14 ?_
      refine PW.zret q_167_15 rfl (by decide) (by decide) (by decide) ?_
      refine PW.zret q_197_13 rfl (by decide) (by decide) (by decide) ?_
      refine PW.if_eq q_227_10 rfl (fun _ => ?_) (fun q => absurd (by decide) q)
      refine PW.iconst q_227_23 ?_
      refine PW.iret q_227_24 rfl (by decide) (by decide) ?_
      refine PW.icmp_eq q_285_782 rfl (fun _ => ?_) (fun q => absurd (by decide) q)
      exact law_tail G hL _
    · skip
      have h1 : a1.toInt ≥ 0 := s_nltI h1
      exact absurd trivial (by omega)
  · skip
    have h0 : a1.toInt ≥ 0 := s_nltI h0
    refine PW.iload_n q_144_4 rfl ?_
    refine PW.aload_n q_144_5 rfl ?_
    refine PW.getf q_144_6 rfl (by decide) rfl rfl ?_
    refine PW.getN q_144_9 rfl (by decide) rfl rfl ?_
    refine PW.getN q_144_12 rfl (by decide) rfl rfl ?_
    refine PW.icmp_ge q_144_15 rfl (fun h2 => ?_) (fun h2 => ?_)
    · skip
      have h2 : a1.toInt ≥ 0 := s_geI h2
      refine PW.iconst q_144_22 ?_
      refine PW.zret q_144_23 rfl (by decide) (by decide) (by decide) ?_
      refine PW.if_eq q_128_5 rfl (fun _ => ?_) (fun q => absurd (by decide) q)
      refine PW.iconst q_128_19 ?_
      refine PW.iret q_128_20 rfl (by decide) (by decide) ?_
      refine PW.aload_n q_285_766 rfl ?_
      refine PW.aload_n q_285_767 rfl ?_
      refine PW.iload q_285_768 rfl ?_
      refine PW.iconst q_285_770 ?_
      refine PW.iadd q_285_771 ?_
      refine PW.sldE q_285_772 (by rw [hL]; unfold vp_in; decide) e1 ?_
      refine PW.aload_n q_285_773 rfl ?_
      refine PW.iload q_285_774 rfl ?_
      refine PW.iconst q_285_776 ?_
      refine PW.iadd q_285_777 ?_
      refine PW.sldE q_285_778 (by rw [hL]; unfold vp_in; decide) e2 ?_
      refine PW.callV (as := [_, _]) (rest := [_]) q_285_779 rfl (by decide) rfl (by decide) rfl rfl (Nat.le_of_ble_eq_true rfl) (Nat.le_of_ble_eq_true rfl) (by decide) (by decide) ?_
      refine PW.aload_n q_227_0 rfl ?_
      refine PW.iconst q_227_1 ?_
      refine PW.putf q_227_2 rfl (by decide) rfl rfl rfl (by decide) ?_
      refine PW.aload_n q_227_5 rfl ?_
      refine PW.iload_n q_227_6 rfl ?_
      refine PW.callV (as := [_]) (rest := []) q_227_7 rfl (by decide) rfl (by decide) rfl rfl (Nat.le_of_ble_eq_true rfl) (Nat.le_of_ble_eq_true rfl) (by decide) (by decide) ?_
      refine PW.iload_n q_197_0 rfl ?_
      refine PW.iconst q_197_1 ?_
      refine PW.aload_n q_197_2 rfl ?_
      refine PW.getf q_197_3 rfl (by decide) rfl rfl ?_
      refine PW.iconst q_197_6 ?_
      refine PW.iald q_197_7 (by decide) rfl (by unfold vp_in; decide) ?_
      refine PW.iconst q_197_8 ?_
      refine PW.isub q_197_9 ?_
      refine PW.callS (as := [_, _, _]) (rest := []) q_197_10 rfl (by decide) rfl (Nat.le_of_ble_eq_true rfl) (Nat.le_of_ble_eq_true rfl) (by decide) (by decide) ?_
      refine PW.iload_n q_167_0 rfl ?_
      refine PW.iload_n q_167_1 rfl ?_
      refine PW.icmp_lt q_167_2 rfl (fun h3 => ?_) (fun h3 => ?_)
      · skip
        have h3 : a1.toInt < 0 := s_ltI h3
        exact absurd trivial (by omega)
      · skip
        have h3 : a1.toInt ≥ 0 := s_nltI h3
        refine PW.iload_n q_167_5 rfl ?_
        refine PW.iload_n q_167_6 rfl ?_
        refine PW.icmp_gt q_167_7 rfl (fun h4 => ?_) (fun h4 => ?_)
        · skip
          have h4 : a1.toInt > (-1) := s_gtI h4
          refine PW.iconst q_167_14 ?_
          refine PW.zret q_167_15 rfl (by decide) (by decide) (by decide) ?_
          refine PW.zret q_197_13 rfl (by decide) (by decide) (by decide) ?_
          refine PW.if_eq q_227_10 rfl (fun _ => ?_) (fun q => absurd (by decide) q)
          refine PW.iconst q_227_23 ?_
          refine PW.iret q_227_24 rfl (by decide) (by decide) ?_
          refine PW.icmp_eq q_285_782 rfl (fun _ => ?_) (fun q => absurd (by decide) q)
          exact law_tail G hL _
        · skip
          have h4 : a1.toInt ≤ (-1) := s_ngtI h4
          exact absurd trivial (by omega)
    · skip
      have h2 : a1.toInt < 0 := s_ngeI h2
      exact absurd trivial (by omega)
set_option maxRecDepth 100000 in
set_option maxHeartbeats 40000000 in
theorem law_turns (G : pG) (hL : G.2.2.2.2.1 = 6) (a1 a2 a3 a4 a5 : Int32) (e1 : G.2.2.2.2.2 1 = a1) (e2 : G.2.2.2.2.2 2 = a2) (e3 : G.2.2.2.2.2 3 = a3) (e4 : G.2.2.2.2.2 4 = a4) (e5 : G.2.2.2.2.2 5 = a5) : PW G false 22 285 400 9000 law_K 787 law_lv [] 311 f_M 311 8628 := by
  refine PW.aload_n q_285_787 rfl ?_
  refine PW.aload_n q_285_788 rfl ?_
  refine PW.iload q_285_789 rfl ?_
  refine PW.iconst q_285_791 ?_
  refine PW.iadd q_285_792 ?_
  refine PW.sldE q_285_793 (by rw [hL]; unfold vp_in; decide) e1 ?_
  refine PW.aload_n q_285_794 rfl ?_
  refine PW.iload q_285_795 rfl ?_
  refine PW.iconst q_285_797 ?_
  refine PW.iadd q_285_798 ?_
  refine PW.sldE q_285_799 (by rw [hL]; unfold vp_in; decide) e2 ?_
  refine PW.callV (as := [_, _]) (rest := []) q_285_800 rfl (by decide) rfl (by decide) rfl rfl (Nat.le_of_ble_eq_true rfl) (Nat.le_of_ble_eq_true rfl) (by decide) (by decide) ?_
  refine PW.aload_n q_129_0 rfl ?_
  refine PW.iload_n q_129_1 rfl ?_
  refine PW.callV (as := [_]) (rest := []) q_129_2 rfl (by decide) rfl (by decide) rfl rfl (Nat.le_of_ble_eq_true rfl) (Nat.le_of_ble_eq_true rfl) (by decide) (by decide) ?_
  refine PW.iload_n q_144_0 rfl ?_
  refine PW.if_lt q_144_1 rfl (fun h0 => ?_) (fun h0 => ?_)
  · skip
    have h0 : a1.toInt < 0 := s_ltI h0
    refine PW.iconst q_144_22 ?_
    refine PW.zret q_144_23 rfl (by decide) (by decide) (by decide) ?_
    refine PW.if_eq q_129_5 rfl (fun _ => ?_) (fun q => absurd (by decide) q)
    refine PW.iconst q_129_19 ?_
    refine PW.iret q_129_20 rfl (by decide) (by decide) ?_
    refine PW.aload_n q_285_803 rfl ?_
    refine PW.aload_n q_285_804 rfl ?_
    refine PW.iload q_285_805 rfl ?_
    refine PW.iconst q_285_807 ?_
    refine PW.iadd q_285_808 ?_
    refine PW.sldE q_285_809 (by rw [hL]; unfold vp_in; decide) e1 ?_
    refine PW.aload_n q_285_810 rfl ?_
    refine PW.iload q_285_811 rfl ?_
    refine PW.iconst q_285_813 ?_
    refine PW.iadd q_285_814 ?_
    refine PW.sldE q_285_815 (by rw [hL]; unfold vp_in; decide) e2 ?_
    refine PW.callV (as := [_, _]) (rest := [_]) q_285_816 rfl (by decide) rfl (by decide) rfl rfl (Nat.le_of_ble_eq_true rfl) (Nat.le_of_ble_eq_true rfl) (by decide) (by decide) ?_
    refine PW.aload_n q_228_0 rfl ?_
    refine PW.iconst q_228_1 ?_
    refine PW.putf q_228_2 rfl (by decide) rfl rfl rfl (by decide) ?_
    refine PW.aload_n q_228_5 rfl ?_
    refine PW.iload_n q_228_6 rfl ?_
    refine PW.callV (as := [_]) (rest := []) q_228_7 rfl (by decide) rfl (by decide) rfl rfl (Nat.le_of_ble_eq_true rfl) (Nat.le_of_ble_eq_true rfl) (by decide) (by decide) ?_
    refine PW.iload_n q_197_0 rfl ?_
    refine PW.iconst q_197_1 ?_
    refine PW.aload_n q_197_2 rfl ?_
    refine PW.getf q_197_3 rfl (by decide) rfl rfl ?_
    refine PW.iconst q_197_6 ?_
    refine PW.iald q_197_7 (by decide) rfl (by unfold vp_in; decide) ?_
    refine PW.iconst q_197_8 ?_
    refine PW.isub q_197_9 ?_
    refine PW.callS (as := [_, _, _]) (rest := []) q_197_10 rfl (by decide) rfl (Nat.le_of_ble_eq_true rfl) (Nat.le_of_ble_eq_true rfl) (by decide) (by decide) ?_
    refine PW.iload_n q_167_0 rfl ?_
    refine PW.iload_n q_167_1 rfl ?_
    refine PW.icmp_lt q_167_2 rfl (fun h1 => ?_) (fun h1 => ?_)
    · skip
      have h1 : a1.toInt < 0 := s_ltI h1
      refine PW.iconst q_167_14 ?_
      refine PW.zret q_167_15 rfl (by decide) (by decide) (by decide) ?_
      refine PW.zret q_197_13 rfl (by decide) (by decide) (by decide) ?_
      refine PW.if_eq q_228_10 rfl (fun _ => ?_) (fun q => absurd (by decide) q)
      refine PW.iconst q_228_23 ?_
      refine PW.iret q_228_24 rfl (by decide) (by decide) ?_
      refine PW.icmp_eq q_285_819 rfl (fun _ => ?_) (fun q => absurd (by decide) q)
      exact law_tail G hL _
    · skip
      have h1 : a1.toInt ≥ 0 := s_nltI h1
      exact absurd trivial (by omega)
  · skip
    have h0 : a1.toInt ≥ 0 := s_nltI h0
    refine PW.iload_n q_144_4 rfl ?_
    refine PW.aload_n q_144_5 rfl ?_
    refine PW.getf q_144_6 rfl (by decide) rfl rfl ?_
    refine PW.getN q_144_9 rfl (by decide) rfl rfl ?_
    refine PW.getN q_144_12 rfl (by decide) rfl rfl ?_
    refine PW.icmp_ge q_144_15 rfl (fun h2 => ?_) (fun h2 => ?_)
    · skip
      have h2 : a1.toInt ≥ 0 := s_geI h2
      refine PW.iconst q_144_22 ?_
      refine PW.zret q_144_23 rfl (by decide) (by decide) (by decide) ?_
      refine PW.if_eq q_129_5 rfl (fun _ => ?_) (fun q => absurd (by decide) q)
      refine PW.iconst q_129_19 ?_
      refine PW.iret q_129_20 rfl (by decide) (by decide) ?_
      refine PW.aload_n q_285_803 rfl ?_
      refine PW.aload_n q_285_804 rfl ?_
      refine PW.iload q_285_805 rfl ?_
      refine PW.iconst q_285_807 ?_
      refine PW.iadd q_285_808 ?_
      refine PW.sldE q_285_809 (by rw [hL]; unfold vp_in; decide) e1 ?_
      refine PW.aload_n q_285_810 rfl ?_
      refine PW.iload q_285_811 rfl ?_
      refine PW.iconst q_285_813 ?_
      refine PW.iadd q_285_814 ?_
      refine PW.sldE q_285_815 (by rw [hL]; unfold vp_in; decide) e2 ?_
      refine PW.callV (as := [_, _]) (rest := [_]) q_285_816 rfl (by decide) rfl (by decide) rfl rfl (Nat.le_of_ble_eq_true rfl) (Nat.le_of_ble_eq_true rfl) (by decide) (by decide) ?_
      refine PW.aload_n q_228_0 rfl ?_
      refine PW.iconst q_228_1 ?_
      refine PW.putf q_228_2 rfl (by decide) rfl rfl rfl (by decide) ?_
      refine PW.aload_n q_228_5 rfl ?_
      refine PW.iload_n q_228_6 rfl ?_
      refine PW.callV (as := [_]) (rest := []) q_228_7 rfl (by decide) rfl (by decide) rfl rfl (Nat.le_of_ble_eq_true rfl) (Nat.le_of_ble_eq_true rfl) (by decide) (by decide) ?_
      refine PW.iload_n q_197_0 rfl ?_
      refine PW.iconst q_197_1 ?_
      refine PW.aload_n q_197_2 rfl ?_
      refine PW.getf q_197_3 rfl (by decide) rfl rfl ?_
      refine PW.iconst q_197_6 ?_
      refine PW.iald q_197_7 (by decide) rfl (by unfold vp_in; decide) ?_
      refine PW.iconst q_197_8 ?_
      refine PW.isub q_197_9 ?_
      refine PW.callS (as := [_, _, _]) (rest := []) q_197_10 rfl (by decide) rfl (Nat.le_of_ble_eq_true rfl) (Nat.le_of_ble_eq_true rfl) (by decide) (by decide) ?_
      refine PW.iload_n q_167_0 rfl ?_
      refine PW.iload_n q_167_1 rfl ?_
      refine PW.icmp_lt q_167_2 rfl (fun h3 => ?_) (fun h3 => ?_)
      · skip
        have h3 : a1.toInt < 0 := s_ltI h3
        exact absurd trivial (by omega)
      · skip
        have h3 : a1.toInt ≥ 0 := s_nltI h3
        refine PW.iload_n q_167_5 rfl ?_
        refine PW.iload_n q_167_6 rfl ?_
        refine PW.icmp_gt q_167_7 rfl (fun h4 => ?_) (fun h4 => ?_)
        · skip
          have h4 : a1.toInt > (-1) := s_gtI h4
          refine PW.iconst q_167_14 ?_
          refine PW.zret q_167_15 rfl (by decide) (by decide) (by decide) ?_
          refine PW.zret q_197_13 rfl (by decide) (by decide) (by decide) ?_
          refine PW.if_eq q_228_10 rfl (fun _ => ?_) (fun q => absurd (by decide) q)
          refine PW.iconst q_228_23 ?_
          refine PW.iret q_228_24 rfl (by decide) (by decide) ?_
          refine PW.icmp_eq q_285_819 rfl (fun _ => ?_) (fun q => absurd (by decide) q)
          exact law_tail G hL _
        · skip
          have h4 : a1.toInt ≤ (-1) := s_ngtI h4
          exact absurd trivial (by omega)
    · skip
      have h2 : a1.toInt < 0 := s_ngeI h2
      exact absurd trivial (by omega)
set_option maxRecDepth 100000 in
set_option maxHeartbeats 40000000 in
theorem law_next (G : pG) (hL : G.2.2.2.2.1 = 6) (a1 a2 a3 a4 a5 : Int32) (e1 : G.2.2.2.2.2 1 = a1) (e2 : G.2.2.2.2.2 2 = a2) (e3 : G.2.2.2.2.2 3 = a3) (e4 : G.2.2.2.2.2 4 = a4) (e5 : G.2.2.2.2.2 5 = a5) : PW G false 22 285 400 9000 law_K 824 law_lv [] 311 f_M 311 8628 := by
  refine PW.aload_n q_285_824 rfl ?_
  refine PW.aload_n q_285_825 rfl ?_
  refine PW.iload q_285_826 rfl ?_
  refine PW.iconst q_285_828 ?_
  refine PW.iadd q_285_829 ?_
  refine PW.sldE q_285_830 (by rw [hL]; unfold vp_in; decide) e1 ?_
  refine PW.callV (as := [_]) (rest := []) q_285_831 rfl (by decide) rfl (by decide) rfl rfl (Nat.le_of_ble_eq_true rfl) (Nat.le_of_ble_eq_true rfl) (by decide) (by decide) ?_
  refine PW.aload_n q_130_0 rfl ?_
  refine PW.iload_n q_130_1 rfl ?_
  refine PW.callV (as := [_]) (rest := []) q_130_2 rfl (by decide) rfl (by decide) rfl rfl (Nat.le_of_ble_eq_true rfl) (Nat.le_of_ble_eq_true rfl) (by decide) (by decide) ?_
  refine PW.iload_n q_144_0 rfl ?_
  refine PW.if_lt q_144_1 rfl (fun h0 => ?_) (fun h0 => ?_)
  · skip
    have h0 : a1.toInt < 0 := s_ltI h0
    refine PW.iconst q_144_22 ?_
    refine PW.zret q_144_23 rfl (by decide) (by decide) (by decide) ?_
    refine PW.if_ne q_130_5 rfl (fun q => absurd (by decide) q) (fun _ => ?_)
    refine PW.iconst q_130_8 ?_
    refine PW.iret q_130_9 rfl (by decide) (by decide) ?_
    refine PW.aload_n q_285_834 rfl ?_
    refine PW.aload_n q_285_835 rfl ?_
    refine PW.iload q_285_836 rfl ?_
    refine PW.iconst q_285_838 ?_
    refine PW.iadd q_285_839 ?_
    refine PW.sldE q_285_840 (by rw [hL]; unfold vp_in; decide) e1 ?_
    refine PW.callV (as := [_]) (rest := [_]) q_285_841 rfl (by decide) rfl (by decide) rfl rfl (Nat.le_of_ble_eq_true rfl) (Nat.le_of_ble_eq_true rfl) (by decide) (by decide) ?_
    refine PW.aload_n q_229_0 rfl ?_
    refine PW.iconst q_229_1 ?_
    refine PW.putf q_229_2 rfl (by decide) rfl rfl rfl (by decide) ?_
    refine PW.aload_n q_229_5 rfl ?_
    refine PW.iload_n q_229_6 rfl ?_
    refine PW.callV (as := [_]) (rest := []) q_229_7 rfl (by decide) rfl (by decide) rfl rfl (Nat.le_of_ble_eq_true rfl) (Nat.le_of_ble_eq_true rfl) (by decide) (by decide) ?_
    refine PW.iload_n q_197_0 rfl ?_
    refine PW.iconst q_197_1 ?_
    refine PW.aload_n q_197_2 rfl ?_
    refine PW.getf q_197_3 rfl (by decide) rfl rfl ?_
    refine PW.iconst q_197_6 ?_
    refine PW.iald q_197_7 (by decide) rfl (by unfold vp_in; decide) ?_
    refine PW.iconst q_197_8 ?_
    refine PW.isub q_197_9 ?_
    refine PW.callS (as := [_, _, _]) (rest := []) q_197_10 rfl (by decide) rfl (Nat.le_of_ble_eq_true rfl) (Nat.le_of_ble_eq_true rfl) (by decide) (by decide) ?_
    refine PW.iload_n q_167_0 rfl ?_
    refine PW.iload_n q_167_1 rfl ?_
    refine PW.icmp_lt q_167_2 rfl (fun h1 => ?_) (fun h1 => ?_)
    · skip
      have h1 : a1.toInt < 0 := s_ltI h1
      refine PW.iconst q_167_14 ?_
      refine PW.zret q_167_15 rfl (by decide) (by decide) (by decide) ?_
      refine PW.zret q_197_13 rfl (by decide) (by decide) (by decide) ?_
      refine PW.if_eq q_229_10 rfl (fun _ => ?_) (fun q => absurd (by decide) q)
      refine PW.iconst q_229_21 ?_
      refine PW.iret q_229_22 rfl (by decide) (by decide) ?_
      refine PW.icmp_eq q_285_844 rfl (fun _ => ?_) (fun q => absurd (by decide) q)
      exact law_tail G hL _
    · skip
      have h1 : a1.toInt ≥ 0 := s_nltI h1
      exact absurd trivial (by omega)
  · skip
    have h0 : a1.toInt ≥ 0 := s_nltI h0
    refine PW.iload_n q_144_4 rfl ?_
    refine PW.aload_n q_144_5 rfl ?_
    refine PW.getf q_144_6 rfl (by decide) rfl rfl ?_
    refine PW.getN q_144_9 rfl (by decide) rfl rfl ?_
    refine PW.getN q_144_12 rfl (by decide) rfl rfl ?_
    refine PW.icmp_ge q_144_15 rfl (fun h2 => ?_) (fun h2 => ?_)
    · skip
      have h2 : a1.toInt ≥ 0 := s_geI h2
      refine PW.iconst q_144_22 ?_
      refine PW.zret q_144_23 rfl (by decide) (by decide) (by decide) ?_
      refine PW.if_ne q_130_5 rfl (fun q => absurd (by decide) q) (fun _ => ?_)
      refine PW.iconst q_130_8 ?_
      refine PW.iret q_130_9 rfl (by decide) (by decide) ?_
      refine PW.aload_n q_285_834 rfl ?_
      refine PW.aload_n q_285_835 rfl ?_
      refine PW.iload q_285_836 rfl ?_
      refine PW.iconst q_285_838 ?_
      refine PW.iadd q_285_839 ?_
      refine PW.sldE q_285_840 (by rw [hL]; unfold vp_in; decide) e1 ?_
      refine PW.callV (as := [_]) (rest := [_]) q_285_841 rfl (by decide) rfl (by decide) rfl rfl (Nat.le_of_ble_eq_true rfl) (Nat.le_of_ble_eq_true rfl) (by decide) (by decide) ?_
      refine PW.aload_n q_229_0 rfl ?_
      refine PW.iconst q_229_1 ?_
      refine PW.putf q_229_2 rfl (by decide) rfl rfl rfl (by decide) ?_
      refine PW.aload_n q_229_5 rfl ?_
      refine PW.iload_n q_229_6 rfl ?_
      refine PW.callV (as := [_]) (rest := []) q_229_7 rfl (by decide) rfl (by decide) rfl rfl (Nat.le_of_ble_eq_true rfl) (Nat.le_of_ble_eq_true rfl) (by decide) (by decide) ?_
      refine PW.iload_n q_197_0 rfl ?_
      refine PW.iconst q_197_1 ?_
      refine PW.aload_n q_197_2 rfl ?_
      refine PW.getf q_197_3 rfl (by decide) rfl rfl ?_
      refine PW.iconst q_197_6 ?_
      refine PW.iald q_197_7 (by decide) rfl (by unfold vp_in; decide) ?_
      refine PW.iconst q_197_8 ?_
      refine PW.isub q_197_9 ?_
      refine PW.callS (as := [_, _, _]) (rest := []) q_197_10 rfl (by decide) rfl (Nat.le_of_ble_eq_true rfl) (Nat.le_of_ble_eq_true rfl) (by decide) (by decide) ?_
      refine PW.iload_n q_167_0 rfl ?_
      refine PW.iload_n q_167_1 rfl ?_
      refine PW.icmp_lt q_167_2 rfl (fun h3 => ?_) (fun h3 => ?_)
      · skip
        have h3 : a1.toInt < 0 := s_ltI h3
        exact absurd trivial (by omega)
      · skip
        have h3 : a1.toInt ≥ 0 := s_nltI h3
        refine PW.iload_n q_167_5 rfl ?_
        refine PW.iload_n q_167_6 rfl ?_
        refine PW.icmp_gt q_167_7 rfl (fun h4 => ?_) (fun h4 => ?_)
        · skip
          have h4 : a1.toInt > (-1) := s_gtI h4
          refine PW.iconst q_167_14 ?_
          refine PW.zret q_167_15 rfl (by decide) (by decide) (by decide) ?_
          refine PW.zret q_197_13 rfl (by decide) (by decide) (by decide) ?_
          refine PW.if_eq q_229_10 rfl (fun _ => ?_) (fun q => absurd (by decide) q)
          refine PW.iconst q_229_21 ?_
          refine PW.iret q_229_22 rfl (by decide) (by decide) ?_
          refine PW.icmp_eq q_285_844 rfl (fun _ => ?_) (fun q => absurd (by decide) q)
          exact law_tail G hL _
        · skip
          have h4 : a1.toInt ≤ (-1) := s_ngtI h4
          exact absurd trivial (by omega)
    · skip
      have h2 : a1.toInt < 0 := s_ngeI h2
      exact absurd trivial (by omega)
set_option maxRecDepth 100000 in
set_option maxHeartbeats 40000000 in
theorem law_said (G : pG) (hL : G.2.2.2.2.1 = 6) (a1 a2 a3 a4 a5 : Int32) (e1 : G.2.2.2.2.2 1 = a1) (e2 : G.2.2.2.2.2 2 = a2) (e3 : G.2.2.2.2.2 3 = a3) (e4 : G.2.2.2.2.2 4 = a4) (e5 : G.2.2.2.2.2 5 = a5) : PW G false 22 285 400 9000 law_K 849 law_lv [] 311 f_M 311 8628 := by
  refine PW.aload_n q_285_849 rfl ?_
  refine PW.aload_n q_285_850 rfl ?_
  refine PW.iload q_285_851 rfl ?_
  refine PW.iconst q_285_853 ?_
  refine PW.iadd q_285_854 ?_
  refine PW.sldE q_285_855 (by rw [hL]; unfold vp_in; decide) e1 ?_
  refine PW.aload_n q_285_856 rfl ?_
  refine PW.iload q_285_857 rfl ?_
  refine PW.iconst q_285_859 ?_
  refine PW.iadd q_285_860 ?_
  refine PW.sldE q_285_861 (by rw [hL]; unfold vp_in; decide) e2 ?_
  refine PW.callV (as := [_, _]) (rest := []) q_285_862 rfl (by decide) rfl (by decide) rfl rfl (Nat.le_of_ble_eq_true rfl) (Nat.le_of_ble_eq_true rfl) (by decide) (by decide) ?_
  refine PW.aload_n q_113_0 rfl ?_
  refine PW.iload_n q_113_1 rfl ?_
  refine PW.callV (as := [_]) (rest := []) q_113_2 rfl (by decide) rfl (by decide) rfl rfl (Nat.le_of_ble_eq_true rfl) (Nat.le_of_ble_eq_true rfl) (by decide) (by decide) ?_
  refine PW.iload_n q_143_0 rfl ?_
  refine PW.if_lt q_143_1 rfl (fun h0 => ?_) (fun h0 => ?_)
  · skip
    have h0 : a1.toInt < 0 := s_ltI h0
    refine PW.iconst q_143_22 ?_
    refine PW.zret q_143_23 rfl (by decide) (by decide) (by decide) ?_
    refine PW.if_eq q_113_5 rfl (fun _ => ?_) (fun q => absurd (by decide) q)
    refine PW.iconst q_113_16 ?_
    refine PW.iret q_113_17 rfl (by decide) (by decide) ?_
    refine PW.aload_n q_285_865 rfl ?_
    refine PW.aload_n q_285_866 rfl ?_
    refine PW.iload q_285_867 rfl ?_
    refine PW.iconst q_285_869 ?_
    refine PW.iadd q_285_870 ?_
    refine PW.sldE q_285_871 (by rw [hL]; unfold vp_in; decide) e1 ?_
    refine PW.aload_n q_285_872 rfl ?_
    refine PW.iload q_285_873 rfl ?_
    refine PW.iconst q_285_875 ?_
    refine PW.iadd q_285_876 ?_
    refine PW.sldE q_285_877 (by rw [hL]; unfold vp_in; decide) e2 ?_
    refine PW.callV (as := [_, _]) (rest := [_]) q_285_878 rfl (by decide) rfl (by decide) rfl rfl (Nat.le_of_ble_eq_true rfl) (Nat.le_of_ble_eq_true rfl) (by decide) (by decide) ?_
    refine PW.aload_n q_230_0 rfl ?_
    refine PW.iconst q_230_1 ?_
    refine PW.putf q_230_2 rfl (by decide) rfl rfl rfl (by decide) ?_
    refine PW.aload_n q_230_5 rfl ?_
    refine PW.iload_n q_230_6 rfl ?_
    refine PW.callV (as := [_]) (rest := []) q_230_7 rfl (by decide) rfl (by decide) rfl rfl (Nat.le_of_ble_eq_true rfl) (Nat.le_of_ble_eq_true rfl) (by decide) (by decide) ?_
    refine PW.iload_n q_196_0 rfl ?_
    refine PW.iconst q_196_1 ?_
    refine PW.aload_n q_196_2 rfl ?_
    refine PW.getf q_196_3 rfl (by decide) rfl rfl ?_
    refine PW.iconst q_196_6 ?_
    refine PW.iald q_196_7 (by decide) rfl (by unfold vp_in; decide) ?_
    refine PW.iconst q_196_8 ?_
    refine PW.isub q_196_9 ?_
    refine PW.callS (as := [_, _, _]) (rest := []) q_196_10 rfl (by decide) rfl (Nat.le_of_ble_eq_true rfl) (Nat.le_of_ble_eq_true rfl) (by decide) (by decide) ?_
    refine PW.iload_n q_167_0 rfl ?_
    refine PW.iload_n q_167_1 rfl ?_
    refine PW.icmp_lt q_167_2 rfl (fun h1 => ?_) (fun h1 => ?_)
    · skip
      have h1 : a1.toInt < 0 := s_ltI h1
      refine PW.iconst q_167_14 ?_
      refine PW.zret q_167_15 rfl (by decide) (by decide) (by decide) ?_
      refine PW.zret q_196_13 rfl (by decide) (by decide) (by decide) ?_
      refine PW.if_eq q_230_10 rfl (fun _ => ?_) (fun q => absurd (by decide) q)
      refine PW.iconst q_230_38 ?_
      refine PW.iret q_230_39 rfl (by decide) (by decide) ?_
      refine PW.icmp_eq q_285_881 rfl (fun _ => ?_) (fun q => absurd (by decide) q)
      exact law_tail G hL _
    · skip
      have h1 : a1.toInt ≥ 0 := s_nltI h1
      exact absurd trivial (by omega)
  · skip
    have h0 : a1.toInt ≥ 0 := s_nltI h0
    refine PW.iload_n q_143_4 rfl ?_
    refine PW.aload_n q_143_5 rfl ?_
    refine PW.getf q_143_6 rfl (by decide) rfl rfl ?_
    refine PW.getN q_143_9 rfl (by decide) rfl rfl ?_
    refine PW.getN q_143_12 rfl (by decide) rfl rfl ?_
    refine PW.icmp_ge q_143_15 rfl (fun h2 => ?_) (fun h2 => ?_)
    · skip
      have h2 : a1.toInt ≥ 0 := s_geI h2
      refine PW.iconst q_143_22 ?_
      refine PW.zret q_143_23 rfl (by decide) (by decide) (by decide) ?_
      refine PW.if_eq q_113_5 rfl (fun _ => ?_) (fun q => absurd (by decide) q)
      refine PW.iconst q_113_16 ?_
      refine PW.iret q_113_17 rfl (by decide) (by decide) ?_
      refine PW.aload_n q_285_865 rfl ?_
      refine PW.aload_n q_285_866 rfl ?_
      refine PW.iload q_285_867 rfl ?_
      refine PW.iconst q_285_869 ?_
      refine PW.iadd q_285_870 ?_
      refine PW.sldE q_285_871 (by rw [hL]; unfold vp_in; decide) e1 ?_
      refine PW.aload_n q_285_872 rfl ?_
      refine PW.iload q_285_873 rfl ?_
      refine PW.iconst q_285_875 ?_
      refine PW.iadd q_285_876 ?_
      refine PW.sldE q_285_877 (by rw [hL]; unfold vp_in; decide) e2 ?_
      refine PW.callV (as := [_, _]) (rest := [_]) q_285_878 rfl (by decide) rfl (by decide) rfl rfl (Nat.le_of_ble_eq_true rfl) (Nat.le_of_ble_eq_true rfl) (by decide) (by decide) ?_
      refine PW.aload_n q_230_0 rfl ?_
      refine PW.iconst q_230_1 ?_
      refine PW.putf q_230_2 rfl (by decide) rfl rfl rfl (by decide) ?_
      refine PW.aload_n q_230_5 rfl ?_
      refine PW.iload_n q_230_6 rfl ?_
      refine PW.callV (as := [_]) (rest := []) q_230_7 rfl (by decide) rfl (by decide) rfl rfl (Nat.le_of_ble_eq_true rfl) (Nat.le_of_ble_eq_true rfl) (by decide) (by decide) ?_
      refine PW.iload_n q_196_0 rfl ?_
      refine PW.iconst q_196_1 ?_
      refine PW.aload_n q_196_2 rfl ?_
      refine PW.getf q_196_3 rfl (by decide) rfl rfl ?_
      refine PW.iconst q_196_6 ?_
      refine PW.iald q_196_7 (by decide) rfl (by unfold vp_in; decide) ?_
      refine PW.iconst q_196_8 ?_
      refine PW.isub q_196_9 ?_
      refine PW.callS (as := [_, _, _]) (rest := []) q_196_10 rfl (by decide) rfl (Nat.le_of_ble_eq_true rfl) (Nat.le_of_ble_eq_true rfl) (by decide) (by decide) ?_
      refine PW.iload_n q_167_0 rfl ?_
      refine PW.iload_n q_167_1 rfl ?_
      refine PW.icmp_lt q_167_2 rfl (fun h3 => ?_) (fun h3 => ?_)
      · skip
        have h3 : a1.toInt < 0 := s_ltI h3
        exact absurd trivial (by omega)
      · skip
        have h3 : a1.toInt ≥ 0 := s_nltI h3
        refine PW.iload_n q_167_5 rfl ?_
        refine PW.iload_n q_167_6 rfl ?_
        refine PW.icmp_gt q_167_7 rfl (fun h4 => ?_) (fun h4 => ?_)
        · skip
          have h4 : a1.toInt > (-1) := s_gtI h4
          refine PW.iconst q_167_14 ?_
          refine PW.zret q_167_15 rfl (by decide) (by decide) (by decide) ?_
          refine PW.zret q_196_13 rfl (by decide) (by decide) (by decide) ?_
          refine PW.if_eq q_230_10 rfl (fun _ => ?_) (fun q => absurd (by decide) q)
          refine PW.iconst q_230_38 ?_
          refine PW.iret q_230_39 rfl (by decide) (by decide) ?_
          refine PW.icmp_eq q_285_881 rfl (fun _ => ?_) (fun q => absurd (by decide) q)
          exact law_tail G hL _
        · skip
          have h4 : a1.toInt ≤ (-1) := s_ngtI h4
          exact absurd trivial (by omega)
    · skip
      have h2 : a1.toInt < 0 := s_ngeI h2
      exact absurd trivial (by omega)
