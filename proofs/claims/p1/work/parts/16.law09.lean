set_option maxRecDepth 100000 in
set_option maxHeartbeats 40000000 in
theorem law_count (G : pG) (hL : G.2.2.2.2.1 = 6) (a1 a2 a3 a4 a5 : Int32) (e1 : G.2.2.2.2.2 1 = a1) (e2 : G.2.2.2.2.2 2 = a2) (e3 : G.2.2.2.2.2 3 = a3) (e4 : G.2.2.2.2.2 4 = a4) (e5 : G.2.2.2.2.2 5 = a5) : PW G false 22 285 400 9000 law_K 1660 law_lv [] 311 f_M 311 8628 := by
  by_cases c0 : a1 = 0
  · subst c0
    refine PW.aload_n q_285_1660 rfl ?_
    refine PW.aload_n q_285_1661 rfl ?_
    refine PW.iload q_285_1662 rfl ?_
    refine PW.iconst q_285_1664 ?_
    refine PW.iadd q_285_1665 ?_
    refine PW.sldE q_285_1666 (by rw [hL]; unfold vp_in; decide) e1 ?_
    refine PW.callV (as := [_]) (rest := []) q_285_1667 rfl (by decide) rfl (by decide) rfl rfl (Nat.le_of_ble_eq_true rfl) (Nat.le_of_ble_eq_true rfl) (by decide) (by decide) ?_
    refine PW.iload_n q_111_0 rfl ?_
    refine PW.tswI q_111_1 (by decide) (by decide) rfl rfl ?_
    refine PW.aload_n q_111_40 rfl ?_
    refine PW.getf q_111_41 rfl (by decide) rfl rfl ?_
    refine PW.getN q_111_44 rfl (by decide) rfl rfl ?_
    refine PW.getN q_111_47 rfl (by decide) rfl rfl ?_
    refine PW.iret q_111_50 rfl (by decide) (by decide) ?_
    refine PW.aload_n q_285_1670 rfl ?_
    refine PW.aload_n q_285_1671 rfl ?_
    refine PW.iload q_285_1672 rfl ?_
    refine PW.iconst q_285_1674 ?_
    refine PW.iadd q_285_1675 ?_
    refine PW.sldE q_285_1676 (by rw [hL]; unfold vp_in; decide) e1 ?_
    refine PW.callV (as := [_]) (rest := [_]) q_285_1677 rfl (by decide) rfl (by decide) rfl rfl (Nat.le_of_ble_eq_true rfl) (Nat.le_of_ble_eq_true rfl) (by decide) (by decide) ?_
    refine PW.aload_n q_275_0 rfl ?_
    refine PW.iconst q_275_1 ?_
    refine PW.putf q_275_2 rfl (by decide) rfl rfl rfl (by decide) ?_
    refine PW.iload_n q_275_5 rfl ?_
    refine PW.tswI q_275_6 (by decide) (by decide) rfl rfl ?_
    refine PW.aload_n q_275_44 rfl ?_
    refine PW.getf q_275_45 rfl (by decide) rfl rfl ?_
    refine PW.iconst q_275_48 ?_
    refine PW.iald q_275_49 (by decide) rfl (by unfold vp_in; decide) ?_
    refine PW.iret q_275_50 rfl (by decide) (by decide) ?_
    refine PW.icmp_eq q_285_1680 rfl (fun _ => ?_) (fun q => absurd (by decide) q)
    exact law_tail G hL _
  have c0 : ¬ a1.toInt = 0 := s_neI c0
  by_cases c1 : a1 = 1
  · subst c1
    refine PW.aload_n q_285_1660 rfl ?_
    refine PW.aload_n q_285_1661 rfl ?_
    refine PW.iload q_285_1662 rfl ?_
    refine PW.iconst q_285_1664 ?_
    refine PW.iadd q_285_1665 ?_
    refine PW.sldE q_285_1666 (by rw [hL]; unfold vp_in; decide) e1 ?_
    refine PW.callV (as := [_]) (rest := []) q_285_1667 rfl (by decide) rfl (by decide) rfl rfl (Nat.le_of_ble_eq_true rfl) (Nat.le_of_ble_eq_true rfl) (by decide) (by decide) ?_
    refine PW.iload_n q_111_0 rfl ?_
    refine PW.tswI q_111_1 (by decide) (by decide) rfl rfl ?_
    refine PW.aload_n q_111_51 rfl ?_
    refine PW.getf q_111_52 rfl (by decide) rfl rfl ?_
    refine PW.getN q_111_55 rfl (by decide) rfl rfl ?_
    refine PW.getN q_111_58 rfl (by decide) rfl rfl ?_
    refine PW.iret q_111_61 rfl (by decide) (by decide) ?_
    refine PW.aload_n q_285_1670 rfl ?_
    refine PW.aload_n q_285_1671 rfl ?_
    refine PW.iload q_285_1672 rfl ?_
    refine PW.iconst q_285_1674 ?_
    refine PW.iadd q_285_1675 ?_
    refine PW.sldE q_285_1676 (by rw [hL]; unfold vp_in; decide) e1 ?_
    refine PW.callV (as := [_]) (rest := [_]) q_285_1677 rfl (by decide) rfl (by decide) rfl rfl (Nat.le_of_ble_eq_true rfl) (Nat.le_of_ble_eq_true rfl) (by decide) (by decide) ?_
    refine PW.aload_n q_275_0 rfl ?_
    refine PW.iconst q_275_1 ?_
    refine PW.putf q_275_2 rfl (by decide) rfl rfl rfl (by decide) ?_
    refine PW.iload_n q_275_5 rfl ?_
    refine PW.tswI q_275_6 (by decide) (by decide) rfl rfl ?_
    refine PW.aload_n q_275_51 rfl ?_
    refine PW.getf q_275_52 rfl (by decide) rfl rfl ?_
    refine PW.iconst q_275_55 ?_
    refine PW.iald q_275_56 (by decide) rfl (by unfold vp_in; decide) ?_
    refine PW.iret q_275_57 rfl (by decide) (by decide) ?_
    refine PW.icmp_eq q_285_1680 rfl (fun _ => ?_) (fun q => absurd (by decide) q)
    exact law_tail G hL _
  have c1 : ¬ a1.toInt = 1 := s_neI c1
  by_cases c2 : a1 = 2
  · subst c2
    refine PW.aload_n q_285_1660 rfl ?_
    refine PW.aload_n q_285_1661 rfl ?_
    refine PW.iload q_285_1662 rfl ?_
    refine PW.iconst q_285_1664 ?_
    refine PW.iadd q_285_1665 ?_
    refine PW.sldE q_285_1666 (by rw [hL]; unfold vp_in; decide) e1 ?_
    refine PW.callV (as := [_]) (rest := []) q_285_1667 rfl (by decide) rfl (by decide) rfl rfl (Nat.le_of_ble_eq_true rfl) (Nat.le_of_ble_eq_true rfl) (by decide) (by decide) ?_
    refine PW.iload_n q_111_0 rfl ?_
    refine PW.tswI q_111_1 (by decide) (by decide) rfl rfl ?_
    refine PW.aload_n q_111_62 rfl ?_
    refine PW.getf q_111_63 rfl (by decide) rfl rfl ?_
    refine PW.getN q_111_66 rfl (by decide) rfl rfl ?_
    refine PW.getN q_111_69 rfl (by decide) rfl rfl ?_
    refine PW.iret q_111_72 rfl (by decide) (by decide) ?_
    refine PW.aload_n q_285_1670 rfl ?_
    refine PW.aload_n q_285_1671 rfl ?_
    refine PW.iload q_285_1672 rfl ?_
    refine PW.iconst q_285_1674 ?_
    refine PW.iadd q_285_1675 ?_
    refine PW.sldE q_285_1676 (by rw [hL]; unfold vp_in; decide) e1 ?_
    refine PW.callV (as := [_]) (rest := [_]) q_285_1677 rfl (by decide) rfl (by decide) rfl rfl (Nat.le_of_ble_eq_true rfl) (Nat.le_of_ble_eq_true rfl) (by decide) (by decide) ?_
    refine PW.aload_n q_275_0 rfl ?_
    refine PW.iconst q_275_1 ?_
    refine PW.putf q_275_2 rfl (by decide) rfl rfl rfl (by decide) ?_
    refine PW.iload_n q_275_5 rfl ?_
    refine PW.tswI q_275_6 (by decide) (by decide) rfl rfl ?_
    refine PW.aload_n q_275_58 rfl ?_
    refine PW.getf q_275_59 rfl (by decide) rfl rfl ?_
    refine PW.iconst q_275_62 ?_
    refine PW.iald q_275_63 (by decide) rfl (by unfold vp_in; decide) ?_
    refine PW.iret q_275_64 rfl (by decide) (by decide) ?_
    refine PW.icmp_eq q_285_1680 rfl (fun _ => ?_) (fun q => absurd (by decide) q)
    exact law_tail G hL _
  have c2 : ¬ a1.toInt = 2 := s_neI c2
  by_cases c3 : a1 = 3
  · subst c3
    refine PW.aload_n q_285_1660 rfl ?_
    refine PW.aload_n q_285_1661 rfl ?_
    refine PW.iload q_285_1662 rfl ?_
    refine PW.iconst q_285_1664 ?_
    refine PW.iadd q_285_1665 ?_
    refine PW.sldE q_285_1666 (by rw [hL]; unfold vp_in; decide) e1 ?_
    refine PW.callV (as := [_]) (rest := []) q_285_1667 rfl (by decide) rfl (by decide) rfl rfl (Nat.le_of_ble_eq_true rfl) (Nat.le_of_ble_eq_true rfl) (by decide) (by decide) ?_
    refine PW.iload_n q_111_0 rfl ?_
    refine PW.tswI q_111_1 (by decide) (by decide) rfl rfl ?_
    refine PW.aload_n q_111_73 rfl ?_
    refine PW.getf q_111_74 rfl (by decide) rfl rfl ?_
    refine PW.getN q_111_77 rfl (by decide) rfl rfl ?_
    refine PW.getN q_111_80 rfl (by decide) rfl rfl ?_
    refine PW.iret q_111_83 rfl (by decide) (by decide) ?_
    refine PW.aload_n q_285_1670 rfl ?_
    refine PW.aload_n q_285_1671 rfl ?_
    refine PW.iload q_285_1672 rfl ?_
    refine PW.iconst q_285_1674 ?_
    refine PW.iadd q_285_1675 ?_
    refine PW.sldE q_285_1676 (by rw [hL]; unfold vp_in; decide) e1 ?_
    refine PW.callV (as := [_]) (rest := [_]) q_285_1677 rfl (by decide) rfl (by decide) rfl rfl (Nat.le_of_ble_eq_true rfl) (Nat.le_of_ble_eq_true rfl) (by decide) (by decide) ?_
    refine PW.aload_n q_275_0 rfl ?_
    refine PW.iconst q_275_1 ?_
    refine PW.putf q_275_2 rfl (by decide) rfl rfl rfl (by decide) ?_
    refine PW.iload_n q_275_5 rfl ?_
    refine PW.tswI q_275_6 (by decide) (by decide) rfl rfl ?_
    refine PW.aload_n q_275_65 rfl ?_
    refine PW.getf q_275_66 rfl (by decide) rfl rfl ?_
    refine PW.iconst q_275_69 ?_
    refine PW.iald q_275_70 (by decide) rfl (by unfold vp_in; decide) ?_
    refine PW.iret q_275_71 rfl (by decide) (by decide) ?_
    refine PW.icmp_eq q_285_1680 rfl (fun _ => ?_) (fun q => absurd (by decide) q)
    exact law_tail G hL _
  have c3 : ¬ a1.toInt = 3 := s_neI c3
  by_cases c4 : a1 = 4
  · subst c4
    refine PW.aload_n q_285_1660 rfl ?_
    refine PW.aload_n q_285_1661 rfl ?_
    refine PW.iload q_285_1662 rfl ?_
    refine PW.iconst q_285_1664 ?_
    refine PW.iadd q_285_1665 ?_
    refine PW.sldE q_285_1666 (by rw [hL]; unfold vp_in; decide) e1 ?_
    refine PW.callV (as := [_]) (rest := []) q_285_1667 rfl (by decide) rfl (by decide) rfl rfl (Nat.le_of_ble_eq_true rfl) (Nat.le_of_ble_eq_true rfl) (by decide) (by decide) ?_
    refine PW.iload_n q_111_0 rfl ?_
    refine PW.tswI q_111_1 (by decide) (by decide) rfl rfl ?_
    refine PW.aload_n q_111_84 rfl ?_
    refine PW.getf q_111_85 rfl (by decide) rfl rfl ?_
    refine PW.getN q_111_88 rfl (by decide) rfl rfl ?_
    refine PW.getN q_111_91 rfl (by decide) rfl rfl ?_
    refine PW.iret q_111_94 rfl (by decide) (by decide) ?_
    refine PW.aload_n q_285_1670 rfl ?_
    refine PW.aload_n q_285_1671 rfl ?_
    refine PW.iload q_285_1672 rfl ?_
    refine PW.iconst q_285_1674 ?_
    refine PW.iadd q_285_1675 ?_
    refine PW.sldE q_285_1676 (by rw [hL]; unfold vp_in; decide) e1 ?_
    refine PW.callV (as := [_]) (rest := [_]) q_285_1677 rfl (by decide) rfl (by decide) rfl rfl (Nat.le_of_ble_eq_true rfl) (Nat.le_of_ble_eq_true rfl) (by decide) (by decide) ?_
    refine PW.aload_n q_275_0 rfl ?_
    refine PW.iconst q_275_1 ?_
    refine PW.putf q_275_2 rfl (by decide) rfl rfl rfl (by decide) ?_
    refine PW.iload_n q_275_5 rfl ?_
    refine PW.tswI q_275_6 (by decide) (by decide) rfl rfl ?_
    refine PW.aload_n q_275_72 rfl ?_
    refine PW.getf q_275_73 rfl (by decide) rfl rfl ?_
    refine PW.iconst q_275_76 ?_
    refine PW.iald q_275_77 (by decide) rfl (by unfold vp_in; decide) ?_
    refine PW.if_ne q_275_78 rfl (fun q => absurd (by decide) q) (fun _ => ?_)
    refine PW.iconst q_275_81 ?_
    refine PW.goto q_275_82 rfl ?_
    refine PW.iret q_275_91 rfl (by decide) (by decide) ?_
    refine PW.icmp_eq q_285_1680 rfl (fun _ => ?_) (fun q => absurd (by decide) q)
    exact law_tail G hL _
  have c4 : ¬ a1.toInt = 4 := s_neI c4
  by_cases c5 : a1 = 5
  · subst c5
    refine PW.aload_n q_285_1660 rfl ?_
    refine PW.aload_n q_285_1661 rfl ?_
    refine PW.iload q_285_1662 rfl ?_
    refine PW.iconst q_285_1664 ?_
    refine PW.iadd q_285_1665 ?_
    refine PW.sldE q_285_1666 (by rw [hL]; unfold vp_in; decide) e1 ?_
    refine PW.callV (as := [_]) (rest := []) q_285_1667 rfl (by decide) rfl (by decide) rfl rfl (Nat.le_of_ble_eq_true rfl) (Nat.le_of_ble_eq_true rfl) (by decide) (by decide) ?_
    refine PW.iload_n q_111_0 rfl ?_
    refine PW.tswI q_111_1 (by decide) (by decide) rfl rfl ?_
    refine PW.aload_n q_111_95 rfl ?_
    refine PW.getf q_111_96 rfl (by decide) rfl rfl ?_
    refine PW.getN q_111_99 rfl (by decide) rfl rfl ?_
    refine PW.iret q_111_102 rfl (by decide) (by decide) ?_
    refine PW.aload_n q_285_1670 rfl ?_
    refine PW.aload_n q_285_1671 rfl ?_
    refine PW.iload q_285_1672 rfl ?_
    refine PW.iconst q_285_1674 ?_
    refine PW.iadd q_285_1675 ?_
    refine PW.sldE q_285_1676 (by rw [hL]; unfold vp_in; decide) e1 ?_
    refine PW.callV (as := [_]) (rest := [_]) q_285_1677 rfl (by decide) rfl (by decide) rfl rfl (Nat.le_of_ble_eq_true rfl) (Nat.le_of_ble_eq_true rfl) (by decide) (by decide) ?_
    refine PW.aload_n q_275_0 rfl ?_
    refine PW.iconst q_275_1 ?_
    refine PW.putf q_275_2 rfl (by decide) rfl rfl rfl (by decide) ?_
    refine PW.iload_n q_275_5 rfl ?_
    refine PW.tswI q_275_6 (by decide) (by decide) rfl rfl ?_
    refine PW.aload_n q_275_92 rfl ?_
    refine PW.getf q_275_93 rfl (by decide) rfl rfl ?_
    refine PW.iret q_275_96 rfl (by decide) (by decide) ?_
    refine PW.icmp_eq q_285_1680 rfl (fun _ => ?_) (fun q => absurd (by decide) q)
    exact law_tail G hL _
  have c5 : ¬ a1.toInt = 5 := s_neI c5
  refine PW.aload_n q_285_1660 rfl ?_
  refine PW.aload_n q_285_1661 rfl ?_
  refine PW.iload q_285_1662 rfl ?_
  refine PW.iconst q_285_1664 ?_
  refine PW.iadd q_285_1665 ?_
  refine PW.sldE q_285_1666 (by rw [hL]; unfold vp_in; decide) e1 ?_
  refine PW.callV (as := [_]) (rest := []) q_285_1667 rfl (by decide) rfl (by decide) rfl rfl (Nat.le_of_ble_eq_true rfl) (Nat.le_of_ble_eq_true rfl) (by decide) (by decide) ?_
  refine PW.iload_n q_111_0 rfl ?_
  refine PW.tswO q_111_1 (by omega) rfl ?_
  refine PW.iconst q_111_103 ?_
  refine PW.iret q_111_104 rfl (by decide) (by decide) ?_
  refine PW.aload_n q_285_1670 rfl ?_
  refine PW.aload_n q_285_1671 rfl ?_
  refine PW.iload q_285_1672 rfl ?_
  refine PW.iconst q_285_1674 ?_
  refine PW.iadd q_285_1675 ?_
  refine PW.sldE q_285_1676 (by rw [hL]; unfold vp_in; decide) e1 ?_
  refine PW.callV (as := [_]) (rest := [_]) q_285_1677 rfl (by decide) rfl (by decide) rfl rfl (Nat.le_of_ble_eq_true rfl) (Nat.le_of_ble_eq_true rfl) (by decide) (by decide) ?_
  refine PW.aload_n q_275_0 rfl ?_
  refine PW.iconst q_275_1 ?_
  refine PW.putf q_275_2 rfl (by decide) rfl rfl rfl (by decide) ?_
  refine PW.iload_n q_275_5 rfl ?_
  refine PW.tswO q_275_6 (by omega) rfl ?_
  refine PW.iconst q_275_97 ?_
  refine PW.iret q_275_98 rfl (by decide) (by decide) ?_
  refine PW.icmp_eq q_285_1680 rfl (fun _ => ?_) (fun q => absurd (by decide) q)
  exact law_tail G hL _
set_option maxRecDepth 100000 in
set_option maxHeartbeats 40000000 in
theorem law_beach (G : pG) (hL : G.2.2.2.2.1 = 6) (a1 a2 a3 a4 a5 : Int32) (e1 : G.2.2.2.2.2 1 = a1) (e2 : G.2.2.2.2.2 2 = a2) (e3 : G.2.2.2.2.2 3 = a3) (e4 : G.2.2.2.2.2 4 = a4) (e5 : G.2.2.2.2.2 5 = a5) : PW G false 22 285 400 9000 law_K 326 law_lv [] 311 f_M 311 8628 := by
  refine PW.aload_n q_285_326 rfl ?_
  refine PW.callV (as := []) (rest := []) q_285_327 rfl (by decide) rfl (by decide) rfl rfl (Nat.le_of_ble_eq_true rfl) (Nat.le_of_ble_eq_true rfl) (by decide) (by decide) ?_
  refine PW.exD x_beach_ok ?_
  refine PW.mem2 (M2 := f_lo) (d_mix x_beach_ok) ?_
  refine PW.aload_n q_285_330 rfl ?_
  refine PW.callV (as := []) (rest := [_]) q_285_331 rfl (by decide) rfl (by decide) rfl rfl (Nat.le_of_ble_eq_true rfl) (Nat.le_of_ble_eq_true rfl) (by decide) (by decide) ?_
  refine PW.exD y_beach_ok ?_
  refine PW.icmp_eq q_285_334 rfl (fun _ => ?_) (fun q => absurd (by decide) q)
  exact law_tail G hL _
set_option maxRecDepth 100000 in
set_option maxHeartbeats 40000000 in
theorem law_fault (G : pG) (hL : G.2.2.2.2.1 = 6) (a1 a2 a3 a4 a5 : Int32) (e1 : G.2.2.2.2.2 1 = a1) (e2 : G.2.2.2.2.2 2 = a2) (e3 : G.2.2.2.2.2 3 = a3) (e4 : G.2.2.2.2.2 4 = a4) (e5 : G.2.2.2.2.2 5 = a5) : PW G false 22 285 400 9000 law_K 339 law_lv [] 311 f_M 311 8628 := by
  refine PW.aload_n q_285_339 rfl ?_
  refine PW.callV (as := []) (rest := []) q_285_340 rfl (by decide) rfl (by decide) rfl rfl (Nat.le_of_ble_eq_true rfl) (Nat.le_of_ble_eq_true rfl) (by decide) (by decide) ?_
  refine PW.exD x_fault_ok ?_
  refine PW.mem2 (M2 := f_lo) (d_mix x_fault_ok) ?_
  refine PW.aload_n q_285_343 rfl ?_
  refine PW.callV (as := []) (rest := [_]) q_285_344 rfl (by decide) rfl (by decide) rfl rfl (Nat.le_of_ble_eq_true rfl) (Nat.le_of_ble_eq_true rfl) (by decide) (by decide) ?_
  refine PW.exD y_fault_ok ?_
  refine PW.icmp_eq q_285_347 rfl (fun _ => ?_) (fun q => absurd (by decide) q)
  exact law_tail G hL _
set_option maxRecDepth 100000 in
set_option maxHeartbeats 40000000 in
theorem law_undo (G : pG) (hL : G.2.2.2.2.1 = 6) (a1 a2 a3 a4 a5 : Int32) (e1 : G.2.2.2.2.2 1 = a1) (e2 : G.2.2.2.2.2 2 = a2) (e3 : G.2.2.2.2.2 3 = a3) (e4 : G.2.2.2.2.2 4 = a4) (e5 : G.2.2.2.2.2 5 = a5) : PW G false 22 285 400 9000 law_K 663 law_lv [] 311 f_M 311 8628 := by
  refine PW.aload_n q_285_663 rfl ?_
  refine PW.callV (as := []) (rest := []) q_285_664 rfl (by decide) rfl (by decide) rfl rfl (Nat.le_of_ble_eq_true rfl) (Nat.le_of_ble_eq_true rfl) (by decide) (by decide) ?_
  refine PW.exD x_undo_ok ?_
  refine PW.mem2 (M2 := f_lo) (d_mix x_undo_ok) ?_
  refine PW.aload_n q_285_667 rfl ?_
  refine PW.callV (as := []) (rest := [_]) q_285_668 rfl (by decide) rfl (by decide) rfl rfl (Nat.le_of_ble_eq_true rfl) (Nat.le_of_ble_eq_true rfl) (by decide) (by decide) ?_
  refine PW.exD y_undo_ok ?_
  refine PW.icmp_eq q_285_671 rfl (fun _ => ?_) (fun q => absurd (by decide) q)
  exact law_tail G hL _
set_option maxRecDepth 100000 in
set_option maxHeartbeats 40000000 in
theorem law_dearest (G : pG) (hL : G.2.2.2.2.1 = 6) (a1 a2 a3 a4 a5 : Int32) (e1 : G.2.2.2.2.2 1 = a1) (e2 : G.2.2.2.2.2 2 = a2) (e3 : G.2.2.2.2.2 3 = a3) (e4 : G.2.2.2.2.2 4 = a4) (e5 : G.2.2.2.2.2 5 = a5) : PW G false 22 285 400 9000 law_K 886 law_lv [] 311 f_M 311 8628 := by
  refine PW.aload_n q_285_886 rfl ?_
  refine PW.callV (as := []) (rest := []) q_285_887 rfl (by decide) rfl (by decide) rfl rfl (Nat.le_of_ble_eq_true rfl) (Nat.le_of_ble_eq_true rfl) (by decide) (by decide) ?_
  refine PW.exD x_dearest_ok ?_
  refine PW.mem2 (M2 := f_lo) (d_mix x_dearest_ok) ?_
  refine PW.aload_n q_285_890 rfl ?_
  refine PW.callV (as := []) (rest := [_]) q_285_891 rfl (by decide) rfl (by decide) rfl rfl (Nat.le_of_ble_eq_true rfl) (Nat.le_of_ble_eq_true rfl) (by decide) (by decide) ?_
  refine PW.exD y_dearest_ok ?_
  refine PW.icmp_eq q_285_894 rfl (fun _ => ?_) (fun q => absurd (by decide) q)
  exact law_tail G hL _
set_option maxRecDepth 100000 in
set_option maxHeartbeats 40000000 in
theorem law_strays (G : pG) (hL : G.2.2.2.2.1 = 6) (a1 a2 a3 a4 a5 : Int32) (e1 : G.2.2.2.2.2 1 = a1) (e2 : G.2.2.2.2.2 2 = a2) (e3 : G.2.2.2.2.2 3 = a3) (e4 : G.2.2.2.2.2 4 = a4) (e5 : G.2.2.2.2.2 5 = a5) : PW G false 22 285 400 9000 law_K 1224 law_lv [] 311 f_M 311 8628 := by
  refine PW.aload_n q_285_1224 rfl ?_
  refine PW.callV (as := []) (rest := []) q_285_1225 rfl (by decide) rfl (by decide) rfl rfl (Nat.le_of_ble_eq_true rfl) (Nat.le_of_ble_eq_true rfl) (by decide) (by decide) ?_
  refine PW.exD x_strays_ok ?_
  refine PW.mem2 (M2 := f_lo) (d_mix x_strays_ok) ?_
  refine PW.aload_n q_285_1228 rfl ?_
  refine PW.callV (as := []) (rest := [_]) q_285_1229 rfl (by decide) rfl (by decide) rfl rfl (Nat.le_of_ble_eq_true rfl) (Nat.le_of_ble_eq_true rfl) (by decide) (by decide) ?_
  refine PW.exD y_strays_ok ?_
  refine PW.icmp_eq q_285_1232 rfl (fun _ => ?_) (fun q => absurd (by decide) q)
  exact law_tail G hL _
set_option maxRecDepth 100000 in
set_option maxHeartbeats 40000000 in
theorem law_prints (G : pG) (hL : G.2.2.2.2.1 = 6) (a1 a2 a3 a4 a5 : Int32) (e1 : G.2.2.2.2.2 1 = a1) (e2 : G.2.2.2.2.2 2 = a2) (e3 : G.2.2.2.2.2 3 = a3) (e4 : G.2.2.2.2.2 4 = a4) (e5 : G.2.2.2.2.2 5 = a5) : PW G false 22 285 400 9000 law_K 1311 law_lv [] 311 f_M 311 8628 := by
  refine PW.aload_n q_285_1311 rfl ?_
  refine PW.callV (as := []) (rest := []) q_285_1312 rfl (by decide) rfl (by decide) rfl rfl (Nat.le_of_ble_eq_true rfl) (Nat.le_of_ble_eq_true rfl) (by decide) (by decide) ?_
  refine PW.exD x_prints_ok ?_
  refine PW.mem2 (M2 := f_lo) (d_mix x_prints_ok) ?_
  refine PW.aload_n q_285_1315 rfl ?_
  refine PW.callV (as := []) (rest := [_]) q_285_1316 rfl (by decide) rfl (by decide) rfl rfl (Nat.le_of_ble_eq_true rfl) (Nat.le_of_ble_eq_true rfl) (by decide) (by decide) ?_
  refine PW.exD y_prints_ok ?_
  refine PW.icmp_eq q_285_1319 rfl (fun _ => ?_) (fun q => absurd (by decide) q)
  exact law_tail G hL _
set_option maxRecDepth 100000 in
set_option maxHeartbeats 40000000 in
theorem law_laws (G : pG) (hL : G.2.2.2.2.1 = 6) (a1 a2 a3 a4 a5 : Int32) (e1 : G.2.2.2.2.2 1 = a1) (e2 : G.2.2.2.2.2 2 = a2) (e3 : G.2.2.2.2.2 3 = a3) (e4 : G.2.2.2.2.2 4 = a4) (e5 : G.2.2.2.2.2 5 = a5) : PW G false 22 285 400 9000 law_K 1349 law_lv [] 311 f_M 311 8628 := by
  refine PW.aload_n q_285_1349 rfl ?_
  refine PW.callV (as := []) (rest := []) q_285_1350 rfl (by decide) rfl (by decide) rfl rfl (Nat.le_of_ble_eq_true rfl) (Nat.le_of_ble_eq_true rfl) (by decide) (by decide) ?_
  refine PW.exD x_laws_ok ?_
  refine PW.mem2 (M2 := f_lo) (d_mix x_laws_ok) ?_
  refine PW.aload_n q_285_1353 rfl ?_
  refine PW.callV (as := []) (rest := [_]) q_285_1354 rfl (by decide) rfl (by decide) rfl rfl (Nat.le_of_ble_eq_true rfl) (Nat.le_of_ble_eq_true rfl) (by decide) (by decide) ?_
  refine PW.exD y_laws_ok ?_
  refine PW.icmp_eq q_285_1357 rfl (fun _ => ?_) (fun q => absurd (by decide) q)
  exact law_tail G hL _
set_option maxRecDepth 100000 in
set_option maxHeartbeats 40000000 in
theorem law_log (G : pG) (hL : G.2.2.2.2.1 = 6) (a1 a2 a3 a4 a5 : Int32) (e1 : G.2.2.2.2.2 1 = a1) (e2 : G.2.2.2.2.2 2 = a2) (e3 : G.2.2.2.2.2 3 = a3) (e4 : G.2.2.2.2.2 4 = a4) (e5 : G.2.2.2.2.2 5 = a5) : PW G false 22 285 400 9000 law_K 1522 law_lv [] 311 f_M 311 8628 := by
  by_cases c0 : a1 = 0
  · subst c0
    refine PW.aload_n q_285_1522 rfl ?_
    refine PW.aload_n q_285_1523 rfl ?_
    refine PW.iload q_285_1524 rfl ?_
    refine PW.iconst q_285_1526 ?_
    refine PW.iadd q_285_1527 ?_
    refine PW.sldE q_285_1528 (by rw [hL]; unfold vp_in; decide) e1 ?_
    refine PW.callV (as := [_]) (rest := []) q_285_1529 rfl (by decide) rfl (by decide) rfl rfl (Nat.le_of_ble_eq_true rfl) (Nat.le_of_ble_eq_true rfl) (by decide) (by decide) ?_
    refine PW.exD x_log0_ok ?_
    refine PW.mem2 (M2 := f_lo) (d_mix x_log0_ok) ?_
    refine PW.aload_n q_285_1532 rfl ?_
    refine PW.aload_n q_285_1533 rfl ?_
    refine PW.iload q_285_1534 rfl ?_
    refine PW.iconst q_285_1536 ?_
    refine PW.iadd q_285_1537 ?_
    refine PW.sldE q_285_1538 (by rw [hL]; unfold vp_in; decide) e1 ?_
    refine PW.callV (as := [_]) (rest := [_]) q_285_1539 rfl (by decide) rfl (by decide) rfl rfl (Nat.le_of_ble_eq_true rfl) (Nat.le_of_ble_eq_true rfl) (by decide) (by decide) ?_
    refine PW.exD y_log0_ok ?_
    refine PW.icmp_eq q_285_1542 rfl (fun _ => ?_) (fun q => absurd (by decide) q)
    exact law_tail G hL _
  have c0 : ¬ a1.toInt = 0 := s_neI c0
  by_cases c1 : a1 = 1
  · subst c1
    refine PW.aload_n q_285_1522 rfl ?_
    refine PW.aload_n q_285_1523 rfl ?_
    refine PW.iload q_285_1524 rfl ?_
    refine PW.iconst q_285_1526 ?_
    refine PW.iadd q_285_1527 ?_
    refine PW.sldE q_285_1528 (by rw [hL]; unfold vp_in; decide) e1 ?_
    refine PW.callV (as := [_]) (rest := []) q_285_1529 rfl (by decide) rfl (by decide) rfl rfl (Nat.le_of_ble_eq_true rfl) (Nat.le_of_ble_eq_true rfl) (by decide) (by decide) ?_
    refine PW.exD x_log1_ok ?_
    refine PW.mem2 (M2 := f_lo) (d_mix x_log1_ok) ?_
    refine PW.aload_n q_285_1532 rfl ?_
    refine PW.aload_n q_285_1533 rfl ?_
    refine PW.iload q_285_1534 rfl ?_
    refine PW.iconst q_285_1536 ?_
    refine PW.iadd q_285_1537 ?_
    refine PW.sldE q_285_1538 (by rw [hL]; unfold vp_in; decide) e1 ?_
    refine PW.callV (as := [_]) (rest := [_]) q_285_1539 rfl (by decide) rfl (by decide) rfl rfl (Nat.le_of_ble_eq_true rfl) (Nat.le_of_ble_eq_true rfl) (by decide) (by decide) ?_
    refine PW.exD y_log1_ok ?_
    refine PW.icmp_eq q_285_1542 rfl (fun _ => ?_) (fun q => absurd (by decide) q)
    exact law_tail G hL _
  have c1 : ¬ a1.toInt = 1 := s_neI c1
  refine PW.aload_n q_285_1522 rfl ?_
  refine PW.aload_n q_285_1523 rfl ?_
  refine PW.iload q_285_1524 rfl ?_
  refine PW.iconst q_285_1526 ?_
  refine PW.iadd q_285_1527 ?_
  refine PW.sldE q_285_1528 (by rw [hL]; unfold vp_in; decide) e1 ?_
  refine PW.callV (as := [_]) (rest := []) q_285_1529 rfl (by decide) rfl (by decide) rfl rfl (Nat.le_of_ble_eq_true rfl) (Nat.le_of_ble_eq_true rfl) (by decide) (by decide) ?_
  refine PW.iload_n q_106_0 rfl ?_
  refine PW.if_eq q_106_1 rfl (fun h0 => ?_) (fun h0 => ?_)
  · skip
    have h0 : a1.toInt = 0 := s_eqI h0
    exact absurd trivial (by omega)
  · skip
    have h0 : ¬ a1.toInt = 0 := s_neI h0
    refine PW.iload_n q_106_4 rfl ?_
    refine PW.iconst q_106_5 ?_
    refine PW.icmp_eq q_106_6 rfl (fun h1 => ?_) (fun h1 => ?_)
    · skip
      have h1 : a1.toInt = 1 := s_eqI h1
      exact absurd trivial (by omega)
    · skip
      have h1 : ¬ a1.toInt = 1 := s_neI h1
      refine PW.sipush q_106_9 ?_
      refine PW.iret q_106_12 rfl (by decide) (by decide) ?_
      refine PW.aload_n q_285_1532 rfl ?_
      refine PW.aload_n q_285_1533 rfl ?_
      refine PW.iload q_285_1534 rfl ?_
      refine PW.iconst q_285_1536 ?_
      refine PW.iadd q_285_1537 ?_
      refine PW.sldE q_285_1538 (by rw [hL]; unfold vp_in; decide) e1 ?_
      refine PW.callV (as := [_]) (rest := [_]) q_285_1539 rfl (by decide) rfl (by decide) rfl rfl (Nat.le_of_ble_eq_true rfl) (Nat.le_of_ble_eq_true rfl) (by decide) (by decide) ?_
      refine PW.aload_n q_260_0 rfl ?_
      refine PW.iconst q_260_1 ?_
      refine PW.putf q_260_2 rfl (by decide) rfl rfl rfl (by decide) ?_
      refine PW.iload_n q_260_5 rfl ?_
      refine PW.iconst q_260_6 ?_
      refine PW.iconst q_260_7 ?_
      refine PW.callS (as := [_, _, _]) (rest := []) q_260_8 rfl (by decide) rfl (Nat.le_of_ble_eq_true rfl) (Nat.le_of_ble_eq_true rfl) (by decide) (by decide) ?_
      refine PW.iload_n q_167_0 rfl ?_
      refine PW.iload_n q_167_1 rfl ?_
      refine PW.icmp_lt q_167_2 rfl (fun h2 => ?_) (fun h2 => ?_)
      · skip
        have h2 : a1.toInt < 0 := s_ltI h2
        refine PW.iconst q_167_14 ?_
        refine PW.zret q_167_15 rfl (by decide) (by decide) (by decide) ?_
        refine PW.if_ne q_260_11 rfl (fun q => absurd (by decide) q) (fun _ => ?_)
        refine PW.sipush q_260_14 ?_
        refine PW.iret q_260_17 rfl (by decide) (by decide) ?_
        refine PW.icmp_eq q_285_1542 rfl (fun _ => ?_) (fun q => absurd (by decide) q)
        exact law_tail G hL _
      · skip
        have h2 : a1.toInt ≥ 0 := s_nltI h2
        refine PW.iload_n q_167_5 rfl ?_
        refine PW.iload_n q_167_6 rfl ?_
        refine PW.icmp_gt q_167_7 rfl (fun h3 => ?_) (fun h3 => ?_)
        · skip
          have h3 : a1.toInt > 1 := s_gtI h3
          refine PW.iconst q_167_14 ?_
          refine PW.zret q_167_15 rfl (by decide) (by decide) (by decide) ?_
          refine PW.if_ne q_260_11 rfl (fun q => absurd (by decide) q) (fun _ => ?_)
          refine PW.sipush q_260_14 ?_
          refine PW.iret q_260_17 rfl (by decide) (by decide) ?_
          refine PW.icmp_eq q_285_1542 rfl (fun _ => ?_) (fun q => absurd (by decide) q)
          exact law_tail G hL _
        · skip
          have h3 : a1.toInt ≤ 1 := s_ngtI h3
          exact absurd trivial (by omega)
