set_option maxRecDepth 100000 in
set_option maxHeartbeats 40000000 in
theorem law_end (G : pG) (hL : G.2.2.2.2.1 = 6) (a1 a2 a3 a4 a5 : Int32) (e1 : G.2.2.2.2.2 1 = a1) (e2 : G.2.2.2.2.2 2 = a2) (e3 : G.2.2.2.2.2 3 = a3) (e4 : G.2.2.2.2.2 4 = a4) (e5 : G.2.2.2.2.2 5 = a5) : PW G false 22 285 400 9000 law_K 301 law_lv [] 311 f_M 311 8628 := by
  refine PW.aload_n q_285_301 rfl ?_
  refine PW.aload_n q_285_302 rfl ?_
  refine PW.iload q_285_303 rfl ?_
  refine PW.iconst q_285_305 ?_
  refine PW.iadd q_285_306 ?_
  refine PW.sldE q_285_307 (by rw [hL]; unfold vp_in; decide) e1 ?_
  refine PW.callV (as := [_]) (rest := []) q_285_308 rfl (by decide) rfl (by decide) rfl rfl (Nat.le_of_ble_eq_true rfl) (Nat.le_of_ble_eq_true rfl) (by decide) (by decide) ?_
  refine PW.iload_n q_101_0 rfl ?_
  refine PW.if_lt q_101_1 rfl (fun h0 => ?_) (fun h0 => ?_)
  · skip
    have h0 : a1.toInt < 0 := s_ltI h0
    refine PW.iconst q_101_15 ?_
    refine PW.zret q_101_16 rfl (by decide) (by decide) (by decide) ?_
    refine PW.aload_n q_285_311 rfl ?_
    refine PW.aload_n q_285_312 rfl ?_
    refine PW.iload q_285_313 rfl ?_
    refine PW.iconst q_285_315 ?_
    refine PW.iadd q_285_316 ?_
    refine PW.sldE q_285_317 (by rw [hL]; unfold vp_in; decide) e1 ?_
    refine PW.callV (as := [_]) (rest := [_]) q_285_318 rfl (by decide) rfl (by decide) rfl rfl (Nat.le_of_ble_eq_true rfl) (Nat.le_of_ble_eq_true rfl) (by decide) (by decide) ?_
    refine PW.aload_n q_165_0 rfl ?_
    refine PW.iconst q_165_1 ?_
    refine PW.putf q_165_2 rfl (by decide) rfl rfl rfl (by decide) ?_
    refine PW.iload_n q_165_5 rfl ?_
    refine PW.if_lt q_165_6 rfl (fun h1 => ?_) (fun h1 => ?_)
    · skip
      have h1 : a1.toInt < 0 := s_ltI h1
      refine PW.iconst q_165_17 ?_
      refine PW.zret q_165_18 rfl (by decide) (by decide) (by decide) ?_
      refine PW.icmp_eq q_285_321 rfl (fun _ => ?_) (fun q => absurd (by decide) q)
      exact law_tail G hL _
    · skip
      have h1 : a1.toInt ≥ 0 := s_nltI h1
      exact absurd trivial (by omega)
  · skip
    have h0 : a1.toInt ≥ 0 := s_nltI h0
    refine PW.iload_n q_101_4 rfl ?_
    refine PW.aload_n q_101_5 rfl ?_
    refine PW.getf q_101_6 rfl (by decide) rfl rfl ?_
    refine PW.getN q_101_9 rfl (by decide) rfl rfl ?_
    refine PW.icmp_le q_101_12 rfl (fun h2 => ?_) (fun h2 => ?_)
    · skip
      have h2 : a1.toInt ≤ 0 := s_leI h2
      refine PW.aload_n q_101_17 rfl ?_
      refine PW.getf q_101_18 rfl (by decide) rfl rfl ?_
      refine PW.iload_n q_101_21 rfl ?_
      refine PW.putN q_101_22 rfl (by decide) rfl rfl rfl (by decide) ?_
      refine PW.iconst q_101_25 ?_
      refine PW.zret q_101_26 rfl (by decide) (by decide) (by decide) ?_
      refine PW.aload_n q_285_311 rfl ?_
      refine PW.aload_n q_285_312 rfl ?_
      refine PW.iload q_285_313 rfl ?_
      refine PW.iconst q_285_315 ?_
      refine PW.iadd q_285_316 ?_
      refine PW.sldE q_285_317 (by rw [hL]; unfold vp_in; decide) e1 ?_
      refine PW.callV (as := [_]) (rest := [_]) q_285_318 rfl (by decide) rfl (by decide) rfl rfl (Nat.le_of_ble_eq_true rfl) (Nat.le_of_ble_eq_true rfl) (by decide) (by decide) ?_
      refine PW.aload_n q_165_0 rfl ?_
      refine PW.iconst q_165_1 ?_
      refine PW.putf q_165_2 rfl (by decide) rfl rfl rfl (by decide) ?_
      refine PW.iload_n q_165_5 rfl ?_
      refine PW.if_lt q_165_6 rfl (fun h3 => ?_) (fun h3 => ?_)
      · skip
        have h3 : a1.toInt < 0 := s_ltI h3
        exact absurd trivial (by omega)
      · skip
        have h3 : a1.toInt ≥ 0 := s_nltI h3
        refine PW.iload_n q_165_9 rfl ?_
        refine PW.aload_n q_165_10 rfl ?_
        refine PW.getf q_165_11 rfl (by decide) rfl rfl ?_
        refine PW.icmp_le q_165_14 rfl (fun h4 => ?_) (fun h4 => ?_)
        · skip
          have h4 : a1.toInt ≤ 0 := s_leI h4
          refine PW.aload_n q_165_19 rfl ?_
          refine PW.iload_n q_165_20 rfl ?_
          refine PW.putf q_165_21 rfl (by decide) rfl rfl rfl (by decide) ?_
          refine PW.iconst q_165_24 ?_
          refine PW.zret q_165_25 rfl (by decide) (by decide) (by decide) ?_
          refine PW.icmp_eq q_285_321 rfl (fun _ => ?_) (fun q => absurd (by decide) q)
          exact law_tail G hL _
        · skip
          have h4 : a1.toInt > 0 := s_nleI h4
          exact absurd trivial (by omega)
    · skip
      have h2 : a1.toInt > 0 := s_nleI h2
      refine PW.iconst q_101_15 ?_
      refine PW.zret q_101_16 rfl (by decide) (by decide) (by decide) ?_
      refine PW.aload_n q_285_311 rfl ?_
      refine PW.aload_n q_285_312 rfl ?_
      refine PW.iload q_285_313 rfl ?_
      refine PW.iconst q_285_315 ?_
      refine PW.iadd q_285_316 ?_
      refine PW.sldE q_285_317 (by rw [hL]; unfold vp_in; decide) e1 ?_
      refine PW.callV (as := [_]) (rest := [_]) q_285_318 rfl (by decide) rfl (by decide) rfl rfl (Nat.le_of_ble_eq_true rfl) (Nat.le_of_ble_eq_true rfl) (by decide) (by decide) ?_
      refine PW.aload_n q_165_0 rfl ?_
      refine PW.iconst q_165_1 ?_
      refine PW.putf q_165_2 rfl (by decide) rfl rfl rfl (by decide) ?_
      refine PW.iload_n q_165_5 rfl ?_
      refine PW.if_lt q_165_6 rfl (fun h5 => ?_) (fun h5 => ?_)
      · skip
        have h5 : a1.toInt < 0 := s_ltI h5
        exact absurd trivial (by omega)
      · skip
        have h5 : a1.toInt ≥ 0 := s_nltI h5
        refine PW.iload_n q_165_9 rfl ?_
        refine PW.aload_n q_165_10 rfl ?_
        refine PW.getf q_165_11 rfl (by decide) rfl rfl ?_
        refine PW.icmp_le q_165_14 rfl (fun h6 => ?_) (fun h6 => ?_)
        · skip
          have h6 : a1.toInt ≤ 0 := s_leI h6
          exact absurd trivial (by omega)
        · skip
          have h6 : a1.toInt > 0 := s_nleI h6
          refine PW.iconst q_165_17 ?_
          refine PW.zret q_165_18 rfl (by decide) (by decide) (by decide) ?_
          refine PW.icmp_eq q_285_321 rfl (fun _ => ?_) (fun q => absurd (by decide) q)
          exact law_tail G hL _
set_option maxRecDepth 100000 in
set_option maxHeartbeats 40000000 in
theorem law_now (G : pG) (hL : G.2.2.2.2.1 = 6) (a1 a2 a3 a4 a5 : Int32) (e1 : G.2.2.2.2.2 1 = a1) (e2 : G.2.2.2.2.2 2 = a2) (e3 : G.2.2.2.2.2 3 = a3) (e4 : G.2.2.2.2.2 4 = a4) (e5 : G.2.2.2.2.2 5 = a5) : PW G false 22 285 400 9000 law_K 488 law_lv [] 311 f_M 311 8628 := by
  by_cases c0 : a1 = 0
  · subst c0
    refine PW.aload_n q_285_488 rfl ?_
    refine PW.aload_n q_285_489 rfl ?_
    refine PW.iload q_285_490 rfl ?_
    refine PW.iconst q_285_492 ?_
    refine PW.iadd q_285_493 ?_
    refine PW.sldE q_285_494 (by rw [hL]; unfold vp_in; decide) e1 ?_
    refine PW.callV (as := [_]) (rest := []) q_285_495 rfl (by decide) rfl (by decide) rfl rfl (Nat.le_of_ble_eq_true rfl) (Nat.le_of_ble_eq_true rfl) (by decide) (by decide) ?_
    refine PW.iload_n q_110_0 rfl ?_
    refine PW.tswI q_110_1 (by decide) (by decide) rfl rfl ?_
    refine PW.aload_n q_110_40 rfl ?_
    refine PW.getf q_110_41 rfl (by decide) rfl rfl ?_
    refine PW.getN q_110_44 rfl (by decide) rfl rfl ?_
    refine PW.getN q_110_47 rfl (by decide) rfl rfl ?_
    refine PW.iret q_110_50 rfl (by decide) (by decide) ?_
    refine PW.aload_n q_285_498 rfl ?_
    refine PW.aload_n q_285_499 rfl ?_
    refine PW.iload q_285_500 rfl ?_
    refine PW.iconst q_285_502 ?_
    refine PW.iadd q_285_503 ?_
    refine PW.sldE q_285_504 (by rw [hL]; unfold vp_in; decide) e1 ?_
    refine PW.callV (as := [_]) (rest := [_]) q_285_505 rfl (by decide) rfl (by decide) rfl rfl (Nat.le_of_ble_eq_true rfl) (Nat.le_of_ble_eq_true rfl) (by decide) (by decide) ?_
    refine PW.aload_n q_203_0 rfl ?_
    refine PW.iconst q_203_1 ?_
    refine PW.putf q_203_2 rfl (by decide) rfl rfl rfl (by decide) ?_
    refine PW.iconst q_203_5 ?_
    refine PW.istore_n q_203_6 (by decide) ?_
    refine PW.iconst q_203_7 ?_
    refine PW.istore_n q_203_8 (by decide) ?_
    refine PW.iload_n q_203_9 rfl ?_
    refine PW.aload_n q_203_10 rfl ?_
    refine PW.getf q_203_11 rfl (by decide) rfl rfl ?_
    refine PW.iconst q_203_14 ?_
    refine PW.iald q_203_15 (by decide) rfl (by unfold vp_in; decide) ?_
    refine PW.icmp_ge q_203_16 rfl (fun _ => ?_) (fun q => absurd (by decide) q)
    refine PW.iload_n q_203_39 rfl ?_
    refine PW.tswI q_203_40 (by decide) (by decide) rfl rfl ?_
    refine PW.aload_n q_203_80 rfl ?_
    refine PW.getf q_203_81 rfl (by decide) rfl rfl ?_
    refine PW.bipush q_203_84 ?_
    refine PW.iald q_203_86 (by decide) rfl (by unfold vp_in; decide) ?_
    refine PW.iret q_203_87 rfl (by decide) (by decide) ?_
    refine PW.icmp_eq q_285_508 rfl (fun _ => ?_) (fun q => absurd (by decide) q)
    exact law_tail G hL _
  have c0 : ¬ a1.toInt = 0 := s_neI c0
  by_cases c1 : a1 = 1
  · subst c1
    refine PW.aload_n q_285_488 rfl ?_
    refine PW.aload_n q_285_489 rfl ?_
    refine PW.iload q_285_490 rfl ?_
    refine PW.iconst q_285_492 ?_
    refine PW.iadd q_285_493 ?_
    refine PW.sldE q_285_494 (by rw [hL]; unfold vp_in; decide) e1 ?_
    refine PW.callV (as := [_]) (rest := []) q_285_495 rfl (by decide) rfl (by decide) rfl rfl (Nat.le_of_ble_eq_true rfl) (Nat.le_of_ble_eq_true rfl) (by decide) (by decide) ?_
    refine PW.iload_n q_110_0 rfl ?_
    refine PW.tswI q_110_1 (by decide) (by decide) rfl rfl ?_
    refine PW.aload_n q_110_51 rfl ?_
    refine PW.getf q_110_52 rfl (by decide) rfl rfl ?_
    refine PW.getN q_110_55 rfl (by decide) rfl rfl ?_
    refine PW.getN q_110_58 rfl (by decide) rfl rfl ?_
    refine PW.iret q_110_61 rfl (by decide) (by decide) ?_
    refine PW.aload_n q_285_498 rfl ?_
    refine PW.aload_n q_285_499 rfl ?_
    refine PW.iload q_285_500 rfl ?_
    refine PW.iconst q_285_502 ?_
    refine PW.iadd q_285_503 ?_
    refine PW.sldE q_285_504 (by rw [hL]; unfold vp_in; decide) e1 ?_
    refine PW.callV (as := [_]) (rest := [_]) q_285_505 rfl (by decide) rfl (by decide) rfl rfl (Nat.le_of_ble_eq_true rfl) (Nat.le_of_ble_eq_true rfl) (by decide) (by decide) ?_
    refine PW.aload_n q_203_0 rfl ?_
    refine PW.iconst q_203_1 ?_
    refine PW.putf q_203_2 rfl (by decide) rfl rfl rfl (by decide) ?_
    refine PW.iconst q_203_5 ?_
    refine PW.istore_n q_203_6 (by decide) ?_
    refine PW.iconst q_203_7 ?_
    refine PW.istore_n q_203_8 (by decide) ?_
    refine PW.iload_n q_203_9 rfl ?_
    refine PW.aload_n q_203_10 rfl ?_
    refine PW.getf q_203_11 rfl (by decide) rfl rfl ?_
    refine PW.iconst q_203_14 ?_
    refine PW.iald q_203_15 (by decide) rfl (by unfold vp_in; decide) ?_
    refine PW.icmp_ge q_203_16 rfl (fun _ => ?_) (fun q => absurd (by decide) q)
    refine PW.iload_n q_203_39 rfl ?_
    refine PW.tswI q_203_40 (by decide) (by decide) rfl rfl ?_
    refine PW.aload_n q_203_88 rfl ?_
    refine PW.getf q_203_89 rfl (by decide) rfl rfl ?_
    refine PW.bipush q_203_92 ?_
    refine PW.iald q_203_94 (by decide) rfl (by unfold vp_in; decide) ?_
    refine PW.iconst q_203_95 ?_
    refine PW.isub q_203_96 ?_
    refine PW.iret q_203_97 rfl (by decide) (by decide) ?_
    refine PW.icmp_eq q_285_508 rfl (fun _ => ?_) (fun q => absurd (by decide) q)
    exact law_tail G hL _
  have c1 : ¬ a1.toInt = 1 := s_neI c1
  by_cases c2 : a1 = 2
  · subst c2
    refine PW.aload_n q_285_488 rfl ?_
    refine PW.aload_n q_285_489 rfl ?_
    refine PW.iload q_285_490 rfl ?_
    refine PW.iconst q_285_492 ?_
    refine PW.iadd q_285_493 ?_
    refine PW.sldE q_285_494 (by rw [hL]; unfold vp_in; decide) e1 ?_
    refine PW.callV (as := [_]) (rest := []) q_285_495 rfl (by decide) rfl (by decide) rfl rfl (Nat.le_of_ble_eq_true rfl) (Nat.le_of_ble_eq_true rfl) (by decide) (by decide) ?_
    refine PW.iload_n q_110_0 rfl ?_
    refine PW.tswI q_110_1 (by decide) (by decide) rfl rfl ?_
    refine PW.aload_n q_110_62 rfl ?_
    refine PW.getf q_110_63 rfl (by decide) rfl rfl ?_
    refine PW.getN q_110_66 rfl (by decide) rfl rfl ?_
    refine PW.getN q_110_69 rfl (by decide) rfl rfl ?_
    refine PW.iret q_110_72 rfl (by decide) (by decide) ?_
    refine PW.aload_n q_285_498 rfl ?_
    refine PW.aload_n q_285_499 rfl ?_
    refine PW.iload q_285_500 rfl ?_
    refine PW.iconst q_285_502 ?_
    refine PW.iadd q_285_503 ?_
    refine PW.sldE q_285_504 (by rw [hL]; unfold vp_in; decide) e1 ?_
    refine PW.callV (as := [_]) (rest := [_]) q_285_505 rfl (by decide) rfl (by decide) rfl rfl (Nat.le_of_ble_eq_true rfl) (Nat.le_of_ble_eq_true rfl) (by decide) (by decide) ?_
    refine PW.aload_n q_203_0 rfl ?_
    refine PW.iconst q_203_1 ?_
    refine PW.putf q_203_2 rfl (by decide) rfl rfl rfl (by decide) ?_
    refine PW.iconst q_203_5 ?_
    refine PW.istore_n q_203_6 (by decide) ?_
    refine PW.iconst q_203_7 ?_
    refine PW.istore_n q_203_8 (by decide) ?_
    refine PW.iload_n q_203_9 rfl ?_
    refine PW.aload_n q_203_10 rfl ?_
    refine PW.getf q_203_11 rfl (by decide) rfl rfl ?_
    refine PW.iconst q_203_14 ?_
    refine PW.iald q_203_15 (by decide) rfl (by unfold vp_in; decide) ?_
    refine PW.icmp_ge q_203_16 rfl (fun _ => ?_) (fun q => absurd (by decide) q)
    refine PW.iload_n q_203_39 rfl ?_
    refine PW.tswI q_203_40 (by decide) (by decide) rfl rfl ?_
    refine PW.aload_n q_203_98 rfl ?_
    refine PW.getf q_203_99 rfl (by decide) rfl rfl ?_
    refine PW.bipush q_203_102 ?_
    refine PW.iald q_203_104 (by decide) rfl (by unfold vp_in; decide) ?_
    refine PW.iconst q_203_105 ?_
    refine PW.isub q_203_106 ?_
    refine PW.iret q_203_107 rfl (by decide) (by decide) ?_
    refine PW.icmp_eq q_285_508 rfl (fun _ => ?_) (fun q => absurd (by decide) q)
    exact law_tail G hL _
  have c2 : ¬ a1.toInt = 2 := s_neI c2
  by_cases c3 : a1 = 3
  · subst c3
    refine PW.aload_n q_285_488 rfl ?_
    refine PW.aload_n q_285_489 rfl ?_
    refine PW.iload q_285_490 rfl ?_
    refine PW.iconst q_285_492 ?_
    refine PW.iadd q_285_493 ?_
    refine PW.sldE q_285_494 (by rw [hL]; unfold vp_in; decide) e1 ?_
    refine PW.callV (as := [_]) (rest := []) q_285_495 rfl (by decide) rfl (by decide) rfl rfl (Nat.le_of_ble_eq_true rfl) (Nat.le_of_ble_eq_true rfl) (by decide) (by decide) ?_
    refine PW.iload_n q_110_0 rfl ?_
    refine PW.tswI q_110_1 (by decide) (by decide) rfl rfl ?_
    refine PW.aload_n q_110_73 rfl ?_
    refine PW.getf q_110_74 rfl (by decide) rfl rfl ?_
    refine PW.getN q_110_77 rfl (by decide) rfl rfl ?_
    refine PW.callV (as := []) (rest := []) q_110_80 rfl (by decide) rfl (by decide) rfl rfl (Nat.le_of_ble_eq_true rfl) (Nat.le_of_ble_eq_true rfl) (by decide) (by decide) ?_
    refine PW.iconst q_50_0 ?_
    refine PW.istore_n q_50_1 (by decide) ?_
    refine PW.iconst q_50_2 ?_
    refine PW.istore_n q_50_3 (by decide) ?_
    refine PW.iload_n q_50_4 rfl ?_
    refine PW.bipush q_50_5 ?_
    refine PW.icmp_ge q_50_7 rfl (fun q => absurd q (by decide)) (fun _ => ?_)
    refine PW.aload_n q_50_10 rfl ?_
    refine PW.getf q_50_11 rfl (by decide) rfl rfl ?_
    refine PW.iload_n q_50_14 rfl ?_
    refine PW.aald q_50_15 (by decide) rfl (by decide) (by decide) (by unfold vp_in; decide) ?_
    refine PW.getN q_50_16 rfl (by decide) rfl rfl ?_
    refine PW.if_eq q_50_19 rfl (fun _ => ?_) (fun q => absurd (by decide) q)
    refine PW.iinc q_50_28 rfl (by decide) ?_
    refine PW.goto q_50_31 rfl ?_
    refine PW.iload_n q_50_4 rfl ?_
    refine PW.bipush q_50_5 ?_
    refine PW.icmp_ge q_50_7 rfl (fun q => absurd q (by decide)) (fun _ => ?_)
    refine PW.aload_n q_50_10 rfl ?_
    refine PW.getf q_50_11 rfl (by decide) rfl rfl ?_
    refine PW.iload_n q_50_14 rfl ?_
    refine PW.aald q_50_15 (by decide) rfl (by decide) (by decide) (by unfold vp_in; decide) ?_
    refine PW.getN q_50_16 rfl (by decide) rfl rfl ?_
    refine PW.if_eq q_50_19 rfl (fun _ => ?_) (fun q => absurd (by decide) q)
    refine PW.iinc q_50_28 rfl (by decide) ?_
    refine PW.goto q_50_31 rfl ?_
    refine PW.iload_n q_50_4 rfl ?_
    refine PW.bipush q_50_5 ?_
    refine PW.icmp_ge q_50_7 rfl (fun q => absurd q (by decide)) (fun _ => ?_)
    refine PW.aload_n q_50_10 rfl ?_
    refine PW.getf q_50_11 rfl (by decide) rfl rfl ?_
    refine PW.iload_n q_50_14 rfl ?_
    refine PW.aald q_50_15 (by decide) rfl (by decide) (by decide) (by unfold vp_in; decide) ?_
    refine PW.getN q_50_16 rfl (by decide) rfl rfl ?_
    refine PW.if_eq q_50_19 rfl (fun _ => ?_) (fun q => absurd (by decide) q)
    refine PW.iinc q_50_28 rfl (by decide) ?_
    refine PW.goto q_50_31 rfl ?_
    refine PW.iload_n q_50_4 rfl ?_
    refine PW.bipush q_50_5 ?_
    refine PW.icmp_ge q_50_7 rfl (fun q => absurd q (by decide)) (fun _ => ?_)
    refine PW.aload_n q_50_10 rfl ?_
    refine PW.getf q_50_11 rfl (by decide) rfl rfl ?_
    refine PW.iload_n q_50_14 rfl ?_
    refine PW.aald q_50_15 (by decide) rfl (by decide) (by decide) (by unfold vp_in; decide) ?_
    refine PW.getN q_50_16 rfl (by decide) rfl rfl ?_
    refine PW.if_eq q_50_19 rfl (fun _ => ?_) (fun q => absurd (by decide) q)
    refine PW.iinc q_50_28 rfl (by decide) ?_
    refine PW.goto q_50_31 rfl ?_
    refine PW.iload_n q_50_4 rfl ?_
    refine PW.bipush q_50_5 ?_
    refine PW.icmp_ge q_50_7 rfl (fun q => absurd q (by decide)) (fun _ => ?_)
    refine PW.aload_n q_50_10 rfl ?_
    refine PW.getf q_50_11 rfl (by decide) rfl rfl ?_
    refine PW.iload_n q_50_14 rfl ?_
    refine PW.aald q_50_15 (by decide) rfl (by decide) (by decide) (by unfold vp_in; decide) ?_
    refine PW.getN q_50_16 rfl (by decide) rfl rfl ?_
    refine PW.if_eq q_50_19 rfl (fun _ => ?_) (fun q => absurd (by decide) q)
    refine PW.iinc q_50_28 rfl (by decide) ?_
    refine PW.goto q_50_31 rfl ?_
    refine PW.iload_n q_50_4 rfl ?_
    refine PW.bipush q_50_5 ?_
    refine PW.icmp_ge q_50_7 rfl (fun q => absurd q (by decide)) (fun _ => ?_)
    refine PW.aload_n q_50_10 rfl ?_
    refine PW.getf q_50_11 rfl (by decide) rfl rfl ?_
    refine PW.iload_n q_50_14 rfl ?_
    refine PW.aald q_50_15 (by decide) rfl (by decide) (by decide) (by unfold vp_in; decide) ?_
    refine PW.getN q_50_16 rfl (by decide) rfl rfl ?_
    refine PW.if_eq q_50_19 rfl (fun _ => ?_) (fun q => absurd (by decide) q)
    refine PW.iinc q_50_28 rfl (by decide) ?_
    refine PW.goto q_50_31 rfl ?_
    refine PW.iload_n q_50_4 rfl ?_
    refine PW.bipush q_50_5 ?_
    refine PW.icmp_ge q_50_7 rfl (fun _ => ?_) (fun q => absurd (by decide) q)
    refine PW.iload_n q_50_34 rfl ?_
    refine PW.iret q_50_35 rfl (by decide) (by decide) ?_
    refine PW.iret q_110_83 rfl (by decide) (by decide) ?_
    refine PW.aload_n q_285_498 rfl ?_
    refine PW.aload_n q_285_499 rfl ?_
    refine PW.iload q_285_500 rfl ?_
    refine PW.iconst q_285_502 ?_
    refine PW.iadd q_285_503 ?_
    refine PW.sldE q_285_504 (by rw [hL]; unfold vp_in; decide) e1 ?_
    refine PW.callV (as := [_]) (rest := [_]) q_285_505 rfl (by decide) rfl (by decide) rfl rfl (Nat.le_of_ble_eq_true rfl) (Nat.le_of_ble_eq_true rfl) (by decide) (by decide) ?_
    refine PW.aload_n q_203_0 rfl ?_
    refine PW.iconst q_203_1 ?_
    refine PW.putf q_203_2 rfl (by decide) rfl rfl rfl (by decide) ?_
    refine PW.iconst q_203_5 ?_
    refine PW.istore_n q_203_6 (by decide) ?_
    refine PW.iconst q_203_7 ?_
    refine PW.istore_n q_203_8 (by decide) ?_
    refine PW.iload_n q_203_9 rfl ?_
    refine PW.aload_n q_203_10 rfl ?_
    refine PW.getf q_203_11 rfl (by decide) rfl rfl ?_
    refine PW.iconst q_203_14 ?_
    refine PW.iald q_203_15 (by decide) rfl (by unfold vp_in; decide) ?_
    refine PW.icmp_ge q_203_16 rfl (fun _ => ?_) (fun q => absurd (by decide) q)
    refine PW.iload_n q_203_39 rfl ?_
    refine PW.tswI q_203_40 (by decide) (by decide) rfl rfl ?_
    refine PW.aload_n q_203_108 rfl ?_
    refine PW.getf q_203_109 rfl (by decide) rfl rfl ?_
    refine PW.bipush q_203_112 ?_
    refine PW.iald q_203_114 (by decide) rfl (by unfold vp_in; decide) ?_
    refine PW.iret q_203_115 rfl (by decide) (by decide) ?_
    refine PW.icmp_eq q_285_508 rfl (fun _ => ?_) (fun q => absurd (by decide) q)
    exact law_tail G hL _
  have c3 : ¬ a1.toInt = 3 := s_neI c3
  by_cases c4 : a1 = 4
  · subst c4
    refine PW.aload_n q_285_488 rfl ?_
    refine PW.aload_n q_285_489 rfl ?_
    refine PW.iload q_285_490 rfl ?_
    refine PW.iconst q_285_492 ?_
    refine PW.iadd q_285_493 ?_
    refine PW.sldE q_285_494 (by rw [hL]; unfold vp_in; decide) e1 ?_
    refine PW.callV (as := [_]) (rest := []) q_285_495 rfl (by decide) rfl (by decide) rfl rfl (Nat.le_of_ble_eq_true rfl) (Nat.le_of_ble_eq_true rfl) (by decide) (by decide) ?_
    refine PW.iload_n q_110_0 rfl ?_
    refine PW.tswI q_110_1 (by decide) (by decide) rfl rfl ?_
    refine PW.aload_n q_110_84 rfl ?_
    refine PW.getf q_110_85 rfl (by decide) rfl rfl ?_
    refine PW.getN q_110_88 rfl (by decide) rfl rfl ?_
    refine PW.aload_n q_110_91 rfl ?_
    refine PW.getf q_110_92 rfl (by decide) rfl rfl ?_
    refine PW.getN q_110_95 rfl (by decide) rfl rfl ?_
    refine PW.getN q_110_98 rfl (by decide) rfl rfl ?_
    refine PW.callV (as := [_]) (rest := []) q_110_101 rfl (by decide) rfl (by decide) rfl rfl (Nat.le_of_ble_eq_true rfl) (Nat.le_of_ble_eq_true rfl) (by decide) (by decide) ?_
    refine PW.iconst q_51_0 ?_
    refine PW.istore_n q_51_1 (by decide) ?_
    refine PW.iconst q_51_2 ?_
    refine PW.istore_n q_51_3 (by decide) ?_
    refine PW.iload_n q_51_4 rfl ?_
    refine PW.iload_n q_51_5 rfl ?_
    refine PW.icmp_ge q_51_6 rfl (fun _ => ?_) (fun q => absurd (by decide) q)
    refine PW.iload_n q_51_33 rfl ?_
    refine PW.iret q_51_34 rfl (by decide) (by decide) ?_
    refine PW.iret q_110_104 rfl (by decide) (by decide) ?_
    refine PW.aload_n q_285_498 rfl ?_
    refine PW.aload_n q_285_499 rfl ?_
    refine PW.iload q_285_500 rfl ?_
    refine PW.iconst q_285_502 ?_
    refine PW.iadd q_285_503 ?_
    refine PW.sldE q_285_504 (by rw [hL]; unfold vp_in; decide) e1 ?_
    refine PW.callV (as := [_]) (rest := [_]) q_285_505 rfl (by decide) rfl (by decide) rfl rfl (Nat.le_of_ble_eq_true rfl) (Nat.le_of_ble_eq_true rfl) (by decide) (by decide) ?_
    refine PW.aload_n q_203_0 rfl ?_
    refine PW.iconst q_203_1 ?_
    refine PW.putf q_203_2 rfl (by decide) rfl rfl rfl (by decide) ?_
    refine PW.iconst q_203_5 ?_
    refine PW.istore_n q_203_6 (by decide) ?_
    refine PW.iconst q_203_7 ?_
    refine PW.istore_n q_203_8 (by decide) ?_
    refine PW.iload_n q_203_9 rfl ?_
    refine PW.aload_n q_203_10 rfl ?_
    refine PW.getf q_203_11 rfl (by decide) rfl rfl ?_
    refine PW.iconst q_203_14 ?_
    refine PW.iald q_203_15 (by decide) rfl (by unfold vp_in; decide) ?_
    refine PW.icmp_ge q_203_16 rfl (fun _ => ?_) (fun q => absurd (by decide) q)
    refine PW.iload_n q_203_39 rfl ?_
    refine PW.tswI q_203_40 (by decide) (by decide) rfl rfl ?_
    refine PW.iload_n q_203_116 rfl ?_
    refine PW.iret q_203_117 rfl (by decide) (by decide) ?_
    refine PW.icmp_eq q_285_508 rfl (fun _ => ?_) (fun q => absurd (by decide) q)
    exact law_tail G hL _
  have c4 : ¬ a1.toInt = 4 := s_neI c4
  by_cases c5 : a1 = 5
  · subst c5
    refine PW.aload_n q_285_488 rfl ?_
    refine PW.aload_n q_285_489 rfl ?_
    refine PW.iload q_285_490 rfl ?_
    refine PW.iconst q_285_492 ?_
    refine PW.iadd q_285_493 ?_
    refine PW.sldE q_285_494 (by rw [hL]; unfold vp_in; decide) e1 ?_
    refine PW.callV (as := [_]) (rest := []) q_285_495 rfl (by decide) rfl (by decide) rfl rfl (Nat.le_of_ble_eq_true rfl) (Nat.le_of_ble_eq_true rfl) (by decide) (by decide) ?_
    refine PW.iload_n q_110_0 rfl ?_
    refine PW.tswI q_110_1 (by decide) (by decide) rfl rfl ?_
    refine PW.aload_n q_110_105 rfl ?_
    refine PW.getf q_110_106 rfl (by decide) rfl rfl ?_
    refine PW.getN q_110_109 rfl (by decide) rfl rfl ?_
    refine PW.callV (as := []) (rest := []) q_110_112 rfl (by decide) rfl (by decide) rfl rfl (Nat.le_of_ble_eq_true rfl) (Nat.le_of_ble_eq_true rfl) (by decide) (by decide) ?_
    refine PW.iconst q_52_0 ?_
    refine PW.istore_n q_52_1 (by decide) ?_
    refine PW.iconst q_52_2 ?_
    refine PW.istore_n q_52_3 (by decide) ?_
    refine PW.iload_n q_52_4 rfl ?_
    refine PW.iconst q_52_5 ?_
    refine PW.icmp_ge q_52_6 rfl (fun q => absurd q (by decide)) (fun _ => ?_)
    refine PW.iload_n q_52_9 rfl ?_
    refine PW.aload_n q_52_10 rfl ?_
    refine PW.getf q_52_11 rfl (by decide) rfl rfl ?_
    refine PW.iload_n q_52_14 rfl ?_
    refine PW.aald q_52_15 (by decide) rfl (by decide) (by decide) (by unfold vp_in; decide) ?_
    refine PW.getN q_52_16 rfl (by decide) rfl rfl ?_
    refine PW.iadd q_52_19 ?_
    refine PW.istore_n q_52_20 (by decide) ?_
    refine PW.iinc q_52_21 rfl (by decide) ?_
    refine PW.goto q_52_24 rfl ?_
    refine PW.iload_n q_52_4 rfl ?_
    refine PW.iconst q_52_5 ?_
    refine PW.icmp_ge q_52_6 rfl (fun q => absurd q (by decide)) (fun _ => ?_)
    refine PW.iload_n q_52_9 rfl ?_
    refine PW.aload_n q_52_10 rfl ?_
    refine PW.getf q_52_11 rfl (by decide) rfl rfl ?_
    refine PW.iload_n q_52_14 rfl ?_
    refine PW.aald q_52_15 (by decide) rfl (by decide) (by decide) (by unfold vp_in; decide) ?_
    refine PW.getN q_52_16 rfl (by decide) rfl rfl ?_
    refine PW.iadd q_52_19 ?_
    refine PW.istore_n q_52_20 (by decide) ?_
    refine PW.iinc q_52_21 rfl (by decide) ?_
    refine PW.goto q_52_24 rfl ?_
    refine PW.iload_n q_52_4 rfl ?_
    refine PW.iconst q_52_5 ?_
    refine PW.icmp_ge q_52_6 rfl (fun _ => ?_) (fun q => absurd (by decide) q)
    refine PW.iload_n q_52_27 rfl ?_
    refine PW.iret q_52_28 rfl (by decide) (by decide) ?_
    refine PW.iret q_110_115 rfl (by decide) (by decide) ?_
    refine PW.aload_n q_285_498 rfl ?_
    refine PW.aload_n q_285_499 rfl ?_
    refine PW.iload q_285_500 rfl ?_
    refine PW.iconst q_285_502 ?_
    refine PW.iadd q_285_503 ?_
    refine PW.sldE q_285_504 (by rw [hL]; unfold vp_in; decide) e1 ?_
    refine PW.callV (as := [_]) (rest := [_]) q_285_505 rfl (by decide) rfl (by decide) rfl rfl (Nat.le_of_ble_eq_true rfl) (Nat.le_of_ble_eq_true rfl) (by decide) (by decide) ?_
    refine PW.aload_n q_203_0 rfl ?_
    refine PW.iconst q_203_1 ?_
    refine PW.putf q_203_2 rfl (by decide) rfl rfl rfl (by decide) ?_
    refine PW.iconst q_203_5 ?_
    refine PW.istore_n q_203_6 (by decide) ?_
    refine PW.iconst q_203_7 ?_
    refine PW.istore_n q_203_8 (by decide) ?_
    refine PW.iload_n q_203_9 rfl ?_
    refine PW.aload_n q_203_10 rfl ?_
    refine PW.getf q_203_11 rfl (by decide) rfl rfl ?_
    refine PW.iconst q_203_14 ?_
    refine PW.iald q_203_15 (by decide) rfl (by unfold vp_in; decide) ?_
    refine PW.icmp_ge q_203_16 rfl (fun _ => ?_) (fun q => absurd (by decide) q)
    refine PW.iload_n q_203_39 rfl ?_
    refine PW.tswI q_203_40 (by decide) (by decide) rfl rfl ?_
    refine PW.aload_n q_203_118 rfl ?_
    refine PW.callV (as := []) (rest := []) q_203_119 rfl (by decide) rfl (by decide) rfl rfl (Nat.le_of_ble_eq_true rfl) (Nat.le_of_ble_eq_true rfl) (by decide) (by decide) ?_
    refine PW.aload_n q_202_0 rfl ?_
    refine PW.getf q_202_1 rfl (by decide) rfl rfl ?_
    refine PW.bipush q_202_4 ?_
    refine PW.iald q_202_6 (by decide) rfl (by unfold vp_in; decide) ?_
    refine PW.aload_n q_202_7 rfl ?_
    refine PW.getf q_202_8 rfl (by decide) rfl rfl ?_
    refine PW.bipush q_202_11 ?_
    refine PW.iald q_202_13 (by decide) rfl (by unfold vp_in; decide) ?_
    refine PW.iadd q_202_14 ?_
    refine PW.iret q_202_15 rfl (by decide) (by decide) ?_
    refine PW.iret q_203_122 rfl (by decide) (by decide) ?_
    refine PW.icmp_eq q_285_508 rfl (fun _ => ?_) (fun q => absurd (by decide) q)
    exact law_tail G hL _
  have c5 : ¬ a1.toInt = 5 := s_neI c5
  refine PW.aload_n q_285_488 rfl ?_
  refine PW.aload_n q_285_489 rfl ?_
  refine PW.iload q_285_490 rfl ?_
  refine PW.iconst q_285_492 ?_
  refine PW.iadd q_285_493 ?_
  refine PW.sldE q_285_494 (by rw [hL]; unfold vp_in; decide) e1 ?_
  refine PW.callV (as := [_]) (rest := []) q_285_495 rfl (by decide) rfl (by decide) rfl rfl (Nat.le_of_ble_eq_true rfl) (Nat.le_of_ble_eq_true rfl) (by decide) (by decide) ?_
  refine PW.iload_n q_110_0 rfl ?_
  refine PW.tswO q_110_1 (by omega) rfl ?_
  refine PW.iconst q_110_116 ?_
  refine PW.iret q_110_117 rfl (by decide) (by decide) ?_
  refine PW.aload_n q_285_498 rfl ?_
  refine PW.aload_n q_285_499 rfl ?_
  refine PW.iload q_285_500 rfl ?_
  refine PW.iconst q_285_502 ?_
  refine PW.iadd q_285_503 ?_
  refine PW.sldE q_285_504 (by rw [hL]; unfold vp_in; decide) e1 ?_
  refine PW.callV (as := [_]) (rest := [_]) q_285_505 rfl (by decide) rfl (by decide) rfl rfl (Nat.le_of_ble_eq_true rfl) (Nat.le_of_ble_eq_true rfl) (by decide) (by decide) ?_
  refine PW.aload_n q_203_0 rfl ?_
  refine PW.iconst q_203_1 ?_
  refine PW.putf q_203_2 rfl (by decide) rfl rfl rfl (by decide) ?_
  refine PW.iconst q_203_5 ?_
  refine PW.istore_n q_203_6 (by decide) ?_
  refine PW.iconst q_203_7 ?_
  refine PW.istore_n q_203_8 (by decide) ?_
  refine PW.iload_n q_203_9 rfl ?_
  refine PW.aload_n q_203_10 rfl ?_
  refine PW.getf q_203_11 rfl (by decide) rfl rfl ?_
  refine PW.iconst q_203_14 ?_
  refine PW.iald q_203_15 (by decide) rfl (by unfold vp_in; decide) ?_
  refine PW.icmp_ge q_203_16 rfl (fun _ => ?_) (fun q => absurd (by decide) q)
  refine PW.iload_n q_203_39 rfl ?_
  refine PW.tswO q_203_40 (by omega) rfl ?_
  refine PW.iconst q_203_123 ?_
  refine PW.iret q_203_124 rfl (by decide) (by decide) ?_
  refine PW.icmp_eq q_285_508 rfl (fun _ => ?_) (fun q => absurd (by decide) q)
  exact law_tail G hL _
