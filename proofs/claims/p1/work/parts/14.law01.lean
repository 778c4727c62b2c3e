set_option maxRecDepth 100000 in
set_option maxHeartbeats 40000000 in
theorem law_feed (G : pG) (hL : G.2.2.2.2.1 = 6) (a1 a2 a3 a4 a5 : Int32) (e1 : G.2.2.2.2.2 1 = a1) (e2 : G.2.2.2.2.2 2 = a2) (e3 : G.2.2.2.2.2 3 = a3) (e4 : G.2.2.2.2.2 4 = a4) (e5 : G.2.2.2.2.2 5 = a5) : PW G false 22 285 400 9000 law_K 228 law_lv [] 311 f_M 311 8628 := by
  refine PW.aload_n q_285_228 rfl ?_
  refine PW.aload_n q_285_229 rfl ?_
  refine PW.iload q_285_230 rfl ?_
  refine PW.iconst q_285_232 ?_
  refine PW.iadd q_285_233 ?_
  refine PW.sldE q_285_234 (by rw [hL]; unfold vp_in; decide) e1 ?_
  refine PW.aload_n q_285_235 rfl ?_
  refine PW.iload q_285_236 rfl ?_
  refine PW.iconst q_285_238 ?_
  refine PW.iadd q_285_239 ?_
  refine PW.sldE q_285_240 (by rw [hL]; unfold vp_in; decide) e2 ?_
  refine PW.aload_n q_285_241 rfl ?_
  refine PW.iload q_285_242 rfl ?_
  refine PW.iconst q_285_244 ?_
  refine PW.iadd q_285_245 ?_
  refine PW.sldE q_285_246 (by rw [hL]; unfold vp_in; decide) e3 ?_
  refine PW.aload_n q_285_247 rfl ?_
  refine PW.iload q_285_248 rfl ?_
  refine PW.iconst q_285_250 ?_
  refine PW.iadd q_285_251 ?_
  refine PW.sldE q_285_252 (by rw [hL]; unfold vp_in; decide) e4 ?_
  refine PW.aload_n q_285_253 rfl ?_
  refine PW.iload q_285_254 rfl ?_
  refine PW.iconst q_285_256 ?_
  refine PW.iadd q_285_257 ?_
  refine PW.sldE q_285_258 (by rw [hL]; unfold vp_in; decide) e5 ?_
  refine PW.callV (as := [_, _, _, _, _]) (rest := []) q_285_259 rfl (by decide) rfl (by decide) rfl rfl (Nat.le_of_ble_eq_true rfl) (Nat.le_of_ble_eq_true rfl) (by decide) (by decide) ?_
  refine PW.aload_n q_100_0 rfl ?_
  refine PW.getf q_100_1 rfl (by decide) rfl rfl ?_
  refine PW.getN q_100_4 rfl (by decide) rfl rfl ?_
  refine PW.bipush q_100_7 ?_
  refine PW.iadd q_100_9 ?_
  refine PW.sipush q_100_10 ?_
  refine PW.icmp_le q_100_13 rfl (fun _ => ?_) (fun q => absurd (by decide) q)
  refine PW.aload_n q_100_18 rfl ?_
  refine PW.getf q_100_19 rfl (by decide) rfl rfl ?_
  refine PW.iload_n q_100_22 rfl ?_
  refine PW.callV (as := [_]) (rest := []) q_100_23 rfl (by decide) rfl (by decide) rfl rfl (Nat.le_of_ble_eq_true rfl) (Nat.le_of_ble_eq_true rfl) (by decide) (by decide) ?_
  refine PW.bipush q_74_0 ?_
  refine PW.istore_n q_74_2 (by decide) ?_
  refine PW.iload_n q_74_3 rfl ?_
  refine PW.if_lt q_74_4 rfl (fun q => absurd q (by decide)) (fun _ => ?_)
  refine PW.aload_n q_74_7 rfl ?_
  refine PW.getf q_74_8 rfl (by decide) rfl rfl ?_
  refine PW.sipush q_74_11 ?_
  refine PW.icmp_ge q_74_14 rfl (fun q => absurd q (by decide)) (fun _ => ?_)
  refine PW.aload_n q_74_17 rfl ?_
  refine PW.getf q_74_18 rfl (by decide) rfl rfl ?_
  refine PW.aload_n q_74_21 rfl ?_
  refine PW.getf q_74_22 rfl (by decide) rfl rfl ?_
  refine PW.iload_n q_74_25 rfl ?_
  refine PW.iload_n q_74_26 rfl ?_
  refine PW.ishr q_74_27 ?_
  refine PW.i2b q_74_28 ?_
  refine PW.bast q_74_29 (by decide) rfl (by unfold vp_in; decide) ?_
  refine PW.aload_n q_74_30 rfl ?_
  refine PW.dup q_74_31 rfl ?_
  refine PW.getf q_74_32 rfl (by decide) rfl rfl ?_
  refine PW.iconst q_74_35 ?_
  refine PW.iadd q_74_36 ?_
  refine PW.putf q_74_37 rfl (by decide) rfl rfl rfl (by decide) ?_
  refine PW.iinc q_74_40 rfl (by decide) ?_
  refine PW.goto q_74_43 rfl ?_
  refine PW.iload_n q_74_3 rfl ?_
  refine PW.if_lt q_74_4 rfl (fun q => absurd q (by decide)) (fun _ => ?_)
  refine PW.aload_n q_74_7 rfl ?_
  refine PW.getf q_74_8 rfl (by decide) rfl rfl ?_
  refine PW.sipush q_74_11 ?_
  refine PW.icmp_ge q_74_14 rfl (fun q => absurd q (by decide)) (fun _ => ?_)
  refine PW.aload_n q_74_17 rfl ?_
  refine PW.getf q_74_18 rfl (by decide) rfl rfl ?_
  refine PW.aload_n q_74_21 rfl ?_
  refine PW.getf q_74_22 rfl (by decide) rfl rfl ?_
  refine PW.iload_n q_74_25 rfl ?_
  refine PW.iload_n q_74_26 rfl ?_
  refine PW.ishr q_74_27 ?_
  refine PW.i2b q_74_28 ?_
  refine PW.bast q_74_29 (by decide) rfl (by unfold vp_in; decide) ?_
  refine PW.aload_n q_74_30 rfl ?_
  refine PW.dup q_74_31 rfl ?_
  refine PW.getf q_74_32 rfl (by decide) rfl rfl ?_
  refine PW.iconst q_74_35 ?_
  refine PW.iadd q_74_36 ?_
  refine PW.putf q_74_37 rfl (by decide) rfl rfl rfl (by decide) ?_
  refine PW.iinc q_74_40 rfl (by decide) ?_
  refine PW.goto q_74_43 rfl ?_
  refine PW.iload_n q_74_3 rfl ?_
  refine PW.if_lt q_74_4 rfl (fun q => absurd q (by decide)) (fun _ => ?_)
  refine PW.aload_n q_74_7 rfl ?_
  refine PW.getf q_74_8 rfl (by decide) rfl rfl ?_
  refine PW.sipush q_74_11 ?_
  refine PW.icmp_ge q_74_14 rfl (fun q => absurd q (by decide)) (fun _ => ?_)
  refine PW.aload_n q_74_17 rfl ?_
  refine PW.getf q_74_18 rfl (by decide) rfl rfl ?_
  refine PW.aload_n q_74_21 rfl ?_
  refine PW.getf q_74_22 rfl (by decide) rfl rfl ?_
  refine PW.iload_n q_74_25 rfl ?_
  refine PW.iload_n q_74_26 rfl ?_
  refine PW.ishr q_74_27 ?_
  refine PW.i2b q_74_28 ?_
  refine PW.bast q_74_29 (by decide) rfl (by unfold vp_in; decide) ?_
  refine PW.aload_n q_74_30 rfl ?_
  refine PW.dup q_74_31 rfl ?_
  refine PW.getf q_74_32 rfl (by decide) rfl rfl ?_
  refine PW.iconst q_74_35 ?_
  refine PW.iadd q_74_36 ?_
  refine PW.putf q_74_37 rfl (by decide) rfl rfl rfl (by decide) ?_
  refine PW.iinc q_74_40 rfl (by decide) ?_
  refine PW.goto q_74_43 rfl ?_
  refine PW.iload_n q_74_3 rfl ?_
  refine PW.if_lt q_74_4 rfl (fun q => absurd q (by decide)) (fun _ => ?_)
  refine PW.aload_n q_74_7 rfl ?_
  refine PW.getf q_74_8 rfl (by decide) rfl rfl ?_
  refine PW.sipush q_74_11 ?_
  refine PW.icmp_ge q_74_14 rfl (fun q => absurd q (by decide)) (fun _ => ?_)
  refine PW.aload_n q_74_17 rfl ?_
  refine PW.getf q_74_18 rfl (by decide) rfl rfl ?_
  refine PW.aload_n q_74_21 rfl ?_
  refine PW.getf q_74_22 rfl (by decide) rfl rfl ?_
  refine PW.iload_n q_74_25 rfl ?_
  refine PW.iload_n q_74_26 rfl ?_
  refine PW.ishr q_74_27 ?_
  refine PW.i2b q_74_28 ?_
  refine PW.bast q_74_29 (by decide) rfl (by unfold vp_in; decide) ?_
  refine PW.aload_n q_74_30 rfl ?_
  refine PW.dup q_74_31 rfl ?_
  refine PW.getf q_74_32 rfl (by decide) rfl rfl ?_
  refine PW.iconst q_74_35 ?_
  refine PW.iadd q_74_36 ?_
  refine PW.putf q_74_37 rfl (by decide) rfl rfl rfl (by decide) ?_
  refine PW.iinc q_74_40 rfl (by decide) ?_
  refine PW.goto q_74_43 rfl ?_
  refine PW.iload_n q_74_3 rfl ?_
  refine PW.if_lt q_74_4 rfl (fun _ => ?_) (fun q => absurd (by decide) q)
  refine PW.vret q_74_46 rfl (by decide) (by decide) ?_
  refine PW.aload_n q_100_26 rfl ?_
  refine PW.getf q_100_27 rfl (by decide) rfl rfl ?_
  refine PW.iload_n q_100_30 rfl ?_
  refine PW.callV (as := [_]) (rest := []) q_100_31 rfl (by decide) rfl (by decide) rfl rfl (Nat.le_of_ble_eq_true rfl) (Nat.le_of_ble_eq_true rfl) (by decide) (by decide) ?_
  refine PW.bipush q_74_0 ?_
  refine PW.istore_n q_74_2 (by decide) ?_
  refine PW.iload_n q_74_3 rfl ?_
  refine PW.if_lt q_74_4 rfl (fun q => absurd q (by decide)) (fun _ => ?_)
  refine PW.aload_n q_74_7 rfl ?_
  refine PW.getf q_74_8 rfl (by decide) rfl rfl ?_
  refine PW.sipush q_74_11 ?_
  refine PW.icmp_ge q_74_14 rfl (fun q => absurd q (by decide)) (fun _ => ?_)
  refine PW.aload_n q_74_17 rfl ?_
  refine PW.getf q_74_18 rfl (by decide) rfl rfl ?_
  refine PW.aload_n q_74_21 rfl ?_
  refine PW.getf q_74_22 rfl (by decide) rfl rfl ?_
  refine PW.iload_n q_74_25 rfl ?_
  refine PW.iload_n q_74_26 rfl ?_
  refine PW.ishr q_74_27 ?_
  refine PW.i2b q_74_28 ?_
  refine PW.bast q_74_29 (by decide) rfl (by unfold vp_in; decide) ?_
  refine PW.aload_n q_74_30 rfl ?_
  refine PW.dup q_74_31 rfl ?_
  refine PW.getf q_74_32 rfl (by decide) rfl rfl ?_
  refine PW.iconst q_74_35 ?_
  refine PW.iadd q_74_36 ?_
  refine PW.putf q_74_37 rfl (by decide) rfl rfl rfl (by decide) ?_
  refine PW.iinc q_74_40 rfl (by decide) ?_
  refine PW.goto q_74_43 rfl ?_
  refine PW.iload_n q_74_3 rfl ?_
  refine PW.if_lt q_74_4 rfl (fun q => absurd q (by decide)) (fun _ => ?_)
  refine PW.aload_n q_74_7 rfl ?_
  refine PW.getf q_74_8 rfl (by decide) rfl rfl ?_
  refine PW.sipush q_74_11 ?_
  refine PW.icmp_ge q_74_14 rfl (fun q => absurd q (by decide)) (fun _ => ?_)
  refine PW.aload_n q_74_17 rfl ?_
  refine PW.getf q_74_18 rfl (by decide) rfl rfl ?_
  refine PW.aload_n q_74_21 rfl ?_
  refine PW.getf q_74_22 rfl (by decide) rfl rfl ?_
  refine PW.iload_n q_74_25 rfl ?_
  refine PW.iload_n q_74_26 rfl ?_
  refine PW.ishr q_74_27 ?_
  refine PW.i2b q_74_28 ?_
  refine PW.bast q_74_29 (by decide) rfl (by unfold vp_in; decide) ?_
  refine PW.aload_n q_74_30 rfl ?_
  refine PW.dup q_74_31 rfl ?_
  refine PW.getf q_74_32 rfl (by decide) rfl rfl ?_
  refine PW.iconst q_74_35 ?_
  refine PW.iadd q_74_36 ?_
  refine PW.putf q_74_37 rfl (by decide) rfl rfl rfl (by decide) ?_
  refine PW.iinc q_74_40 rfl (by decide) ?_
  refine PW.goto q_74_43 rfl ?_
  refine PW.iload_n q_74_3 rfl ?_
  refine PW.if_lt q_74_4 rfl (fun q => absurd q (by decide)) (fun _ => ?_)
  refine PW.aload_n q_74_7 rfl ?_
  refine PW.getf q_74_8 rfl (by decide) rfl rfl ?_
  refine PW.sipush q_74_11 ?_
  refine PW.icmp_ge q_74_14 rfl (fun q => absurd q (by decide)) (fun _ => ?_)
  refine PW.aload_n q_74_17 rfl ?_
  refine PW.getf q_74_18 rfl (by decide) rfl rfl ?_
  refine PW.aload_n q_74_21 rfl ?_
  refine PW.getf q_74_22 rfl (by decide) rfl rfl ?_
  refine PW.iload_n q_74_25 rfl ?_
  refine PW.iload_n q_74_26 rfl ?_
  refine PW.ishr q_74_27 ?_
  refine PW.i2b q_74_28 ?_
  refine PW.bast q_74_29 (by decide) rfl (by unfold vp_in; decide) ?_
  refine PW.aload_n q_74_30 rfl ?_
  refine PW.dup q_74_31 rfl ?_
  refine PW.getf q_74_32 rfl (by decide) rfl rfl ?_
  refine PW.iconst q_74_35 ?_
  refine PW.iadd q_74_36 ?_
  refine PW.putf q_74_37 rfl (by decide) rfl rfl rfl (by decide) ?_
  refine PW.iinc q_74_40 rfl (by decide) ?_
  refine PW.goto q_74_43 rfl ?_
  refine PW.iload_n q_74_3 rfl ?_
  refine PW.if_lt q_74_4 rfl (fun q => absurd q (by decide)) (fun _ => ?_)
  refine PW.aload_n q_74_7 rfl ?_
  refine PW.getf q_74_8 rfl (by decide) rfl rfl ?_
  refine PW.sipush q_74_11 ?_
  refine PW.icmp_ge q_74_14 rfl (fun q => absurd q (by decide)) (fun _ => ?_)
  refine PW.aload_n q_74_17 rfl ?_
  refine PW.getf q_74_18 rfl (by decide) rfl rfl ?_
  refine PW.aload_n q_74_21 rfl ?_
  refine PW.getf q_74_22 rfl (by decide) rfl rfl ?_
  refine PW.iload_n q_74_25 rfl ?_
  refine PW.iload_n q_74_26 rfl ?_
  refine PW.ishr q_74_27 ?_
  refine PW.i2b q_74_28 ?_
  refine PW.bast q_74_29 (by decide) rfl (by unfold vp_in; decide) ?_
  refine PW.aload_n q_74_30 rfl ?_
  refine PW.dup q_74_31 rfl ?_
  refine PW.getf q_74_32 rfl (by decide) rfl rfl ?_
  refine PW.iconst q_74_35 ?_
  refine PW.iadd q_74_36 ?_
  refine PW.putf q_74_37 rfl (by decide) rfl rfl rfl (by decide) ?_
  refine PW.iinc q_74_40 rfl (by decide) ?_
  refine PW.goto q_74_43 rfl ?_
  refine PW.iload_n q_74_3 rfl ?_
  refine PW.if_lt q_74_4 rfl (fun _ => ?_) (fun q => absurd (by decide) q)
  refine PW.vret q_74_46 rfl (by decide) (by decide) ?_
  refine PW.aload_n q_100_34 rfl ?_
  refine PW.getf q_100_35 rfl (by decide) rfl rfl ?_
  refine PW.iload_n q_100_38 rfl ?_
  refine PW.callV (as := [_]) (rest := []) q_100_39 rfl (by decide) rfl (by decide) rfl rfl (Nat.le_of_ble_eq_true rfl) (Nat.le_of_ble_eq_true rfl) (by decide) (by decide) ?_
  refine PW.bipush q_74_0 ?_
  refine PW.istore_n q_74_2 (by decide) ?_
  refine PW.iload_n q_74_3 rfl ?_
  refine PW.if_lt q_74_4 rfl (fun q => absurd q (by decide)) (fun _ => ?_)
  refine PW.aload_n q_74_7 rfl ?_
  refine PW.getf q_74_8 rfl (by decide) rfl rfl ?_
  refine PW.sipush q_74_11 ?_
  refine PW.icmp_ge q_74_14 rfl (fun q => absurd q (by decide)) (fun _ => ?_)
  refine PW.aload_n q_74_17 rfl ?_
  refine PW.getf q_74_18 rfl (by decide) rfl rfl ?_
  refine PW.aload_n q_74_21 rfl ?_
  refine PW.getf q_74_22 rfl (by decide) rfl rfl ?_
  refine PW.iload_n q_74_25 rfl ?_
  refine PW.iload_n q_74_26 rfl ?_
  refine PW.ishr q_74_27 ?_
  refine PW.i2b q_74_28 ?_
  refine PW.bast q_74_29 (by decide) rfl (by unfold vp_in; decide) ?_
  refine PW.aload_n q_74_30 rfl ?_
  refine PW.dup q_74_31 rfl ?_
  refine PW.getf q_74_32 rfl (by decide) rfl rfl ?_
  refine PW.iconst q_74_35 ?_
  refine PW.iadd q_74_36 ?_
  refine PW.putf q_74_37 rfl (by decide) rfl rfl rfl (by decide) ?_
  refine PW.iinc q_74_40 rfl (by decide) ?_
  refine PW.goto q_74_43 rfl ?_
  refine PW.iload_n q_74_3 rfl ?_
  refine PW.if_lt q_74_4 rfl (fun q => absurd q (by decide)) (fun _ => ?_)
  refine PW.aload_n q_74_7 rfl ?_
  refine PW.getf q_74_8 rfl (by decide) rfl rfl ?_
  refine PW.sipush q_74_11 ?_
  refine PW.icmp_ge q_74_14 rfl (fun q => absurd q (by decide)) (fun _ => ?_)
  refine PW.aload_n q_74_17 rfl ?_
  refine PW.getf q_74_18 rfl (by decide) rfl rfl ?_
  refine PW.aload_n q_74_21 rfl ?_
  refine PW.getf q_74_22 rfl (by decide) rfl rfl ?_
  refine PW.iload_n q_74_25 rfl ?_
  refine PW.iload_n q_74_26 rfl ?_
  refine PW.ishr q_74_27 ?_
  refine PW.i2b q_74_28 ?_
  refine PW.bast q_74_29 (by decide) rfl (by unfold vp_in; decide) ?_
  refine PW.aload_n q_74_30 rfl ?_
  refine PW.dup q_74_31 rfl ?_
  refine PW.getf q_74_32 rfl (by decide) rfl rfl ?_
  refine PW.iconst q_74_35 ?_
  refine PW.iadd q_74_36 ?_
  refine PW.putf q_74_37 rfl (by decide) rfl rfl rfl (by decide) ?_
  refine PW.iinc q_74_40 rfl (by decide) ?_
  refine PW.goto q_74_43 rfl ?_
  refine PW.iload_n q_74_3 rfl ?_
  refine PW.if_lt q_74_4 rfl (fun q => absurd q (by decide)) (fun _ => ?_)
  refine PW.aload_n q_74_7 rfl ?_
  refine PW.getf q_74_8 rfl (by decide) rfl rfl ?_
  refine PW.sipush q_74_11 ?_
  refine PW.icmp_ge q_74_14 rfl (fun q => absurd q (by decide)) (fun _ => ?_)
  refine PW.aload_n q_74_17 rfl ?_
  refine PW.getf q_74_18 rfl (by decide) rfl rfl ?_
  refine PW.aload_n q_74_21 rfl ?_
  refine PW.getf q_74_22 rfl (by decide) rfl rfl ?_
  refine PW.iload_n q_74_25 rfl ?_
  refine PW.iload_n q_74_26 rfl ?_
  refine PW.ishr q_74_27 ?_
  refine PW.i2b q_74_28 ?_
  refine PW.bast q_74_29 (by decide) rfl (by unfold vp_in; decide) ?_
  refine PW.aload_n q_74_30 rfl ?_
  refine PW.dup q_74_31 rfl ?_
  refine PW.getf q_74_32 rfl (by decide) rfl rfl ?_
  refine PW.iconst q_74_35 ?_
  refine PW.iadd q_74_36 ?_
  refine PW.putf q_74_37 rfl (by decide) rfl rfl rfl (by decide) ?_
  refine PW.iinc q_74_40 rfl (by decide) ?_
  refine PW.goto q_74_43 rfl ?_
  refine PW.iload_n q_74_3 rfl ?_
  refine PW.if_lt q_74_4 rfl (fun q => absurd q (by decide)) (fun _ => ?_)
  refine PW.aload_n q_74_7 rfl ?_
  refine PW.getf q_74_8 rfl (by decide) rfl rfl ?_
  refine PW.sipush q_74_11 ?_
  refine PW.icmp_ge q_74_14 rfl (fun q => absurd q (by decide)) (fun _ => ?_)
  refine PW.aload_n q_74_17 rfl ?_
  refine PW.getf q_74_18 rfl (by decide) rfl rfl ?_
  refine PW.aload_n q_74_21 rfl ?_
  refine PW.getf q_74_22 rfl (by decide) rfl rfl ?_
  refine PW.iload_n q_74_25 rfl ?_
  refine PW.iload_n q_74_26 rfl ?_
  refine PW.ishr q_74_27 ?_
  refine PW.i2b q_74_28 ?_
  refine PW.bast q_74_29 (by decide) rfl (by unfold vp_in; decide) ?_
  refine PW.aload_n q_74_30 rfl ?_
  refine PW.dup q_74_31 rfl ?_
  refine PW.getf q_74_32 rfl (by decide) rfl rfl ?_
  refine PW.iconst q_74_35 ?_
  refine PW.iadd q_74_36 ?_
  refine PW.putf q_74_37 rfl (by decide) rfl rfl rfl (by decide) ?_
  refine PW.iinc q_74_40 rfl (by decide) ?_
  refine PW.goto q_74_43 rfl ?_
  refine PW.iload_n q_74_3 rfl ?_
  refine PW.if_lt q_74_4 rfl (fun _ => ?_) (fun q => absurd (by decide) q)
  refine PW.vret q_74_46 rfl (by decide) (by decide) ?_
  refine PW.aload_n q_100_42 rfl ?_
  refine PW.getf q_100_43 rfl (by decide) rfl rfl ?_
  refine PW.iload q_100_46 rfl ?_
  refine PW.callV (as := [_]) (rest := []) q_100_48 rfl (by decide) rfl (by decide) rfl rfl (Nat.le_of_ble_eq_true rfl) (Nat.le_of_ble_eq_true rfl) (by decide) (by decide) ?_
  refine PW.bipush q_74_0 ?_
  refine PW.istore_n q_74_2 (by decide) ?_
  refine PW.iload_n q_74_3 rfl ?_
  refine PW.if_lt q_74_4 rfl (fun q => absurd q (by decide)) (fun _ => ?_)
  refine PW.aload_n q_74_7 rfl ?_
  refine PW.getf q_74_8 rfl (by decide) rfl rfl ?_
  refine PW.sipush q_74_11 ?_
  refine PW.icmp_ge q_74_14 rfl (fun q => absurd q (by decide)) (fun _ => ?_)
  refine PW.aload_n q_74_17 rfl ?_
  refine PW.getf q_74_18 rfl (by decide) rfl rfl ?_
  refine PW.aload_n q_74_21 rfl ?_
  refine PW.getf q_74_22 rfl (by decide) rfl rfl ?_
  refine PW.iload_n q_74_25 rfl ?_
  refine PW.iload_n q_74_26 rfl ?_
  refine PW.ishr q_74_27 ?_
  refine PW.i2b q_74_28 ?_
  refine PW.bast q_74_29 (by decide) rfl (by unfold vp_in; decide) ?_
  refine PW.aload_n q_74_30 rfl ?_
  refine PW.dup q_74_31 rfl ?_
  refine PW.getf q_74_32 rfl (by decide) rfl rfl ?_
  refine PW.iconst q_74_35 ?_
  refine PW.iadd q_74_36 ?_
  refine PW.putf q_74_37 rfl (by decide) rfl rfl rfl (by decide) ?_
  refine PW.iinc q_74_40 rfl (by decide) ?_
  refine PW.goto q_74_43 rfl ?_
  refine PW.iload_n q_74_3 rfl ?_
  refine PW.if_lt q_74_4 rfl (fun q => absurd q (by decide)) (fun _ => ?_)
  refine PW.aload_n q_74_7 rfl ?_
  refine PW.getf q_74_8 rfl (by decide) rfl rfl ?_
  refine PW.sipush q_74_11 ?_
  refine PW.icmp_ge q_74_14 rfl (fun q => absurd q (by decide)) (fun _ => ?_)
  refine PW.aload_n q_74_17 rfl ?_
  refine PW.getf q_74_18 rfl (by decide) rfl rfl ?_
  refine PW.aload_n q_74_21 rfl ?_
  refine PW.getf q_74_22 rfl (by decide) rfl rfl ?_
  refine PW.iload_n q_74_25 rfl ?_
  refine PW.iload_n q_74_26 rfl ?_
  refine PW.ishr q_74_27 ?_
  refine PW.i2b q_74_28 ?_
  refine PW.bast q_74_29 (by decide) rfl (by unfold vp_in; decide) ?_
  refine PW.aload_n q_74_30 rfl ?_
  refine PW.dup q_74_31 rfl ?_
  refine PW.getf q_74_32 rfl (by decide) rfl rfl ?_
  refine PW.iconst q_74_35 ?_
  refine PW.iadd q_74_36 ?_
  refine PW.putf q_74_37 rfl (by decide) rfl rfl rfl (by decide) ?_
  refine PW.iinc q_74_40 rfl (by decide) ?_
  refine PW.goto q_74_43 rfl ?_
  refine PW.iload_n q_74_3 rfl ?_
  refine PW.if_lt q_74_4 rfl (fun q => absurd q (by decide)) (fun _ => ?_)
  refine PW.aload_n q_74_7 rfl ?_
  refine PW.getf q_74_8 rfl (by decide) rfl rfl ?_
  refine PW.sipush q_74_11 ?_
  refine PW.icmp_ge q_74_14 rfl (fun q => absurd q (by decide)) (fun _ => ?_)
  refine PW.aload_n q_74_17 rfl ?_
  refine PW.getf q_74_18 rfl (by decide) rfl rfl ?_
  refine PW.aload_n q_74_21 rfl ?_
  refine PW.getf q_74_22 rfl (by decide) rfl rfl ?_
  refine PW.iload_n q_74_25 rfl ?_
  refine PW.iload_n q_74_26 rfl ?_
  refine PW.ishr q_74_27 ?_
  refine PW.i2b q_74_28 ?_
  refine PW.bast q_74_29 (by decide) rfl (by unfold vp_in; decide) ?_
  refine PW.aload_n q_74_30 rfl ?_
  refine PW.dup q_74_31 rfl ?_
  refine PW.getf q_74_32 rfl (by decide) rfl rfl ?_
  refine PW.iconst q_74_35 ?_
  refine PW.iadd q_74_36 ?_
  refine PW.putf q_74_37 rfl (by decide) rfl rfl rfl (by decide) ?_
  refine PW.iinc q_74_40 rfl (by decide) ?_
  refine PW.goto q_74_43 rfl ?_
  refine PW.iload_n q_74_3 rfl ?_
  refine PW.if_lt q_74_4 rfl (fun q => absurd q (by decide)) (fun _ => ?_)
  refine PW.aload_n q_74_7 rfl ?_
  refine PW.getf q_74_8 rfl (by decide) rfl rfl ?_
  refine PW.sipush q_74_11 ?_
  refine PW.icmp_ge q_74_14 rfl (fun q => absurd q (by decide)) (fun _ => ?_)
  refine PW.aload_n q_74_17 rfl ?_
  refine PW.getf q_74_18 rfl (by decide) rfl rfl ?_
  refine PW.aload_n q_74_21 rfl ?_
  refine PW.getf q_74_22 rfl (by decide) rfl rfl ?_
  refine PW.iload_n q_74_25 rfl ?_
  refine PW.iload_n q_74_26 rfl ?_
  refine PW.ishr q_74_27 ?_
  refine PW.i2b q_74_28 ?_
  refine PW.bast q_74_29 (by decide) rfl (by unfold vp_in; decide) ?_
  refine PW.aload_n q_74_30 rfl ?_
  refine PW.dup q_74_31 rfl ?_
  refine PW.getf q_74_32 rfl (by decide) rfl rfl ?_
  refine PW.iconst q_74_35 ?_
  refine PW.iadd q_74_36 ?_
  refine PW.putf q_74_37 rfl (by decide) rfl rfl rfl (by decide) ?_
  refine PW.iinc q_74_40 rfl (by decide) ?_
  refine PW.goto q_74_43 rfl ?_
  refine PW.iload_n q_74_3 rfl ?_
  refine PW.if_lt q_74_4 rfl (fun _ => ?_) (fun q => absurd (by decide) q)
  refine PW.vret q_74_46 rfl (by decide) (by decide) ?_
  refine PW.aload_n q_100_51 rfl ?_
  refine PW.getf q_100_52 rfl (by decide) rfl rfl ?_
  refine PW.iload q_100_55 rfl ?_
  refine PW.callV (as := [_]) (rest := []) q_100_57 rfl (by decide) rfl (by decide) rfl rfl (Nat.le_of_ble_eq_true rfl) (Nat.le_of_ble_eq_true rfl) (by decide) (by decide) ?_
  refine PW.bipush q_74_0 ?_
  refine PW.istore_n q_74_2 (by decide) ?_
  refine PW.iload_n q_74_3 rfl ?_
  refine PW.if_lt q_74_4 rfl (fun q => absurd q (by decide)) (fun _ => ?_)
  refine PW.aload_n q_74_7 rfl ?_
  refine PW.getf q_74_8 rfl (by decide) rfl rfl ?_
  refine PW.sipush q_74_11 ?_
  refine PW.icmp_ge q_74_14 rfl (fun q => absurd q (by decide)) (fun _ => ?_)
  refine PW.aload_n q_74_17 rfl ?_
  refine PW.getf q_74_18 rfl (by decide) rfl rfl ?_
  refine PW.aload_n q_74_21 rfl ?_
  refine PW.getf q_74_22 rfl (by decide) rfl rfl ?_
  refine PW.iload_n q_74_25 rfl ?_
  refine PW.iload_n q_74_26 rfl ?_
  refine PW.ishr q_74_27 ?_
  refine PW.i2b q_74_28 ?_
  refine PW.bast q_74_29 (by decide) rfl (by unfold vp_in; decide) ?_
  refine PW.aload_n q_74_30 rfl ?_
  refine PW.dup q_74_31 rfl ?_
  refine PW.getf q_74_32 rfl (by decide) rfl rfl ?_
  refine PW.iconst q_74_35 ?_
  refine PW.iadd q_74_36 ?_
  refine PW.putf q_74_37 rfl (by decide) rfl rfl rfl (by decide) ?_
  refine PW.iinc q_74_40 rfl (by decide) ?_
  refine PW.goto q_74_43 rfl ?_
  refine PW.iload_n q_74_3 rfl ?_
  refine PW.if_lt q_74_4 rfl (fun q => absurd q (by decide)) (fun _ => ?_)
  refine PW.aload_n q_74_7 rfl ?_
  refine PW.getf q_74_8 rfl (by decide) rfl rfl ?_
  refine PW.sipush q_74_11 ?_
  refine PW.icmp_ge q_74_14 rfl (fun q => absurd q (by decide)) (fun _ => ?_)
  refine PW.aload_n q_74_17 rfl ?_
  refine PW.getf q_74_18 rfl (by decide) rfl rfl ?_
  refine PW.aload_n q_74_21 rfl ?_
  refine PW.getf q_74_22 rfl (by decide) rfl rfl ?_
  refine PW.iload_n q_74_25 rfl ?_
  refine PW.iload_n q_74_26 rfl ?_
  refine PW.ishr q_74_27 ?_
  refine PW.i2b q_74_28 ?_
  refine PW.bast q_74_29 (by decide) rfl (by unfold vp_in; decide) ?_
  refine PW.aload_n q_74_30 rfl ?_
  refine PW.dup q_74_31 rfl ?_
  refine PW.getf q_74_32 rfl (by decide) rfl rfl ?_
  refine PW.iconst q_74_35 ?_
  refine PW.iadd q_74_36 ?_
  refine PW.putf q_74_37 rfl (by decide) rfl rfl rfl (by decide) ?_
  refine PW.iinc q_74_40 rfl (by decide) ?_
  refine PW.goto q_74_43 rfl ?_
  refine PW.iload_n q_74_3 rfl ?_
  refine PW.if_lt q_74_4 rfl (fun q => absurd q (by decide)) (fun _ => ?_)
  refine PW.aload_n q_74_7 rfl ?_
  refine PW.getf q_74_8 rfl (by decide) rfl rfl ?_
  refine PW.sipush q_74_11 ?_
  refine PW.icmp_ge q_74_14 rfl (fun q => absurd q (by decide)) (fun _ => ?_)
  refine PW.aload_n q_74_17 rfl ?_
  refine PW.getf q_74_18 rfl (by decide) rfl rfl ?_
  refine PW.aload_n q_74_21 rfl ?_
  refine PW.getf q_74_22 rfl (by decide) rfl rfl ?_
  refine PW.iload_n q_74_25 rfl ?_
  refine PW.iload_n q_74_26 rfl ?_
  refine PW.ishr q_74_27 ?_
  refine PW.i2b q_74_28 ?_
  refine PW.bast q_74_29 (by decide) rfl (by unfold vp_in; decide) ?_
  refine PW.aload_n q_74_30 rfl ?_
  refine PW.dup q_74_31 rfl ?_
  refine PW.getf q_74_32 rfl (by decide) rfl rfl ?_
  refine PW.iconst q_74_35 ?_
  refine PW.iadd q_74_36 ?_
  refine PW.putf q_74_37 rfl (by decide) rfl rfl rfl (by decide) ?_
  refine PW.iinc q_74_40 rfl (by decide) ?_
  refine PW.goto q_74_43 rfl ?_
  refine PW.iload_n q_74_3 rfl ?_
  refine PW.if_lt q_74_4 rfl (fun q => absurd q (by decide)) (fun _ => ?_)
  refine PW.aload_n q_74_7 rfl ?_
  refine PW.getf q_74_8 rfl (by decide) rfl rfl ?_
  refine PW.sipush q_74_11 ?_
  refine PW.icmp_ge q_74_14 rfl (fun q => absurd q (by decide)) (fun _ => ?_)
  refine PW.aload_n q_74_17 rfl ?_
  refine PW.getf q_74_18 rfl (by decide) rfl rfl ?_
  refine PW.aload_n q_74_21 rfl ?_
  refine PW.getf q_74_22 rfl (by decide) rfl rfl ?_
  refine PW.iload_n q_74_25 rfl ?_
  refine PW.iload_n q_74_26 rfl ?_
  refine PW.ishr q_74_27 ?_
  refine PW.i2b q_74_28 ?_
  refine PW.bast q_74_29 (by decide) rfl (by unfold vp_in; decide) ?_
  refine PW.aload_n q_74_30 rfl ?_
  refine PW.dup q_74_31 rfl ?_
  refine PW.getf q_74_32 rfl (by decide) rfl rfl ?_
  refine PW.iconst q_74_35 ?_
  refine PW.iadd q_74_36 ?_
  refine PW.putf q_74_37 rfl (by decide) rfl rfl rfl (by decide) ?_
  refine PW.iinc q_74_40 rfl (by decide) ?_
  refine PW.goto q_74_43 rfl ?_
  refine PW.iload_n q_74_3 rfl ?_
  refine PW.if_lt q_74_4 rfl (fun _ => ?_) (fun q => absurd (by decide) q)
  refine PW.vret q_74_46 rfl (by decide) (by decide) ?_
  refine PW.aload_n q_100_60 rfl ?_
  refine PW.getf q_100_61 rfl (by decide) rfl rfl ?_
  refine PW.getN q_100_64 rfl (by decide) rfl rfl ?_
  refine PW.iret q_100_67 rfl (by decide) (by decide) ?_
  refine PW.aload_n q_285_262 rfl ?_
  refine PW.aload_n q_285_263 rfl ?_
  refine PW.iload q_285_264 rfl ?_
  refine PW.iconst q_285_266 ?_
  refine PW.iadd q_285_267 ?_
  refine PW.sldE q_285_268 (by rw [hL]; unfold vp_in; decide) e1 ?_
  refine PW.aload_n q_285_269 rfl ?_
  refine PW.iload q_285_270 rfl ?_
  refine PW.iconst q_285_272 ?_
  refine PW.iadd q_285_273 ?_
  refine PW.sldE q_285_274 (by rw [hL]; unfold vp_in; decide) e2 ?_
  refine PW.aload_n q_285_275 rfl ?_
  refine PW.iload q_285_276 rfl ?_
  refine PW.iconst q_285_278 ?_
  refine PW.iadd q_285_279 ?_
  refine PW.sldE q_285_280 (by rw [hL]; unfold vp_in; decide) e3 ?_
  refine PW.aload_n q_285_281 rfl ?_
  refine PW.iload q_285_282 rfl ?_
  refine PW.iconst q_285_284 ?_
  refine PW.iadd q_285_285 ?_
  refine PW.sldE q_285_286 (by rw [hL]; unfold vp_in; decide) e4 ?_
  refine PW.aload_n q_285_287 rfl ?_
  refine PW.iload q_285_288 rfl ?_
  refine PW.iconst q_285_290 ?_
  refine PW.iadd q_285_291 ?_
  refine PW.sldE q_285_292 (by rw [hL]; unfold vp_in; decide) e5 ?_
  refine PW.callV (as := [_, _, _, _, _]) (rest := [_]) q_285_293 rfl (by decide) rfl (by decide) rfl rfl (Nat.le_of_ble_eq_true rfl) (Nat.le_of_ble_eq_true rfl) (by decide) (by decide) ?_
  refine PW.aload_n q_163_0 rfl ?_
  refine PW.iconst q_163_1 ?_
  refine PW.putf q_163_2 rfl (by decide) rfl rfl rfl (by decide) ?_
  refine PW.aload_n q_163_5 rfl ?_
  refine PW.getf q_163_6 rfl (by decide) rfl rfl ?_
  refine PW.bipush q_163_9 ?_
  refine PW.iadd q_163_11 ?_
  refine PW.sipush q_163_12 ?_
  refine PW.icmp_le q_163_15 rfl (fun _ => ?_) (fun q => absurd (by decide) q)
  refine PW.aload_n q_163_20 rfl ?_
  refine PW.iload_n q_163_21 rfl ?_
  refine PW.callV (as := [_]) (rest := []) q_163_22 rfl (by decide) rfl (by decide) rfl rfl (Nat.le_of_ble_eq_true rfl) (Nat.le_of_ble_eq_true rfl) (by decide) (by decide) ?_
  refine PW.bipush q_164_0 ?_
  refine PW.istore_n q_164_2 (by decide) ?_
  refine PW.iload_n q_164_3 rfl ?_
  refine PW.if_lt q_164_4 rfl (fun q => absurd q (by decide)) (fun _ => ?_)
  refine PW.aload_n q_164_7 rfl ?_
  refine PW.getf q_164_8 rfl (by decide) rfl rfl ?_
  refine PW.aload_n q_164_11 rfl ?_
  refine PW.getf q_164_12 rfl (by decide) rfl rfl ?_
  refine PW.iload_n q_164_15 rfl ?_
  refine PW.iload_n q_164_16 rfl ?_
  refine PW.ishr q_164_17 ?_
  refine PW.i2b q_164_18 ?_
  refine PW.bast q_164_19 (by decide) rfl (by unfold vp_in; decide) ?_
  refine PW.aload_n q_164_20 rfl ?_
  refine PW.dup q_164_21 rfl ?_
  refine PW.getf q_164_22 rfl (by decide) rfl rfl ?_
  refine PW.iconst q_164_25 ?_
  refine PW.iadd q_164_26 ?_
  refine PW.putf q_164_27 rfl (by decide) rfl rfl rfl (by decide) ?_
  refine PW.iinc q_164_30 rfl (by decide) ?_
  refine PW.goto q_164_33 rfl ?_
  refine PW.iload_n q_164_3 rfl ?_
  refine PW.if_lt q_164_4 rfl (fun q => absurd q (by decide)) (fun _ => ?_)
  refine PW.aload_n q_164_7 rfl ?_
  refine PW.getf q_164_8 rfl (by decide) rfl rfl ?_
  refine PW.aload_n q_164_11 rfl ?_
  refine PW.getf q_164_12 rfl (by decide) rfl rfl ?_
  refine PW.iload_n q_164_15 rfl ?_
  refine PW.iload_n q_164_16 rfl ?_
  refine PW.ishr q_164_17 ?_
  refine PW.i2b q_164_18 ?_
  refine PW.bast q_164_19 (by decide) rfl (by unfold vp_in; decide) ?_
  refine PW.aload_n q_164_20 rfl ?_
  refine PW.dup q_164_21 rfl ?_
  refine PW.getf q_164_22 rfl (by decide) rfl rfl ?_
  refine PW.iconst q_164_25 ?_
  refine PW.iadd q_164_26 ?_
  refine PW.putf q_164_27 rfl (by decide) rfl rfl rfl (by decide) ?_
  refine PW.iinc q_164_30 rfl (by decide) ?_
  refine PW.goto q_164_33 rfl ?_
  refine PW.iload_n q_164_3 rfl ?_
  refine PW.if_lt q_164_4 rfl (fun q => absurd q (by decide)) (fun _ => ?_)
  refine PW.aload_n q_164_7 rfl ?_
  refine PW.getf q_164_8 rfl (by decide) rfl rfl ?_
  refine PW.aload_n q_164_11 rfl ?_
  refine PW.getf q_164_12 rfl (by decide) rfl rfl ?_
  refine PW.iload_n q_164_15 rfl ?_
  refine PW.iload_n q_164_16 rfl ?_
  refine PW.ishr q_164_17 ?_
  refine PW.i2b q_164_18 ?_
  refine PW.bast q_164_19 (by decide) rfl (by unfold vp_in; decide) ?_
  refine PW.aload_n q_164_20 rfl ?_
  refine PW.dup q_164_21 rfl ?_
  refine PW.getf q_164_22 rfl (by decide) rfl rfl ?_
  refine PW.iconst q_164_25 ?_
  refine PW.iadd q_164_26 ?_
  refine PW.putf q_164_27 rfl (by decide) rfl rfl rfl (by decide) ?_
  refine PW.iinc q_164_30 rfl (by decide) ?_
  refine PW.goto q_164_33 rfl ?_
  refine PW.iload_n q_164_3 rfl ?_
  refine PW.if_lt q_164_4 rfl (fun q => absurd q (by decide)) (fun _ => ?_)
  refine PW.aload_n q_164_7 rfl ?_
  refine PW.getf q_164_8 rfl (by decide) rfl rfl ?_
  refine PW.aload_n q_164_11 rfl ?_
  refine PW.getf q_164_12 rfl (by decide) rfl rfl ?_
  refine PW.iload_n q_164_15 rfl ?_
  refine PW.iload_n q_164_16 rfl ?_
  refine PW.ishr q_164_17 ?_
  refine PW.i2b q_164_18 ?_
  refine PW.bast q_164_19 (by decide) rfl (by unfold vp_in; decide) ?_
  refine PW.aload_n q_164_20 rfl ?_
  refine PW.dup q_164_21 rfl ?_
  refine PW.getf q_164_22 rfl (by decide) rfl rfl ?_
  refine PW.iconst q_164_25 ?_
  refine PW.iadd q_164_26 ?_
  refine PW.putf q_164_27 rfl (by decide) rfl rfl rfl (by decide) ?_
  refine PW.iinc q_164_30 rfl (by decide) ?_
  refine PW.goto q_164_33 rfl ?_
  refine PW.iload_n q_164_3 rfl ?_
  refine PW.if_lt q_164_4 rfl (fun _ => ?_) (fun q => absurd (by decide) q)
  refine PW.vret q_164_36 rfl (by decide) (by decide) ?_
  refine PW.aload_n q_163_25 rfl ?_
  refine PW.iload_n q_163_26 rfl ?_
  refine PW.callV (as := [_]) (rest := []) q_163_27 rfl (by decide) rfl (by decide) rfl rfl (Nat.le_of_ble_eq_true rfl) (Nat.le_of_ble_eq_true rfl) (by decide) (by decide) ?_
  refine PW.bipush q_164_0 ?_
  refine PW.istore_n q_164_2 (by decide) ?_
  refine PW.iload_n q_164_3 rfl ?_
  refine PW.if_lt q_164_4 rfl (fun q => absurd q (by decide)) (fun _ => ?_)
  refine PW.aload_n q_164_7 rfl ?_
  refine PW.getf q_164_8 rfl (by decide) rfl rfl ?_
  refine PW.aload_n q_164_11 rfl ?_
  refine PW.getf q_164_12 rfl (by decide) rfl rfl ?_
  refine PW.iload_n q_164_15 rfl ?_
  refine PW.iload_n q_164_16 rfl ?_
  refine PW.ishr q_164_17 ?_
  refine PW.i2b q_164_18 ?_
  refine PW.bast q_164_19 (by decide) rfl (by unfold vp_in; decide) ?_
  refine PW.aload_n q_164_20 rfl ?_
  refine PW.dup q_164_21 rfl ?_
  refine PW.getf q_164_22 rfl (by decide) rfl rfl ?_
  refine PW.iconst q_164_25 ?_
  refine PW.iadd q_164_26 ?_
  refine PW.putf q_164_27 rfl (by decide) rfl rfl rfl (by decide) ?_
  refine PW.iinc q_164_30 rfl (by decide) ?_
  refine PW.goto q_164_33 rfl ?_
  refine PW.iload_n q_164_3 rfl ?_
  refine PW.if_lt q_164_4 rfl (fun q => absurd q (by decide)) (fun _ => ?_)
  refine PW.aload_n q_164_7 rfl ?_
  refine PW.getf q_164_8 rfl (by decide) rfl rfl ?_
  refine PW.aload_n q_164_11 rfl ?_
  refine PW.getf q_164_12 rfl (by decide) rfl rfl ?_
  refine PW.iload_n q_164_15 rfl ?_
  refine PW.iload_n q_164_16 rfl ?_
  refine PW.ishr q_164_17 ?_
  refine PW.i2b q_164_18 ?_
  refine PW.bast q_164_19 (by decide) rfl (by unfold vp_in; decide) ?_
  refine PW.aload_n q_164_20 rfl ?_
  refine PW.dup q_164_21 rfl ?_
  refine PW.getf q_164_22 rfl (by decide) rfl rfl ?_
  refine PW.iconst q_164_25 ?_
  refine PW.iadd q_164_26 ?_
  refine PW.putf q_164_27 rfl (by decide) rfl rfl rfl (by decide) ?_
  refine PW.iinc q_164_30 rfl (by decide) ?_
  refine PW.goto q_164_33 rfl ?_
  refine PW.iload_n q_164_3 rfl ?_
  refine PW.if_lt q_164_4 rfl (fun q => absurd q (by decide)) (fun _ => ?_)
  refine PW.aload_n q_164_7 rfl ?_
  refine PW.getf q_164_8 rfl (by decide) rfl rfl ?_
  refine PW.aload_n q_164_11 rfl ?_
  refine PW.getf q_164_12 rfl (by decide) rfl rfl ?_
  refine PW.iload_n q_164_15 rfl ?_
  refine PW.iload_n q_164_16 rfl ?_
  refine PW.ishr q_164_17 ?_
  refine PW.i2b q_164_18 ?_
  refine PW.bast q_164_19 (by decide) rfl (by unfold vp_in; decide) ?_
  refine PW.aload_n q_164_20 rfl ?_
  refine PW.dup q_164_21 rfl ?_
  refine PW.getf q_164_22 rfl (by decide) rfl rfl ?_
  refine PW.iconst q_164_25 ?_
  refine PW.iadd q_164_26 ?_
  refine PW.putf q_164_27 rfl (by decide) rfl rfl rfl (by decide) ?_
  refine PW.iinc q_164_30 rfl (by decide) ?_
  refine PW.goto q_164_33 rfl ?_
  refine PW.iload_n q_164_3 rfl ?_
  refine PW.if_lt q_164_4 rfl (fun q => absurd q (by decide)) (fun _ => ?_)
  refine PW.aload_n q_164_7 rfl ?_
  refine PW.getf q_164_8 rfl (by decide) rfl rfl ?_
  refine PW.aload_n q_164_11 rfl ?_
  refine PW.getf q_164_12 rfl (by decide) rfl rfl ?_
  refine PW.iload_n q_164_15 rfl ?_
  refine PW.iload_n q_164_16 rfl ?_
  refine PW.ishr q_164_17 ?_
  refine PW.i2b q_164_18 ?_
  refine PW.bast q_164_19 (by decide) rfl (by unfold vp_in; decide) ?_
  refine PW.aload_n q_164_20 rfl ?_
  refine PW.dup q_164_21 rfl ?_
  refine PW.getf q_164_22 rfl (by decide) rfl rfl ?_
  refine PW.iconst q_164_25 ?_
  refine PW.iadd q_164_26 ?_
  refine PW.putf q_164_27 rfl (by decide) rfl rfl rfl (by decide) ?_
  refine PW.iinc q_164_30 rfl (by decide) ?_
  refine PW.goto q_164_33 rfl ?_
  refine PW.iload_n q_164_3 rfl ?_
  refine PW.if_lt q_164_4 rfl (fun _ => ?_) (fun q => absurd (by decide) q)
  refine PW.vret q_164_36 rfl (by decide) (by decide) ?_
  refine PW.aload_n q_163_30 rfl ?_
  refine PW.iload_n q_163_31 rfl ?_
  refine PW.callV (as := [_]) (rest := []) q_163_32 rfl (by decide) rfl (by decide) rfl rfl (Nat.le_of_ble_eq_true rfl) (Nat.le_of_ble_eq_true rfl) (by decide) (by decide) ?_
  refine PW.bipush q_164_0 ?_
  refine PW.istore_n q_164_2 (by decide) ?_
  refine PW.iload_n q_164_3 rfl ?_
  refine PW.if_lt q_164_4 rfl (fun q => absurd q (by decide)) (fun _ => ?_)
  refine PW.aload_n q_164_7 rfl ?_
  refine PW.getf q_164_8 rfl (by decide) rfl rfl ?_
  refine PW.aload_n q_164_11 rfl ?_
  refine PW.getf q_164_12 rfl (by decide) rfl rfl ?_
  refine PW.iload_n q_164_15 rfl ?_
  refine PW.iload_n q_164_16 rfl ?_
  refine PW.ishr q_164_17 ?_
  refine PW.i2b q_164_18 ?_
  refine PW.bast q_164_19 (by decide) rfl (by unfold vp_in; decide) ?_
  refine PW.aload_n q_164_20 rfl ?_
  refine PW.dup q_164_21 rfl ?_
  refine PW.getf q_164_22 rfl (by decide) rfl rfl ?_
  refine PW.iconst q_164_25 ?_
  refine PW.iadd q_164_26 ?_
  refine PW.putf q_164_27 rfl (by decide) rfl rfl rfl (by decide) ?_
  refine PW.iinc q_164_30 rfl (by decide) ?_
  refine PW.goto q_164_33 rfl ?_
  refine PW.iload_n q_164_3 rfl ?_
  refine PW.if_lt q_164_4 rfl (fun q => absurd q (by decide)) (fun _ => ?_)
  refine PW.aload_n q_164_7 rfl ?_
  refine PW.getf q_164_8 rfl (by decide) rfl rfl ?_
  refine PW.aload_n q_164_11 rfl ?_
  refine PW.getf q_164_12 rfl (by decide) rfl rfl ?_
  refine PW.iload_n q_164_15 rfl ?_
  refine PW.iload_n q_164_16 rfl ?_
  refine PW.ishr q_164_17 ?_
  refine PW.i2b q_164_18 ?_
  refine PW.bast q_164_19 (by decide) rfl (by unfold vp_in; decide) ?_
  refine PW.aload_n q_164_20 rfl ?_
  refine PW.dup q_164_21 rfl ?_
  refine PW.getf q_164_22 rfl (by decide) rfl rfl ?_
  refine PW.iconst q_164_25 ?_
  refine PW.iadd q_164_26 ?_
  refine PW.putf q_164_27 rfl (by decide) rfl rfl rfl (by decide) ?_
  refine PW.iinc q_164_30 rfl (by decide) ?_
  refine PW.goto q_164_33 rfl ?_
  refine PW.iload_n q_164_3 rfl ?_
  refine PW.if_lt q_164_4 rfl (fun q => absurd q (by decide)) (fun _ => ?_)
  refine PW.aload_n q_164_7 rfl ?_
  refine PW.getf q_164_8 rfl (by decide) rfl rfl ?_
  refine PW.aload_n q_164_11 rfl ?_
  refine PW.getf q_164_12 rfl (by decide) rfl rfl ?_
  refine PW.iload_n q_164_15 rfl ?_
  refine PW.iload_n q_164_16 rfl ?_
  refine PW.ishr q_164_17 ?_
  refine PW.i2b q_164_18 ?_
  refine PW.bast q_164_19 (by decide) rfl (by unfold vp_in; decide) ?_
  refine PW.aload_n q_164_20 rfl ?_
  refine PW.dup q_164_21 rfl ?_
  refine PW.getf q_164_22 rfl (by decide) rfl rfl ?_
  refine PW.iconst q_164_25 ?_
  refine PW.iadd q_164_26 ?_
  refine PW.putf q_164_27 rfl (by decide) rfl rfl rfl (by decide) ?_
  refine PW.iinc q_164_30 rfl (by decide) ?_
  refine PW.goto q_164_33 rfl ?_
  refine PW.iload_n q_164_3 rfl ?_
  refine PW.if_lt q_164_4 rfl (fun q => absurd q (by decide)) (fun _ => ?_)
  refine PW.aload_n q_164_7 rfl ?_
  refine PW.getf q_164_8 rfl (by decide) rfl rfl ?_
  refine PW.aload_n q_164_11 rfl ?_
  refine PW.getf q_164_12 rfl (by decide) rfl rfl ?_
  refine PW.iload_n q_164_15 rfl ?_
  refine PW.iload_n q_164_16 rfl ?_
  refine PW.ishr q_164_17 ?_
  refine PW.i2b q_164_18 ?_
  refine PW.bast q_164_19 (by decide) rfl (by unfold vp_in; decide) ?_
  refine PW.aload_n q_164_20 rfl ?_
  refine PW.dup q_164_21 rfl ?_
  refine PW.getf q_164_22 rfl (by decide) rfl rfl ?_
  refine PW.iconst q_164_25 ?_
  refine PW.iadd q_164_26 ?_
  refine PW.putf q_164_27 rfl (by decide) rfl rfl rfl (by decide) ?_
  refine PW.iinc q_164_30 rfl (by decide) ?_
  refine PW.goto q_164_33 rfl ?_
  refine PW.iload_n q_164_3 rfl ?_
  refine PW.if_lt q_164_4 rfl (fun _ => ?_) (fun q => absurd (by decide) q)
  refine PW.vret q_164_36 rfl (by decide) (by decide) ?_
  refine PW.aload_n q_163_35 rfl ?_
  refine PW.iload q_163_36 rfl ?_
  refine PW.callV (as := [_]) (rest := []) q_163_38 rfl (by decide) rfl (by decide) rfl rfl (Nat.le_of_ble_eq_true rfl) (Nat.le_of_ble_eq_true rfl) (by decide) (by decide) ?_
  refine PW.bipush q_164_0 ?_
  refine PW.istore_n q_164_2 (by decide) ?_
  refine PW.iload_n q_164_3 rfl ?_
  refine PW.if_lt q_164_4 rfl (fun q => absurd q (by decide)) (fun _ => ?_)
  refine PW.aload_n q_164_7 rfl ?_
  refine PW.getf q_164_8 rfl (by decide) rfl rfl ?_
  refine PW.aload_n q_164_11 rfl ?_
  refine PW.getf q_164_12 rfl (by decide) rfl rfl ?_
  refine PW.iload_n q_164_15 rfl ?_
  refine PW.iload_n q_164_16 rfl ?_
  refine PW.ishr q_164_17 ?_
  refine PW.i2b q_164_18 ?_
  refine PW.bast q_164_19 (by decide) rfl (by unfold vp_in; decide) ?_
  refine PW.aload_n q_164_20 rfl ?_
  refine PW.dup q_164_21 rfl ?_
  refine PW.getf q_164_22 rfl (by decide) rfl rfl ?_
  refine PW.iconst q_164_25 ?_
  refine PW.iadd q_164_26 ?_
  refine PW.putf q_164_27 rfl (by decide) rfl rfl rfl (by decide) ?_
  refine PW.iinc q_164_30 rfl (by decide) ?_
  refine PW.goto q_164_33 rfl ?_
  refine PW.iload_n q_164_3 rfl ?_
  refine PW.if_lt q_164_4 rfl (fun q => absurd q (by decide)) (fun _ => ?_)
  refine PW.aload_n q_164_7 rfl ?_
  refine PW.getf q_164_8 rfl (by decide) rfl rfl ?_
  refine PW.aload_n q_164_11 rfl ?_
  refine PW.getf q_164_12 rfl (by decide) rfl rfl ?_
  refine PW.iload_n q_164_15 rfl ?_
  refine PW.iload_n q_164_16 rfl ?_
  refine PW.ishr q_164_17 ?_
  refine PW.i2b q_164_18 ?_
  refine PW.bast q_164_19 (by decide) rfl (by unfold vp_in; decide) ?_
  refine PW.aload_n q_164_20 rfl ?_
  refine PW.dup q_164_21 rfl ?_
  refine PW.getf q_164_22 rfl (by decide) rfl rfl ?_
  refine PW.iconst q_164_25 ?_
  refine PW.iadd q_164_26 ?_
  refine PW.putf q_164_27 rfl (by decide) rfl rfl rfl (by decide) ?_
  refine PW.iinc q_164_30 rfl (by decide) ?_
  refine PW.goto q_164_33 rfl ?_
  refine PW.iload_n q_164_3 rfl ?_
  refine PW.if_lt q_164_4 rfl (fun q => absurd q (by decide)) (fun _ => ?_)
  refine PW.aload_n q_164_7 rfl ?_
  refine PW.getf q_164_8 rfl (by decide) rfl rfl ?_
  refine PW.aload_n q_164_11 rfl ?_
  refine PW.getf q_164_12 rfl (by decide) rfl rfl ?_
  refine PW.iload_n q_164_15 rfl ?_
  refine PW.iload_n q_164_16 rfl ?_
  refine PW.ishr q_164_17 ?_
  refine PW.i2b q_164_18 ?_
  refine PW.bast q_164_19 (by decide) rfl (by unfold vp_in; decide) ?_
  refine PW.aload_n q_164_20 rfl ?_
  refine PW.dup q_164_21 rfl ?_
  refine PW.getf q_164_22 rfl (by decide) rfl rfl ?_
  refine PW.iconst q_164_25 ?_
  refine PW.iadd q_164_26 ?_
  refine PW.putf q_164_27 rfl (by decide) rfl rfl rfl (by decide) ?_
  refine PW.iinc q_164_30 rfl (by decide) ?_
  refine PW.goto q_164_33 rfl ?_
  refine PW.iload_n q_164_3 rfl ?_
  refine PW.if_lt q_164_4 rfl (fun q => absurd q (by decide)) (fun _ => ?_)
  refine PW.aload_n q_164_7 rfl ?_
  refine PW.getf q_164_8 rfl (by decide) rfl rfl ?_
  refine PW.aload_n q_164_11 rfl ?_
  refine PW.getf q_164_12 rfl (by decide) rfl rfl ?_
  refine PW.iload_n q_164_15 rfl ?_
  refine PW.iload_n q_164_16 rfl ?_
  refine PW.ishr q_164_17 ?_
  refine PW.i2b q_164_18 ?_
  refine PW.bast q_164_19 (by decide) rfl (by unfold vp_in; decide) ?_
  refine PW.aload_n q_164_20 rfl ?_
  refine PW.dup q_164_21 rfl ?_
  refine PW.getf q_164_22 rfl (by decide) rfl rfl ?_
  refine PW.iconst q_164_25 ?_
  refine PW.iadd q_164_26 ?_
  refine PW.putf q_164_27 rfl (by decide) rfl rfl rfl (by decide) ?_
  refine PW.iinc q_164_30 rfl (by decide) ?_
  refine PW.goto q_164_33 rfl ?_
  refine PW.iload_n q_164_3 rfl ?_
  refine PW.if_lt q_164_4 rfl (fun _ => ?_) (fun q => absurd (by decide) q)
  refine PW.vret q_164_36 rfl (by decide) (by decide) ?_
  refine PW.aload_n q_163_41 rfl ?_
  refine PW.iload q_163_42 rfl ?_
  refine PW.callV (as := [_]) (rest := []) q_163_44 rfl (by decide) rfl (by decide) rfl rfl (Nat.le_of_ble_eq_true rfl) (Nat.le_of_ble_eq_true rfl) (by decide) (by decide) ?_
  refine PW.bipush q_164_0 ?_
  refine PW.istore_n q_164_2 (by decide) ?_
  refine PW.iload_n q_164_3 rfl ?_
  refine PW.if_lt q_164_4 rfl (fun q => absurd q (by decide)) (fun _ => ?_)
  refine PW.aload_n q_164_7 rfl ?_
  refine PW.getf q_164_8 rfl (by decide) rfl rfl ?_
  refine PW.aload_n q_164_11 rfl ?_
  refine PW.getf q_164_12 rfl (by decide) rfl rfl ?_
  refine PW.iload_n q_164_15 rfl ?_
  refine PW.iload_n q_164_16 rfl ?_
  refine PW.ishr q_164_17 ?_
  refine PW.i2b q_164_18 ?_
  refine PW.bast q_164_19 (by decide) rfl (by unfold vp_in; decide) ?_
  refine PW.aload_n q_164_20 rfl ?_
  refine PW.dup q_164_21 rfl ?_
  refine PW.getf q_164_22 rfl (by decide) rfl rfl ?_
  refine PW.iconst q_164_25 ?_
  refine PW.iadd q_164_26 ?_
  refine PW.putf q_164_27 rfl (by decide) rfl rfl rfl (by decide) ?_
  refine PW.iinc q_164_30 rfl (by decide) ?_
  refine PW.goto q_164_33 rfl ?_
  refine PW.iload_n q_164_3 rfl ?_
  refine PW.if_lt q_164_4 rfl (fun q => absurd q (by decide)) (fun _ => ?_)
  refine PW.aload_n q_164_7 rfl ?_
  refine PW.getf q_164_8 rfl (by decide) rfl rfl ?_
  refine PW.aload_n q_164_11 rfl ?_
  refine PW.getf q_164_12 rfl (by decide) rfl rfl ?_
  refine PW.iload_n q_164_15 rfl ?_
  refine PW.iload_n q_164_16 rfl ?_
  refine PW.ishr q_164_17 ?_
  refine PW.i2b q_164_18 ?_
  refine PW.bast q_164_19 (by decide) rfl (by unfold vp_in; decide) ?_
  refine PW.aload_n q_164_20 rfl ?_
  refine PW.dup q_164_21 rfl ?_
  refine PW.getf q_164_22 rfl (by decide) rfl rfl ?_
  refine PW.iconst q_164_25 ?_
  refine PW.iadd q_164_26 ?_
  refine PW.putf q_164_27 rfl (by decide) rfl rfl rfl (by decide) ?_
  refine PW.iinc q_164_30 rfl (by decide) ?_
  refine PW.goto q_164_33 rfl ?_
  refine PW.iload_n q_164_3 rfl ?_
  refine PW.if_lt q_164_4 rfl (fun q => absurd q (by decide)) (fun _ => ?_)
  refine PW.aload_n q_164_7 rfl ?_
  refine PW.getf q_164_8 rfl (by decide) rfl rfl ?_
  refine PW.aload_n q_164_11 rfl ?_
  refine PW.getf q_164_12 rfl (by decide) rfl rfl ?_
  refine PW.iload_n q_164_15 rfl ?_
  refine PW.iload_n q_164_16 rfl ?_
  refine PW.ishr q_164_17 ?_
  refine PW.i2b q_164_18 ?_
  refine PW.bast q_164_19 (by decide) rfl (by unfold vp_in; decide) ?_
  refine PW.aload_n q_164_20 rfl ?_
  refine PW.dup q_164_21 rfl ?_
  refine PW.getf q_164_22 rfl (by decide) rfl rfl ?_
  refine PW.iconst q_164_25 ?_
  refine PW.iadd q_164_26 ?_
  refine PW.putf q_164_27 rfl (by decide) rfl rfl rfl (by decide) ?_
  refine PW.iinc q_164_30 rfl (by decide) ?_
  refine PW.goto q_164_33 rfl ?_
  refine PW.iload_n q_164_3 rfl ?_
  refine PW.if_lt q_164_4 rfl (fun q => absurd q (by decide)) (fun _ => ?_)
  refine PW.aload_n q_164_7 rfl ?_
  refine PW.getf q_164_8 rfl (by decide) rfl rfl ?_
  refine PW.aload_n q_164_11 rfl ?_
  refine PW.getf q_164_12 rfl (by decide) rfl rfl ?_
  refine PW.iload_n q_164_15 rfl ?_
  refine PW.iload_n q_164_16 rfl ?_
  refine PW.ishr q_164_17 ?_
  refine PW.i2b q_164_18 ?_
  refine PW.bast q_164_19 (by decide) rfl (by unfold vp_in; decide) ?_
  refine PW.aload_n q_164_20 rfl ?_
  refine PW.dup q_164_21 rfl ?_
  refine PW.getf q_164_22 rfl (by decide) rfl rfl ?_
  refine PW.iconst q_164_25 ?_
  refine PW.iadd q_164_26 ?_
  refine PW.putf q_164_27 rfl (by decide) rfl rfl rfl (by decide) ?_
  refine PW.iinc q_164_30 rfl (by decide) ?_
  refine PW.goto q_164_33 rfl ?_
  refine PW.iload_n q_164_3 rfl ?_
  refine PW.if_lt q_164_4 rfl (fun _ => ?_) (fun q => absurd (by decide) q)
  refine PW.vret q_164_36 rfl (by decide) (by decide) ?_
  refine PW.aload_n q_163_47 rfl ?_
  refine PW.getf q_163_48 rfl (by decide) rfl rfl ?_
  refine PW.iret q_163_51 rfl (by decide) (by decide) ?_
  refine PW.icmp_eq q_285_296 rfl (fun _ => ?_) (fun q => absurd (by decide) q)
  exact law_tail G hL _
