theorem c_X5_whyNot_vk (V : pM → Prop) (hV : Stab V) (G : pG) (Kr : pK) (M : pM) (I : Iv V M) (k0 : Nat) (hk_k0 : g_kd k0 = 5) (r1 : Nat) (hr1 : r1 < 28) (a2 : Int32) (hl_a2 : 0 ≤ a2.toInt) (hh_a2 : a2.toInt ≤ 5) (hp_0 : r1 = 13 ∨ r1 = 14) (hK : ∀ (x : Int32) (M1 : pM), Iv V M1 → Fr [] M M1 → 0 ≤ x.toInt → x.toInt ≤ 0 → Kr.1 (some (.int x)) 311 M1) : PW G false 0 54 (p_mc 54) (p_msl 54) Kr 0 (lv_args 0 [.ref k0, .ref (65536 + r1), .int a2]) [] 311 M 0 0 := by
  have F : Fr [] M M := Fr.refl
  refine PW.aload_n q_54_0 rfl ?_
  refine PW.gets q_54_1 t_st_54_97 ?_
  refine PW.jw_ne q_54_4 rfl hr1 (by decide) (fun h1 => ?_) (fun h1 => ?_)
  · skip
    refine PW.aload_n q_54_25 rfl ?_
    refine PW.gets q_54_26 t_st_54_103 ?_
    refine PW.jw_ne q_54_29 rfl hr1 (by decide) (fun h2 => ?_) (fun h2 => ?_)
    · skip
      refine PW.aload_n q_54_50 rfl ?_
      refine PW.gets q_54_51 t_st_54_106 ?_
      refine PW.jw_ne q_54_54 rfl hr1 (by decide) (fun h3 => ?_) (fun h3 => ?_)
      · skip
        refine PW.cI q_54_69 (by decide) fun c4 hc4 => ?_
        refine PW.rI q_54_70 rfl (by decide) (by decide) ?_
        exact hK c4 M I F (by omega) (by omega)
      · skip
        refine PW.aload_n q_54_57 rfl ?_
        refine PW.gI q_54_58 (Or.inl t_ft_54_9) gF_5_1 hk_k0 I.1 (by decide) fun x5 fx5 hx5 kx5 => ?_
        have ix5 := o_i_of fx5
        clear hx5 kx5
        refine PW.iload_n q_54_61 rfl ?_
        refine PW.jc_ne q_54_62 rfl (fun h6 => ?_) (fun h6 => ?_)
        · skip
          refine PW.cI q_54_69 (by decide) fun c7 hc7 => ?_
          refine PW.rI q_54_70 rfl (by decide) (by decide) ?_
          exact hK c7 M I F (by omega) (by omega)
        · skip
          refine PW.cI q_54_65 (by decide) fun c8 hc8 => ?_
          refine PW.goto q_54_66 rfl ?_
          refine PW.rI q_54_70 rfl (by decide) (by decide) ?_
          exact hK c8 M I F (by omega) (by omega)
    · skip
      refine PW.aload_n q_54_32 rfl ?_
      refine PW.gRk q_54_33 (Or.inl t_ft_54_20) gF_5_3 hk_k0 I.1 (by decide) fun b9 hk_b9 e_b9 => ?_
      refine PW.iload_n q_54_36 rfl ?_
      refine PW.aRk q_54_37 rfl (by decide) (by decide) hk_b9 I.1 (by decide) (by omega) (by omega) fun b10 hk_b10 e_b10 => ?_
      refine PW.gI q_54_38 (Or.inr t_fN_54_88) gF_7_2 hk_b10 I.1 (by decide) fun x11 fx11 hx11 kx11 => ?_
      have ix11 := o_i_of fx11
      refine PW.jz_eq q_54_41 rfl (fun h12 => ?_) (fun h12 => ?_)
      · skip
        refine PW.cI q_54_48 (by decide) fun c13 hc13 => ?_
        refine PW.rI q_54_49 rfl (by decide) (by decide) ?_
        exact hK c13 M I F (by omega) (by omega)
      · skip
        refine PW.cI q_54_44 (by decide) fun c14 hc14 => ?_
        refine PW.goto q_54_45 rfl ?_
        refine PW.rI q_54_49 rfl (by decide) (by decide) ?_
        exact hK c14 M I F (by omega) (by omega)
  · skip
    refine PW.aload_n q_54_7 rfl ?_
    refine PW.gRk q_54_8 (Or.inl t_ft_54_20) gF_5_3 hk_k0 I.1 (by decide) fun b15 hk_b15 e_b15 => ?_
    refine PW.iload_n q_54_11 rfl ?_
    refine PW.aRk q_54_12 rfl (by decide) (by decide) hk_b15 I.1 (by decide) (by omega) (by omega) fun b16 hk_b16 e_b16 => ?_
    refine PW.gI q_54_13 (Or.inr t_fN_54_88) gF_7_2 hk_b16 I.1 (by decide) fun x17 fx17 hx17 kx17 => ?_
    have ix17 := o_i_of fx17
    refine PW.jz_eq q_54_16 rfl (fun h18 => ?_) (fun h18 => ?_)
    · skip
      refine PW.cI q_54_23 (by decide) fun c19 hc19 => ?_
      refine PW.rI q_54_24 rfl (by decide) (by decide) ?_
      exact hK c19 M I F (by omega) (by omega)
    · skip
      refine PW.cI q_54_19 (by decide) fun c20 hc20 => ?_
      refine PW.goto q_54_20 rfl ?_
      refine PW.rI q_54_24 rfl (by decide) (by decide) ?_
      exact hK c20 M I F (by omega) (by omega)
theorem c_X11_act_vk (G : pG) (Kr : pK) (M : pM) (I : Iv gTT M) (r1 : Nat) (hr1 : r1 < 28) (a2 : Int32) (hp_0 : r1 = 13 ∨ r1 = 14) (hK : ∀ (x : Int32) (M1 : pM), Iv gTT M1 → Fr [5, 7, 9, 10, 11, 12, 13, 21] M M1 → ((x.toInt = 0 ∧ 0 ≤ a2.toInt ∧ a2.toInt < o_i (M 4) 6) ∨ (x.toInt = -1 ∧ (a2.toInt < 0 ∨ o_i (M 4) 6 ≤ a2.toInt))) → Kr.1 (some (.int x)) 311 M1) : PW G false 5 145 (p_mc 145) (p_msl 145) Kr 0 (lv_args 0 [.ref 0, .ref (65536 + r1), .int a2]) [] 311 M 0 0 := by
  have F : Fr [5, 7, 9, 10, 11, 12, 13, 21] M M := Fr.refl
  refine PW.aload_n q_145_0 rfl ?_
  refine PW.iload_n q_145_1 rfl ?_
  refine PW.cV (as := [_]) (rest := []) q_145_2 t_mv_145_169 kd_0 I.1 (by decide) rfl (by decide) rfl rfl (Nat.le_of_ble_eq_true rfl) (Nat.le_of_ble_eq_true rfl) (by decide) (by decide) ?_
  refine PW.iload_n q_143_0 rfl ?_
  refine PW.jz_lt q_143_1 rfl (fun h1 => ?_) (fun h1 => ?_)
  · skip
    refine PW.cI q_143_22 (by decide) fun c2 hc2 => ?_
    refine PW.rZ q_143_23 rfl (by omega) (by omega) (by decide) (by decide) ?_
    refine PW.jz_ne q_145_5 rfl (fun h3 => False.elim (by omega)) (fun h3 => ?_)
    refine PW.cI q_145_8 (by decide) fun c4 hc4 => ?_
    refine PW.rI q_145_9 rfl (by decide) (by decide) ?_
    exact hK c4 M I F (by omega)
  · skip
    refine PW.iload_n q_143_4 rfl ?_
    refine PW.aload_n q_143_5 rfl ?_
    refine PW.gR 3 q_143_6 (Or.inl t_ft_143_19) gF_0_1 kd_0 I.1 (by decide) rfl ?_
    refine PW.gR 4 q_143_9 (Or.inr t_fN_143_94) gF_3_0 kd_3 I.1 (by decide) rfl ?_
    refine PW.gI q_143_12 (Or.inr t_fN_143_136) gF_4_6 kd_4 I.1 (by decide) fun x5 fx5 hx5 kx5 => ?_
    have ix5 := o_i_of fx5
    refine PW.jc_ge q_143_15 rfl (fun h6 => ?_) (fun h6 => ?_)
    · skip
      refine PW.cI q_143_22 (by decide) fun c7 hc7 => ?_
      refine PW.rZ q_143_23 rfl (by omega) (by omega) (by decide) (by decide) ?_
      refine PW.jz_ne q_145_5 rfl (fun h8 => False.elim (by omega)) (fun h8 => ?_)
      refine PW.cI q_145_8 (by decide) fun c9 hc9 => ?_
      refine PW.rI q_145_9 rfl (by decide) (by decide) ?_
      exact hK c9 M I F (by omega)
    · skip
      refine PW.cI q_143_18 (by decide) fun c10 hc10 => ?_
      refine PW.goto q_143_19 rfl ?_
      refine PW.rZ q_143_23 rfl (by omega) (by omega) (by decide) (by decide) ?_
      refine PW.jz_ne q_145_5 rfl (fun h11 => ?_) (fun h11 => False.elim (by omega))
      refine PW.aload_n q_145_10 rfl ?_
      refine PW.gR 3 q_145_11 (Or.inl t_ft_145_19) gF_0_1 kd_0 I.1 (by decide) rfl ?_
      refine PW.gR 15 q_145_14 (Or.inr t_fN_145_101) gF_3_1 kd_3 I.1 (by decide) rfl ?_
      refine PW.aload_n q_145_17 rfl ?_
      refine PW.iload_n q_145_18 rfl ?_
      refine PW.cV (as := [_, _]) (rest := []) q_145_19 t_mv_145_376 kd_15 I.1 (by decide) rfl (by decide) rfl rfl (Nat.le_of_ble_eq_true rfl) (Nat.le_of_ble_eq_true rfl) (by decide) (by decide) ?_
      refine PW.up (by decide) (c_X5_whyNot_vk (gTT) (Stab0) G _ M I 15 kd_15 r1 hr1 a2 (by omega) (by omega) (by omega) fun x13 M12 IM12 GM12 hx13 kx13 => ?_)
      have FM12 := Fr.trans F GM12 (rfl)
      refine PW.istore_n q_145_22 (by decide) ?_
      refine PW.iload_n q_145_23 rfl ?_
      refine PW.jz_ne q_145_24 rfl (fun h14 => False.elim (by omega)) (fun h14 => ?_)
      refine PW.aload_n q_145_27 rfl ?_
      refine PW.gR 110 q_145_28 (Or.inl t_ft_145_34) gF_0_4 kd_0 IM12.1 (by decide) rfl ?_
      refine PW.aload_n q_145_31 rfl ?_
      refine PW.gR 3 q_145_32 (Or.inl t_ft_145_19) gF_0_1 kd_0 IM12.1 (by decide) rfl ?_
      refine PW.gR 15 q_145_35 (Or.inr t_fN_145_101) gF_3_1 kd_3 IM12.1 (by decide) rfl ?_
      refine PW.cV (as := [_]) (rest := []) q_145_38 t_mv_145_147 kd_110 IM12.1 (by decide) rfl (by decide) rfl rfl (Nat.le_of_ble_eq_true rfl) (Nat.le_of_ble_eq_true rfl) (by decide) (by decide) ?_
      refine PW.up (by decide) (c_X1_keep G _ M12 IM12 15 kd_15 fun M15 IM15 GM15 => ?_)
      have FM15 := Fr.trans FM12 GM15 (rfl)
      refine PW.aload_n q_145_41 rfl ?_
      refine PW.gR 3 q_145_42 (Or.inl t_ft_145_19) gF_0_1 kd_0 IM15.1 (by decide) rfl ?_
      refine PW.gR 15 q_145_45 (Or.inr t_fN_145_101) gF_3_1 kd_3 IM15.1 (by decide) rfl ?_
      refine PW.aload_n q_145_48 rfl ?_
      refine PW.iload_n q_145_49 rfl ?_
      refine PW.cV (as := [_, _]) (rest := []) q_145_50 t_mv_145_379 kd_15 IM15.1 (by decide) rfl (by decide) rfl rfl (Nat.le_of_ble_eq_true rfl) (Nat.le_of_ble_eq_true rfl) (by decide) (by decide) ?_
      refine PW.up (by decide) (c_X5_perform (gTT) (Stab0) G _ M15 IM15 15 kd_15 r1 hr1 a2 (by omega) (by omega) fun M16 IM16 GM16 => ?_)
      have FM16 := Fr.trans FM15 GM16 (rfl)
      refine PW.iload_n q_145_53 rfl ?_
      refine PW.rI q_145_54 rfl (by decide) (by decide) ?_
      exact hK x13 M16 IM16 FM16 (by omega)
theorem c_X11_turn_vk (G : pG) (Kr : pK) (M : pM) (I : Iv gTT M) (a1 : Int32) (hK : ∀ (x : Int32) (M1 : pM), Iv gTT M1 → Fr [5, 7, 9, 10, 11, 12, 13, 21] M M1 → ((x.toInt = 0 ∧ 0 ≤ a1.toInt ∧ a1.toInt < o_i (M 4) 6) ∨ (x.toInt = -1 ∧ (a1.toInt < 0 ∨ o_i (M 4) 6 ≤ a1.toInt))) → Kr.1 (some (.int x)) 311 M1) : PW G false 6 119 (p_mc 119) (p_msl 119) Kr 0 (lv_args 0 [.ref 0, .int a1]) [] 311 M 0 0 := by
  have F : Fr [5, 7, 9, 10, 11, 12, 13, 21] M M := Fr.refl
  refine PW.aload_n q_119_0 rfl ?_
  refine PW.gets q_119_1 t_st_119_286 ?_
  refine PW.iload_n q_119_4 rfl ?_
  refine PW.cV (as := [_, _]) (rest := []) q_119_5 t_mv_119_279 kd_0 I.1 (by decide) rfl (by decide) rfl rfl (Nat.le_of_ble_eq_true rfl) (Nat.le_of_ble_eq_true rfl) (by decide) (by decide) ?_
  refine PW.up (by decide) (c_X11_act_vk G _ M I 13 (by decide) a1 (by omega) fun x2 M1 IM1 GM1 PM1 => ?_)
  have FM1 := Fr.trans F GM1 (rfl)
  refine PW.rI q_119_8 rfl (by decide) (by decide) ?_
  exact hK x2 M1 IM1 FM1 (by omega)
theorem c_X11_call_vk (G : pG) (Kr : pK) (M : pM) (I : Iv gTT M) (a1 : Int32) (hK : ∀ (x : Int32) (M1 : pM), Iv gTT M1 → Fr [5, 7, 9, 10, 11, 12, 13, 21] M M1 → ((x.toInt = 0 ∧ 0 ≤ a1.toInt ∧ a1.toInt < o_i (M 4) 6) ∨ (x.toInt = -1 ∧ (a1.toInt < 0 ∨ o_i (M 4) 6 ≤ a1.toInt))) → Kr.1 (some (.int x)) 311 M1) : PW G false 6 120 (p_mc 120) (p_msl 120) Kr 0 (lv_args 0 [.ref 0, .int a1]) [] 311 M 0 0 := by
  have F : Fr [5, 7, 9, 10, 11, 12, 13, 21] M M := Fr.refl
  refine PW.aload_n q_120_0 rfl ?_
  refine PW.gets q_120_1 t_st_120_289 ?_
  refine PW.iload_n q_120_4 rfl ?_
  refine PW.cV (as := [_, _]) (rest := []) q_120_5 t_mv_120_279 kd_0 I.1 (by decide) rfl (by decide) rfl rfl (Nat.le_of_ble_eq_true rfl) (Nat.le_of_ble_eq_true rfl) (by decide) (by decide) ?_
  refine PW.up (by decide) (c_X11_act_vk G _ M I 14 (by decide) a1 (by omega) fun x2 M1 IM1 GM1 PM1 => ?_)
  have FM1 := Fr.trans F GM1 (rfl)
  refine PW.rI q_120_8 rfl (by decide) (by decide) ?_
  exact hK x2 M1 IM1 FM1 (by omega)
