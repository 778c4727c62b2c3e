theorem q_98_0 : p_tb 98 0 = some (.aload_n 0, 1) := by decide +kernel
theorem q_98_1 : p_tb 98 1 = some (.getfield 10, 3) := by decide +kernel
theorem q_98_4 : p_tb 98 4 = some (.aload_n 1, 1) := by decide +kernel
theorem q_98_5 : p_tb 98 5 = some (.getfield 10, 3) := by decide +kernel
theorem q_98_8 : p_tb 98 8 = some (.invokevirtual 30, 3) := by decide +kernel
theorem q_98_11 : p_tb 98 11 = some (.aload_n 0, 1) := by decide +kernel
theorem q_98_12 : p_tb 98 12 = some (.getfield 19, 3) := by decide +kernel
theorem q_98_15 : p_tb 98 15 = some (.aload_n 1, 1) := by decide +kernel
theorem q_98_16 : p_tb 98 16 = some (.getfield 19, 3) := by decide +kernel
theorem q_98_19 : p_tb 98 19 = some (.invokevirtual 34, 3) := by decide +kernel
theorem q_98_22 : p_tb 98 22 = some (.aload_n 0, 1) := by decide +kernel
theorem q_98_23 : p_tb 98 23 = some (.getfield 26, 3) := by decide +kernel
theorem q_98_26 : p_tb 98 26 = some (.aload_n 1, 1) := by decide +kernel
theorem q_98_27 : p_tb 98 27 = some (.getfield 26, 3) := by decide +kernel
theorem q_98_30 : p_tb 98 30 = some (.invokevirtual 37, 3) := by decide +kernel
theorem q_98_33 : p_tb 98 33 = some (.return_, 1) := by decide +kernel
theorem t_ft_98_10 : p_f2 p_ft (p_mK 98) 10 = some (9, 0) := by decide +kernel
theorem t_ft_98_19 : p_f2 p_ft (p_mK 98) 19 = some (9, 1) := by decide +kernel
theorem t_ft_98_26 : p_f2 p_ft (p_mK 98) 26 = some (9, 2) := by decide +kernel
theorem t_mv_98_30 : p_f2 p_mv (p_mK 98) 30 = some 21 := by decide +kernel
theorem t_mv_98_34 : p_f2 p_mv (p_mK 98) 34 = some 48 := by decide +kernel
theorem t_mv_98_37 : p_f2 p_mv (p_mK 98) 37 = some 34 := by decide +kernel
theorem c_X10_copyFrom (G : pG) (Kr : pK) (M : pM) (I : Iv gTT M) (k0 : Nat) (hk_k0 : g_kd k0 = 3) (k1 : Nat) (hk_k1 : g_kd k1 = 3) (hK : ∀ (M1 : pM), Iv gTT M1 → Fr [4, 5, 7, 9, 10, 11, 12, 13, 14, 15, 16, 17, 27, 28, 29, 30, 31, 32, 33, 34, 35, 36] M M1 → Kr.1 none 311 M1) : PW G false 4 98 (p_mc 98) (p_msl 98) Kr 0 (lv_args 0 [.ref k0, .ref k1]) [] 311 M 0 0 := by
  have F : Fr [4, 5, 7, 9, 10, 11, 12, 13, 14, 15, 16, 17, 27, 28, 29, 30, 31, 32, 33, 34, 35, 36] M M := Fr.refl
  refine PW.aload_n q_98_0 rfl ?_
  refine PW.gRk q_98_1 (Or.inl t_ft_98_10) gF_3_0 hk_k0 I.1 (by decide) fun b1 hk_b1 e_b1 => ?_
  refine PW.aload_n q_98_4 rfl ?_
  refine PW.gRk q_98_5 (Or.inl t_ft_98_10) gF_3_0 hk_k1 I.1 (by decide) fun b2 hk_b2 e_b2 => ?_
  refine PW.cV (as := [_]) (rest := []) q_98_8 t_mv_98_30 hk_b1 I.1 (by decide) rfl (by decide) rfl rfl (Nat.le_of_ble_eq_true rfl) (Nat.le_of_ble_eq_true rfl) (by decide) (by decide) ?_
  refine PW.up (by decide) (c_X3_copyFrom G _ M I b1 hk_b1 b2 hk_b2 fun M3 IM3 GM3 => ?_)
  have FM3 := Fr.trans F GM3 (rfl)
  refine PW.aload_n q_98_11 rfl ?_
  refine PW.gRk q_98_12 (Or.inl t_ft_98_19) gF_3_1 hk_k0 IM3.1 (by decide) fun b4 hk_b4 e_b4 => ?_
  refine PW.aload_n q_98_15 rfl ?_
  refine PW.gRk q_98_16 (Or.inl t_ft_98_19) gF_3_1 hk_k1 IM3.1 (by decide) fun b5 hk_b5 e_b5 => ?_
  refine PW.cV (as := [_]) (rest := []) q_98_19 t_mv_98_34 hk_b4 IM3.1 (by decide) rfl (by decide) rfl rfl (Nat.le_of_ble_eq_true rfl) (Nat.le_of_ble_eq_true rfl) (by decide) (by decide) ?_
  refine PW.up (by decide) (c_X5_copyFrom G _ M3 IM3 b4 hk_b4 b5 hk_b5 fun M6 IM6 GM6 => ?_)
  have FM6 := Fr.trans FM3 GM6 (rfl)
  refine PW.aload_n q_98_22 rfl ?_
  refine PW.gRk q_98_23 (Or.inl t_ft_98_26) gF_3_2 hk_k0 IM6.1 (by decide) fun b7 hk_b7 e_b7 => ?_
  refine PW.aload_n q_98_26 rfl ?_
  refine PW.gRk q_98_27 (Or.inl t_ft_98_26) gF_3_2 hk_k1 IM6.1 (by decide) fun b8 hk_b8 e_b8 => ?_
  refine PW.cV (as := [_]) (rest := []) q_98_30 t_mv_98_37 hk_b7 IM6.1 (by decide) rfl (by decide) rfl rfl (Nat.le_of_ble_eq_true rfl) (Nat.le_of_ble_eq_true rfl) (by decide) (by decide) ?_
  refine PW.up (by decide) (c_X4_copyFrom (gTT) (Stab0) G _ M6 IM6 b7 hk_b7 b8 hk_b8 fun M9 IM9 GM9 => ?_)
  have FM9 := Fr.trans FM6 GM9 (rfl)
  refine PW.vret q_98_33 rfl (by decide) (by decide) ?_
  exact hK M9 IM9 FM9
