theorem q_12_0 : p_tb 12 0 = some (.aload_n 0, 1) := by decide +kernel
theorem q_12_1 : p_tb 12 1 = some (.iconst 0, 1) := by decide +kernel
theorem q_12_2 : p_tb 12 2 = some (.putfield 18, 3) := by decide +kernel
theorem q_12_5 : p_tb 12 5 = some (.aload_n 0, 1) := by decide +kernel
theorem q_12_6 : p_tb 12 6 = some (.iconst 0, 1) := by decide +kernel
theorem q_12_7 : p_tb 12 7 = some (.putfield 22, 3) := by decide +kernel
theorem q_12_10 : p_tb 12 10 = some (.return_, 1) := by decide +kernel
theorem t_ft_12_18 : p_f2 p_ft (p_mK 12) 18 = some (1, 1) := by decide +kernel
theorem t_ft_12_22 : p_f2 p_ft (p_mK 12) 22 = some (1, 2) := by decide +kernel
theorem q_13_0 : p_tb 13 0 = some (.aload_n 0, 1) := by decide +kernel
theorem q_13_1 : p_tb 13 1 = some (.getfield 11, 3) := by decide +kernel
theorem q_13_4 : p_tb 13 4 = some (.aload_n 0, 1) := by decide +kernel
theorem q_13_5 : p_tb 13 5 = some (.getfield 18, 3) := by decide +kernel
theorem q_13_8 : p_tb 13 8 = some (.aload_n 0, 1) := by decide +kernel
theorem q_13_9 : p_tb 13 9 = some (.getfield 22, 3) := by decide +kernel
theorem q_13_12 : p_tb 13 12 = some (.iadd, 1) := by decide +kernel
theorem q_13_13 : p_tb 13 13 = some (.bipush 8, 2) := by decide +kernel
theorem q_13_15 : p_tb 13 15 = some (.irem, 1) := by decide +kernel
theorem q_13_16 : p_tb 13 16 = some (.aaload, 1) := by decide +kernel
theorem q_13_17 : p_tb 13 17 = some (.aload_n 1, 1) := by decide +kernel
theorem q_13_18 : p_tb 13 18 = some (.invokevirtual 25, 3) := by decide +kernel
theorem q_13_21 : p_tb 13 21 = some (.aload_n 0, 1) := by decide +kernel
theorem q_13_22 : p_tb 13 22 = some (.getfield 22, 3) := by decide +kernel
theorem q_13_25 : p_tb 13 25 = some (.bipush 8, 2) := by decide +kernel
theorem q_13_27 : p_tb 13 27 = some (.if_icmp .ge 16, 3) := by decide +kernel
theorem q_13_30 : p_tb 13 30 = some (.aload_n 0, 1) := by decide +kernel
theorem q_13_31 : p_tb 13 31 = some (.dup, 1) := by decide +kernel
theorem q_13_32 : p_tb 13 32 = some (.getfield 22, 3) := by decide +kernel
theorem q_13_35 : p_tb 13 35 = some (.iconst 1, 1) := by decide +kernel
theorem q_13_36 : p_tb 13 36 = some (.iadd, 1) := by decide +kernel
theorem q_13_37 : p_tb 13 37 = some (.putfield 22, 3) := by decide +kernel
theorem q_13_40 : p_tb 13 40 = some (.goto 16, 3) := by decide +kernel
theorem q_13_43 : p_tb 13 43 = some (.aload_n 0, 1) := by decide +kernel
theorem q_13_44 : p_tb 13 44 = some (.aload_n 0, 1) := by decide +kernel
theorem q_13_45 : p_tb 13 45 = some (.getfield 18, 3) := by decide +kernel
theorem q_13_48 : p_tb 13 48 = some (.iconst 1, 1) := by decide +kernel
theorem q_13_49 : p_tb 13 49 = some (.iadd, 1) := by decide +kernel
theorem q_13_50 : p_tb 13 50 = some (.bipush 8, 2) := by decide +kernel
theorem q_13_52 : p_tb 13 52 = some (.irem, 1) := by decide +kernel
theorem q_13_53 : p_tb 13 53 = some (.putfield 18, 3) := by decide +kernel
theorem q_13_56 : p_tb 13 56 = some (.return_, 1) := by decide +kernel
theorem t_ft_13_11 : p_f2 p_ft (p_mK 13) 11 = some (1, 0) := by decide +kernel
theorem t_ft_13_18 : p_f2 p_ft (p_mK 13) 18 = some (1, 1) := by decide +kernel
theorem t_ft_13_22 : p_f2 p_ft (p_mK 13) 22 = some (1, 2) := by decide +kernel
theorem t_mv_13_25 : p_f2 p_mv (p_mK 13) 25 = some 48 := by decide +kernel
theorem q_14_0 : p_tb 14 0 = some (.aload_n 0, 1) := by decide +kernel
theorem q_14_1 : p_tb 14 1 = some (.getfield 22, 3) := by decide +kernel
theorem q_14_4 : p_tb 14 4 = some (.ifCond .le 34, 3) := by decide +kernel
theorem q_14_7 : p_tb 14 7 = some (.aload_n 0, 1) := by decide +kernel
theorem q_14_8 : p_tb 14 8 = some (.dup, 1) := by decide +kernel
theorem q_14_9 : p_tb 14 9 = some (.getfield 22, 3) := by decide +kernel
theorem q_14_12 : p_tb 14 12 = some (.iconst 1, 1) := by decide +kernel
theorem q_14_13 : p_tb 14 13 = some (.isub, 1) := by decide +kernel
theorem q_14_14 : p_tb 14 14 = some (.putfield 22, 3) := by decide +kernel
theorem q_14_17 : p_tb 14 17 = some (.aload_n 1, 1) := by decide +kernel
theorem q_14_18 : p_tb 14 18 = some (.aload_n 0, 1) := by decide +kernel
theorem q_14_19 : p_tb 14 19 = some (.getfield 11, 3) := by decide +kernel
theorem q_14_22 : p_tb 14 22 = some (.aload_n 0, 1) := by decide +kernel
theorem q_14_23 : p_tb 14 23 = some (.getfield 18, 3) := by decide +kernel
theorem q_14_26 : p_tb 14 26 = some (.aload_n 0, 1) := by decide +kernel
theorem q_14_27 : p_tb 14 27 = some (.getfield 22, 3) := by decide +kernel
theorem q_14_30 : p_tb 14 30 = some (.iadd, 1) := by decide +kernel
theorem q_14_31 : p_tb 14 31 = some (.bipush 8, 2) := by decide +kernel
theorem q_14_33 : p_tb 14 33 = some (.irem, 1) := by decide +kernel
theorem q_14_34 : p_tb 14 34 = some (.aaload, 1) := by decide +kernel
theorem q_14_35 : p_tb 14 35 = some (.invokevirtual 25, 3) := by decide +kernel
theorem q_14_38 : p_tb 14 38 = some (.return_, 1) := by decide +kernel
theorem t_ft_14_11 : p_f2 p_ft (p_mK 14) 11 = some (1, 0) := by decide +kernel
theorem t_ft_14_18 : p_f2 p_ft (p_mK 14) 18 = some (1, 1) := by decide +kernel
theorem t_ft_14_22 : p_f2 p_ft (p_mK 14) 22 = some (1, 2) := by decide +kernel
theorem t_mv_14_25 : p_f2 p_mv (p_mK 14) 25 = some 48 := by decide +kernel
theorem c_X1_forget (V : pM → Prop) (hV : Stab V) (G : pG) (Kr : pK) (M : pM) (I : Iv V M)  (hK : ∀ (M1 : pM), Iv V M1 → Fr [21] M M1 → Kr.1 none 311 M1) : PW G false 0 12 (p_mc 12) (p_msl 12) Kr 0 (lv_args 0 [.ref 110]) [] 311 M 0 0 := by
  have F : Fr [21] M M := Fr.refl
  refine PW.aload_n q_12_0 rfl ?_
  refine PW.cI q_12_1 (by decide) fun c1 hc1 => ?_
  refine PW.pI q_12_2 (Or.inl t_ft_12_18) gF_21_1 gP_21_1 kd_110 hV I (by decide) rfl (by omega) (by omega) fun M2 IM2 fM2 UM2 => ?_
  have FM2 := Fr.pu F UM2.1 kd_110 (rfl : List.contains [21] 21 = true)
  refine PW.aload_n q_12_5 rfl ?_
  refine PW.cI q_12_6 (by decide) fun c3 hc3 => ?_
  refine PW.pI q_12_7 (Or.inl t_ft_12_22) gF_21_2 gP_21_2 kd_110 hV IM2 (by decide) rfl (by omega) (by omega) fun M4 IM4 fM4 UM4 => ?_
  have FM4 := Fr.pu FM2 UM4.1 kd_110 (rfl : List.contains [21] 21 = true)
  refine PW.vret q_12_10 rfl (by decide) (by decide) ?_
  exact hK M4 IM4 FM4
theorem c_X1_keep (G : pG) (Kr : pK) (M : pM) (I : Iv gTT M) (k1 : Nat) (hk_k1 : g_kd k1 = 5) (hK : ∀ (M1 : pM), Iv gTT M1 → Fr [5, 7, 9, 10, 11, 12, 13, 21] M M1 → Kr.1 none 311 M1) : PW G false 4 13 (p_mc 13) (p_msl 13) Kr 0 (lv_args 0 [.ref 110, .ref k1]) [] 311 M 0 0 := by
  have F : Fr [5, 7, 9, 10, 11, 12, 13, 21] M M := Fr.refl
  refine PW.aload_n q_13_0 rfl ?_
  refine PW.gR 111 q_13_1 (Or.inl t_ft_13_11) gF_21_0 kd_110 I.1 (by decide) rfl ?_
  refine PW.aload_n q_13_4 rfl ?_
  refine PW.gI q_13_5 (Or.inl t_ft_13_18) gF_21_1 kd_110 I.1 (by decide) fun x1 fx1 hx1 kx1 => ?_
  refine PW.aload_n q_13_8 rfl ?_
  refine PW.gI q_13_9 (Or.inl t_ft_13_22) gF_21_2 kd_110 I.1 (by decide) fun x2 fx2 hx2 kx2 => ?_
  refine PW.addN q_13_12 (by omega) (by omega) fun x3 hx3 => ?_
  refine PW.cB q_13_13 (by decide) fun c4 hc4 => ?_
  refine PW.remP q_13_15 (by omega) (by omega) fun x5 hx5 kx5 ex5 => ?_
  clear ex5
  refine PW.aRk q_13_16 rfl (by decide) (by decide) kd_111 I.1 (by decide) (by omega) (by omega) fun b6 hk_b6 e_b6 => ?_
  refine PW.aload_n q_13_17 rfl ?_
  refine PW.cV (as := [_]) (rest := []) q_13_18 t_mv_13_25 hk_b6 I.1 (by decide) rfl (by decide) rfl rfl (Nat.le_of_ble_eq_true rfl) (Nat.le_of_ble_eq_true rfl) (by decide) (by decide) ?_
  refine PW.up (by decide) (c_X5_copyFrom G _ M I b6 hk_b6 k1 hk_k1 fun M7 IM7 GM7 => ?_)
  have FM7 := Fr.trans F GM7 (rfl)
  refine PW.aload_n q_13_21 rfl ?_
  refine PW.gE q_13_22 (Or.inl t_ft_13_22) gF_21_2 kd_110 IM7.1 (by decide) ((congrArg (fun e => o_f e 2) (Fr.at GM7 kd_110 (by decide))).trans fx2) ?_
  refine PW.cB q_13_25 (by decide) fun c8 hc8 => ?_
  refine PW.jc_ge q_13_27 rfl (fun h9 => ?_) (fun h9 => ?_)
  · skip
    refine PW.aload_n q_13_43 rfl ?_
    refine PW.aload_n q_13_44 rfl ?_
    refine PW.gE q_13_45 (Or.inl t_ft_13_18) gF_21_1 kd_110 IM7.1 (by decide) ((congrArg (fun e => o_f e 1) (Fr.at GM7 kd_110 (by decide))).trans fx1) ?_
    refine PW.cI q_13_48 (by decide) fun c10 hc10 => ?_
    refine PW.addN q_13_49 (by omega) (by omega) fun x11 hx11 => ?_
    refine PW.cB q_13_50 (by decide) fun c12 hc12 => ?_
    refine PW.remP q_13_52 (by omega) (by omega) fun x13 hx13 kx13 ex13 => ?_
    clear ex13
    refine PW.pI q_13_53 (Or.inl t_ft_13_18) gF_21_1 gP_21_1 kd_110 Stab0 IM7 (by decide) rfl (by omega) (by omega) fun M14 IM14 fM14 UM14 => ?_
    have FM14 := Fr.pu FM7 UM14.1 kd_110 (rfl : List.contains [5, 7, 9, 10, 11, 12, 13, 21] 21 = true)
    refine PW.vret q_13_56 rfl (by decide) (by decide) ?_
    exact hK M14 IM14 FM14
  · skip
    refine PW.aload_n q_13_30 rfl ?_
    refine PW.dup q_13_31 rfl ?_
    refine PW.gE q_13_32 (Or.inl t_ft_13_22) gF_21_2 kd_110 IM7.1 (by decide) ((congrArg (fun e => o_f e 2) (Fr.at GM7 kd_110 (by decide))).trans fx2) ?_
    refine PW.cI q_13_35 (by decide) fun c15 hc15 => ?_
    refine PW.addN q_13_36 (by omega) (by omega) fun x16 hx16 => ?_
    refine PW.pI q_13_37 (Or.inl t_ft_13_22) gF_21_2 gP_21_2 kd_110 Stab0 IM7 (by decide) rfl (by omega) (by omega) fun M17 IM17 fM17 UM17 => ?_
    have FM17 := Fr.pu FM7 UM17.1 kd_110 (rfl : List.contains [5, 7, 9, 10, 11, 12, 13, 21] 21 = true)
    refine PW.goto q_13_40 rfl ?_
    refine PW.vret q_13_56 rfl (by decide) (by decide) ?_
    exact hK M17 IM17 FM17
theorem c_X1_giveBack (G : pG) (Kr : pK) (M : pM) (I : Iv gTT M) (k1 : Nat) (hk_k1 : g_kd k1 = 5) (hK : ∀ (M1 : pM), Iv gTT M1 → Fr [5, 7, 9, 10, 11, 12, 13, 21] M M1 → Kr.1 none 311 M1) : PW G false 4 14 (p_mc 14) (p_msl 14) Kr 0 (lv_args 0 [.ref 110, .ref k1]) [] 311 M 0 0 := by
  have F : Fr [5, 7, 9, 10, 11, 12, 13, 21] M M := Fr.refl
  refine PW.aload_n q_14_0 rfl ?_
  refine PW.gI q_14_1 (Or.inl t_ft_14_22) gF_21_2 kd_110 I.1 (by decide) fun x1 fx1 hx1 kx1 => ?_
  refine PW.jz_le q_14_4 rfl (fun h2 => ?_) (fun h2 => ?_)
  · skip
    refine PW.vret q_14_38 rfl (by decide) (by decide) ?_
    exact hK M I F
  · skip
    refine PW.aload_n q_14_7 rfl ?_
    refine PW.dup q_14_8 rfl ?_
    refine PW.gE q_14_9 (Or.inl t_ft_14_22) gF_21_2 kd_110 I.1 (by decide) fx1 ?_
    refine PW.cI q_14_12 (by decide) fun c3 hc3 => ?_
    refine PW.subN q_14_13 (by omega) (by omega) fun x4 hx4 => ?_
    refine PW.pI q_14_14 (Or.inl t_ft_14_22) gF_21_2 gP_21_2 kd_110 Stab0 I (by decide) rfl (by omega) (by omega) fun M5 IM5 fM5 UM5 => ?_
    have FM5 := Fr.pu F UM5.1 kd_110 (rfl : List.contains [5, 7, 9, 10, 11, 12, 13, 21] 21 = true)
    refine PW.aload_n q_14_17 rfl ?_
    refine PW.aload_n q_14_18 rfl ?_
    refine PW.gR 111 q_14_19 (Or.inl t_ft_14_11) gF_21_0 kd_110 IM5.1 (by decide) rfl ?_
    refine PW.aload_n q_14_22 rfl ?_
    refine PW.gI q_14_23 (Or.inl t_ft_14_18) gF_21_1 kd_110 IM5.1 (by decide) fun x6 fx6 hx6 kx6 => ?_
    refine PW.aload_n q_14_26 rfl ?_
    refine PW.gE q_14_27 (Or.inl t_ft_14_22) gF_21_2 kd_110 IM5.1 (by decide) fM5 ?_
    refine PW.addN q_14_30 (by omega) (by omega) fun x7 hx7 => ?_
    refine PW.cB q_14_31 (by decide) fun c8 hc8 => ?_
    refine PW.remP q_14_33 (by omega) (by omega) fun x9 hx9 kx9 ex9 => ?_
    clear ex9
    refine PW.aRk q_14_34 rfl (by decide) (by decide) kd_111 IM5.1 (by decide) (by omega) (by omega) fun b10 hk_b10 e_b10 => ?_
    refine PW.cV (as := [_]) (rest := []) q_14_35 t_mv_14_25 hk_k1 IM5.1 (by decide) rfl (by decide) rfl rfl (Nat.le_of_ble_eq_true rfl) (Nat.le_of_ble_eq_true rfl) (by decide) (by decide) ?_
    refine PW.up (by decide) (c_X5_copyFrom G _ M5 IM5 k1 hk_k1 b10 hk_b10 fun M11 IM11 GM11 => ?_)
    have FM11 := Fr.trans FM5 GM11 (rfl)
    refine PW.vret q_14_38 rfl (by decide) (by decide) ?_
    exact hK M11 IM11 FM11
