theorem q_94_0 : p_tb 94 0 = some (.aload_n 0, 1) := by decide +kernel
theorem q_94_1 : p_tb 94 1 = some (.iload_n 1, 1) := by decide +kernel
theorem q_94_2 : p_tb 94 2 = some (.putfield 9, 3) := by decide +kernel
theorem q_94_5 : p_tb 94 5 = some (.aload_n 0, 1) := by decide +kernel
theorem q_94_6 : p_tb 94 6 = some (.iload_n 2, 1) := by decide +kernel
theorem q_94_7 : p_tb 94 7 = some (.putfield 15, 3) := by decide +kernel
theorem q_94_10 : p_tb 94 10 = some (.aload_n 0, 1) := by decide +kernel
theorem q_94_11 : p_tb 94 11 = some (.iconst 1, 1) := by decide +kernel
theorem q_94_12 : p_tb 94 12 = some (.putfield 19, 3) := by decide +kernel
theorem q_94_15 : p_tb 94 15 = some (.aload_n 0, 1) := by decide +kernel
theorem q_94_16 : p_tb 94 16 = some (.iconst 0, 1) := by decide +kernel
theorem q_94_17 : p_tb 94 17 = some (.putfield 22, 3) := by decide +kernel
theorem q_94_20 : p_tb 94 20 = some (.aload_n 0, 1) := by decide +kernel
theorem q_94_21 : p_tb 94 21 = some (.iconst 0, 1) := by decide +kernel
theorem q_94_22 : p_tb 94 22 = some (.putfield 25, 3) := by decide +kernel
theorem q_94_25 : p_tb 94 25 = some (.aload_n 0, 1) := by decide +kernel
theorem q_94_26 : p_tb 94 26 = some (.iconst 0, 1) := by decide +kernel
theorem q_94_27 : p_tb 94 27 = some (.putfield 28, 3) := by decide +kernel
theorem q_94_30 : p_tb 94 30 = some (.aload_n 0, 1) := by decide +kernel
theorem q_94_31 : p_tb 94 31 = some (.iconst 0, 1) := by decide +kernel
theorem q_94_32 : p_tb 94 32 = some (.putfield 31, 3) := by decide +kernel
theorem q_94_35 : p_tb 94 35 = some (.aload_n 0, 1) := by decide +kernel
theorem q_94_36 : p_tb 94 36 = some (.iconst (-1), 1) := by decide +kernel
theorem q_94_37 : p_tb 94 37 = some (.putfield 34, 3) := by decide +kernel
theorem q_94_40 : p_tb 94 40 = some (.return_, 1) := by decide +kernel
theorem t_ft_94_15 : p_f2 p_ft (p_mK 94) 15 = some (8, 1) := by decide +kernel
theorem t_ft_94_19 : p_f2 p_ft (p_mK 94) 19 = some (8, 2) := by decide +kernel
theorem t_ft_94_22 : p_f2 p_ft (p_mK 94) 22 = some (8, 3) := by decide +kernel
theorem t_ft_94_25 : p_f2 p_ft (p_mK 94) 25 = some (8, 4) := by decide +kernel
theorem t_ft_94_28 : p_f2 p_ft (p_mK 94) 28 = some (8, 5) := by decide +kernel
theorem t_ft_94_31 : p_f2 p_ft (p_mK 94) 31 = some (8, 6) := by decide +kernel
theorem t_ft_94_34 : p_f2 p_ft (p_mK 94) 34 = some (8, 7) := by decide +kernel
theorem t_ft_94_9 : p_f2 p_ft (p_mK 94) 9 = some (8, 0) := by decide +kernel
theorem q_95_0 : p_tb 95 0 = some (.aload_n 0, 1) := by decide +kernel
theorem q_95_1 : p_tb 95 1 = some (.aload_n 1, 1) := by decide +kernel
theorem q_95_2 : p_tb 95 2 = some (.getfield 9, 3) := by decide +kernel
theorem q_95_5 : p_tb 95 5 = some (.putfield 9, 3) := by decide +kernel
theorem q_95_8 : p_tb 95 8 = some (.aload_n 0, 1) := by decide +kernel
theorem q_95_9 : p_tb 95 9 = some (.aload_n 1, 1) := by decide +kernel
theorem q_95_10 : p_tb 95 10 = some (.getfield 15, 3) := by decide +kernel
theorem q_95_13 : p_tb 95 13 = some (.putfield 15, 3) := by decide +kernel
theorem q_95_16 : p_tb 95 16 = some (.aload_n 0, 1) := by decide +kernel
theorem q_95_17 : p_tb 95 17 = some (.aload_n 1, 1) := by decide +kernel
theorem q_95_18 : p_tb 95 18 = some (.getfield 19, 3) := by decide +kernel
theorem q_95_21 : p_tb 95 21 = some (.putfield 19, 3) := by decide +kernel
theorem q_95_24 : p_tb 95 24 = some (.aload_n 0, 1) := by decide +kernel
theorem q_95_25 : p_tb 95 25 = some (.aload_n 1, 1) := by decide +kernel
theorem q_95_26 : p_tb 95 26 = some (.getfield 22, 3) := by decide +kernel
theorem q_95_29 : p_tb 95 29 = some (.putfield 22, 3) := by decide +kernel
theorem q_95_32 : p_tb 95 32 = some (.aload_n 0, 1) := by decide +kernel
theorem q_95_33 : p_tb 95 33 = some (.aload_n 1, 1) := by decide +kernel
theorem q_95_34 : p_tb 95 34 = some (.getfield 25, 3) := by decide +kernel
theorem q_95_37 : p_tb 95 37 = some (.putfield 25, 3) := by decide +kernel
theorem q_95_40 : p_tb 95 40 = some (.aload_n 0, 1) := by decide +kernel
theorem q_95_41 : p_tb 95 41 = some (.aload_n 1, 1) := by decide +kernel
theorem q_95_42 : p_tb 95 42 = some (.getfield 28, 3) := by decide +kernel
theorem q_95_45 : p_tb 95 45 = some (.putfield 28, 3) := by decide +kernel
theorem q_95_48 : p_tb 95 48 = some (.aload_n 0, 1) := by decide +kernel
theorem q_95_49 : p_tb 95 49 = some (.aload_n 1, 1) := by decide +kernel
theorem q_95_50 : p_tb 95 50 = some (.getfield 31, 3) := by decide +kernel
theorem q_95_53 : p_tb 95 53 = some (.putfield 31, 3) := by decide +kernel
theorem q_95_56 : p_tb 95 56 = some (.aload_n 0, 1) := by decide +kernel
theorem q_95_57 : p_tb 95 57 = some (.aload_n 1, 1) := by decide +kernel
theorem q_95_58 : p_tb 95 58 = some (.getfield 34, 3) := by decide +kernel
theorem q_95_61 : p_tb 95 61 = some (.putfield 34, 3) := by decide +kernel
theorem q_95_64 : p_tb 95 64 = some (.return_, 1) := by decide +kernel
theorem t_ft_95_15 : p_f2 p_ft (p_mK 95) 15 = some (8, 1) := by decide +kernel
theorem t_ft_95_19 : p_f2 p_ft (p_mK 95) 19 = some (8, 2) := by decide +kernel
theorem t_ft_95_22 : p_f2 p_ft (p_mK 95) 22 = some (8, 3) := by decide +kernel
theorem t_ft_95_25 : p_f2 p_ft (p_mK 95) 25 = some (8, 4) := by decide +kernel
theorem t_ft_95_28 : p_f2 p_ft (p_mK 95) 28 = some (8, 5) := by decide +kernel
theorem t_ft_95_31 : p_f2 p_ft (p_mK 95) 31 = some (8, 6) := by decide +kernel
theorem t_ft_95_34 : p_f2 p_ft (p_mK 95) 34 = some (8, 7) := by decide +kernel
theorem t_ft_95_9 : p_f2 p_ft (p_mK 95) 9 = some (8, 0) := by decide +kernel
theorem q_96_0 : p_tb 96 0 = some (.aload_n 0, 1) := by decide +kernel
theorem q_96_1 : p_tb 96 1 = some (.getfield 9, 3) := by decide +kernel
theorem q_96_4 : p_tb 96 4 = some (.istore_n 3, 1) := by decide +kernel
theorem q_96_5 : p_tb 96 5 = some (.aload_n 0, 1) := by decide +kernel
theorem q_96_6 : p_tb 96 6 = some (.getfield 19, 3) := by decide +kernel
theorem q_96_9 : p_tb 96 9 = some (.ifCond .eq 44, 3) := by decide +kernel
theorem q_96_12 : p_tb 96 12 = some (.aload_n 0, 1) := by decide +kernel
theorem q_96_13 : p_tb 96 13 = some (.getfield 22, 3) := by decide +kernel
theorem q_96_16 : p_tb 96 16 = some (.ifCond .ne 37, 3) := by decide +kernel
theorem q_96_19 : p_tb 96 19 = some (.aload_n 0, 1) := by decide +kernel
theorem q_96_20 : p_tb 96 20 = some (.aload_n 0, 1) := by decide +kernel
theorem q_96_21 : p_tb 96 21 = some (.getfield 15, 3) := by decide +kernel
theorem q_96_24 : p_tb 96 24 = some (.ifCond .eq 16, 3) := by decide +kernel
theorem q_96_27 : p_tb 96 27 = some (.iconst 0, 1) := by decide +kernel
theorem q_96_28 : p_tb 96 28 = some (.aload_n 0, 1) := by decide +kernel
theorem q_96_29 : p_tb 96 29 = some (.getfield 9, 3) := by decide +kernel
theorem q_96_32 : p_tb 96 32 = some (.iload_n 1, 1) := by decide +kernel
theorem q_96_33 : p_tb 96 33 = some (.isub, 1) := by decide +kernel
theorem q_96_34 : p_tb 96 34 = some (.invokestatic 37, 3) := by decide +kernel
theorem q_96_37 : p_tb 96 37 = some (.goto 13, 3) := by decide +kernel
theorem q_96_40 : p_tb 96 40 = some (.iload_n 2, 1) := by decide +kernel
theorem q_96_41 : p_tb 96 41 = some (.aload_n 0, 1) := by decide +kernel
theorem q_96_42 : p_tb 96 42 = some (.getfield 9, 3) := by decide +kernel
theorem q_96_45 : p_tb 96 45 = some (.iload_n 1, 1) := by decide +kernel
theorem q_96_46 : p_tb 96 46 = some (.iadd, 1) := by decide +kernel
theorem q_96_47 : p_tb 96 47 = some (.invokestatic 43, 3) := by decide +kernel
theorem q_96_50 : p_tb 96 50 = some (.putfield 9, 3) := by decide +kernel
theorem q_96_53 : p_tb 96 53 = some (.aload_n 0, 1) := by decide +kernel
theorem q_96_54 : p_tb 96 54 = some (.aload_n 0, 1) := by decide +kernel
theorem q_96_55 : p_tb 96 55 = some (.getfield 9, 3) := by decide +kernel
theorem q_96_58 : p_tb 96 58 = some (.iload_n 3, 1) := by decide +kernel
theorem q_96_59 : p_tb 96 59 = some (.if_icmp .eq 7, 3) := by decide +kernel
theorem q_96_62 : p_tb 96 62 = some (.iconst 1, 1) := by decide +kernel
theorem q_96_63 : p_tb 96 63 = some (.goto 4, 3) := by decide +kernel
theorem q_96_66 : p_tb 96 66 = some (.iconst 0, 1) := by decide +kernel
theorem q_96_67 : p_tb 96 67 = some (.putfield 25, 3) := by decide +kernel
theorem q_96_70 : p_tb 96 70 = some (.aload_n 0, 1) := by decide +kernel
theorem q_96_71 : p_tb 96 71 = some (.dup, 1) := by decide +kernel
theorem q_96_72 : p_tb 96 72 = some (.getfield 31, 3) := by decide +kernel
theorem q_96_75 : p_tb 96 75 = some (.aload_n 0, 1) := by decide +kernel
theorem q_96_76 : p_tb 96 76 = some (.getfield 9, 3) := by decide +kernel
theorem q_96_79 : p_tb 96 79 = some (.iload_n 3, 1) := by decide +kernel
theorem q_96_80 : p_tb 96 80 = some (.isub, 1) := by decide +kernel
theorem q_96_81 : p_tb 96 81 = some (.invokestatic 46, 3) := by decide +kernel
theorem q_96_84 : p_tb 96 84 = some (.iadd, 1) := by decide +kernel
theorem q_96_85 : p_tb 96 85 = some (.putfield 31, 3) := by decide +kernel
theorem q_96_88 : p_tb 96 88 = some (.return_, 1) := by decide +kernel
theorem t_ft_96_15 : p_f2 p_ft (p_mK 96) 15 = some (8, 1) := by decide +kernel
theorem t_ft_96_19 : p_f2 p_ft (p_mK 96) 19 = some (8, 2) := by decide +kernel
theorem t_ft_96_22 : p_f2 p_ft (p_mK 96) 22 = some (8, 3) := by decide +kernel
theorem t_ft_96_25 : p_f2 p_ft (p_mK 96) 25 = some (8, 4) := by decide +kernel
theorem t_ft_96_31 : p_f2 p_ft (p_mK 96) 31 = some (8, 6) := by decide +kernel
theorem t_ft_96_9 : p_f2 p_ft (p_mK 96) 9 = some (8, 0) := by decide +kernel
theorem t_mj_96_37 : p_f2 p_mj (p_mK 96) 37 = some 2 := by decide +kernel
theorem t_mj_96_43 : p_f2 p_mj (p_mK 96) 43 = some 1 := by decide +kernel
theorem t_mj_96_46 : p_f2 p_mj (p_mK 96) 46 = some 3 := by decide +kernel
theorem q_6_0 : p_tb 6 0 = some (.iload_n 1, 1) := by decide +kernel
theorem q_6_1 : p_tb 6 1 = some (.ifCond .lt 21, 3) := by decide +kernel
theorem q_6_4 : p_tb 6 4 = some (.iload_n 1, 1) := by decide +kernel
theorem q_6_5 : p_tb 6 5 = some (.bipush 6, 2) := by decide +kernel
theorem q_6_7 : p_tb 6 7 = some (.if_icmp .ge 15, 3) := by decide +kernel
theorem q_6_10 : p_tb 6 10 = some (.aload_n 0, 1) := by decide +kernel
theorem q_6_11 : p_tb 6 11 = some (.getfield 15, 3) := by decide +kernel
theorem q_6_14 : p_tb 6 14 = some (.iload_n 1, 1) := by decide +kernel
theorem q_6_15 : p_tb 6 15 = some (.iload_n 2, 1) := by decide +kernel
theorem q_6_16 : p_tb 6 16 = some (.iastore, 1) := by decide +kernel
theorem q_6_17 : p_tb 6 17 = some (.aload_n 0, 1) := by decide +kernel
theorem q_6_18 : p_tb 6 18 = some (.iload_n 1, 1) := by decide +kernel
theorem q_6_19 : p_tb 6 19 = some (.putfield 44, 3) := by decide +kernel
theorem q_6_22 : p_tb 6 22 = some (.return_, 1) := by decide +kernel
theorem t_ft_6_15 : p_f2 p_ft (p_mK 6) 15 = some (0, 7) := by decide +kernel
theorem t_ft_6_44 : p_f2 p_ft (p_mK 6) 44 = some (0, 6) := by decide +kernel
theorem gC_10_0_5 : gC 10 0 5 (-2147483648) 2147483647 := gC.of (by decide +kernel)
theorem c_X8_begin (V : pM → Prop) (hV : Stab V) (G : pG) (Kr : pK) (M : pM) (I : Iv V M) (k0 : Nat) (hk_k0 : g_kd k0 = 7) (a1 : Int32) (a2 : Int32) (hl_a2 : 0 ≤ a2.toInt) (hh_a2 : a2.toInt ≤ 1) (hK : ∀ (M1 : pM), Iv V M1 → Fr [7] M M1 → Kr.1 none 311 M1) : PW G false 0 94 (p_mc 94) (p_msl 94) Kr 0 (lv_args 0 [.ref k0, .int a1, .int a2]) [] 311 M 0 0 := by
  have F : Fr [7] M M := Fr.refl
  refine PW.aload_n q_94_0 rfl ?_
  refine PW.iload_n q_94_1 rfl ?_
  refine PW.pI q_94_2 (Or.inl t_ft_94_9) gF_7_0 gP_7_0 hk_k0 hV I (by decide) rfl (n_lo _) (n_hi _) fun M1 IM1 fM1 UM1 => ?_
  have FM1 := Fr.pu F UM1.1 hk_k0 (rfl : List.contains [7] 7 = true)
  refine PW.aload_n q_94_5 rfl ?_
  refine PW.iload_n q_94_6 rfl ?_
  refine PW.pI q_94_7 (Or.inl t_ft_94_15) gF_7_1 gP_7_1 hk_k0 hV IM1 (by decide) rfl (by omega) (by omega) fun M2 IM2 fM2 UM2 => ?_
  have FM2 := Fr.pu FM1 UM2.1 hk_k0 (rfl : List.contains [7] 7 = true)
  refine PW.aload_n q_94_10 rfl ?_
  refine PW.cI q_94_11 (by decide) fun c3 hc3 => ?_
  refine PW.pI q_94_12 (Or.inl t_ft_94_19) gF_7_2 gP_7_2 hk_k0 hV IM2 (by decide) rfl (by omega) (by omega) fun M4 IM4 fM4 UM4 => ?_
  have FM4 := Fr.pu FM2 UM4.1 hk_k0 (rfl : List.contains [7] 7 = true)
  refine PW.aload_n q_94_15 rfl ?_
  refine PW.cI q_94_16 (by decide) fun c5 hc5 => ?_
  refine PW.pI q_94_17 (Or.inl t_ft_94_22) gF_7_3 gP_7_3 hk_k0 hV IM4 (by decide) rfl (by omega) (by omega) fun M6 IM6 fM6 UM6 => ?_
  have FM6 := Fr.pu FM4 UM6.1 hk_k0 (rfl : List.contains [7] 7 = true)
  refine PW.aload_n q_94_20 rfl ?_
  refine PW.cI q_94_21 (by decide) fun c7 hc7 => ?_
  refine PW.pI q_94_22 (Or.inl t_ft_94_25) gF_7_4 gP_7_4 hk_k0 hV IM6 (by decide) rfl (by omega) (by omega) fun M8 IM8 fM8 UM8 => ?_
  have FM8 := Fr.pu FM6 UM8.1 hk_k0 (rfl : List.contains [7] 7 = true)
  refine PW.aload_n q_94_25 rfl ?_
  refine PW.cI q_94_26 (by decide) fun c9 hc9 => ?_
  refine PW.pI q_94_27 (Or.inl t_ft_94_28) gF_7_5 gP_7_5 hk_k0 hV IM8 (by decide) rfl (n_lo _) (n_hi _) fun M10 IM10 fM10 UM10 => ?_
  have FM10 := Fr.pu FM8 UM10.1 hk_k0 (rfl : List.contains [7] 7 = true)
  refine PW.aload_n q_94_30 rfl ?_
  refine PW.cI q_94_31 (by decide) fun c11 hc11 => ?_
  refine PW.pI q_94_32 (Or.inl t_ft_94_31) gF_7_6 gP_7_6 hk_k0 hV IM10 (by decide) rfl (n_lo _) (n_hi _) fun M12 IM12 fM12 UM12 => ?_
  have FM12 := Fr.pu FM10 UM12.1 hk_k0 (rfl : List.contains [7] 7 = true)
  refine PW.aload_n q_94_35 rfl ?_
  refine PW.cI q_94_36 (by decide) fun c13 hc13 => ?_
  refine PW.pI q_94_37 (Or.inl t_ft_94_34) gF_7_7 gP_7_7 hk_k0 hV IM12 (by decide) rfl (n_lo _) (n_hi _) fun M14 IM14 fM14 UM14 => ?_
  have FM14 := Fr.pu FM12 UM14.1 hk_k0 (rfl : List.contains [7] 7 = true)
  refine PW.vret q_94_40 rfl (by decide) (by decide) ?_
  exact hK M14 IM14 FM14
theorem c_X8_copyFrom (V : pM → Prop) (hV : Stab V) (G : pG) (Kr : pK) (M : pM) (I : Iv V M) (k0 : Nat) (hk_k0 : g_kd k0 = 7) (k1 : Nat) (hk_k1 : g_kd k1 = 7) (hK : ∀ (M1 : pM), Iv V M1 → Fr [7] M M1 → Kr.1 none 311 M1) : PW G false 0 95 (p_mc 95) (p_msl 95) Kr 0 (lv_args 0 [.ref k0, .ref k1]) [] 311 M 0 0 := by
  have F : Fr [7] M M := Fr.refl
  refine PW.aload_n q_95_0 rfl ?_
  refine PW.aload_n q_95_1 rfl ?_
  refine PW.gI q_95_2 (Or.inl t_ft_95_9) gF_7_0 hk_k1 I.1 (by decide) fun x1 fx1 hx1 kx1 => ?_
  clear hx1 kx1
  refine PW.pI q_95_5 (Or.inl t_ft_95_9) gF_7_0 gP_7_0 hk_k0 hV I (by decide) rfl (n_lo _) (n_hi _) fun M2 IM2 fM2 UM2 => ?_
  have FM2 := Fr.pu F UM2.1 hk_k0 (rfl : List.contains [7] 7 = true)
  refine PW.aload_n q_95_8 rfl ?_
  refine PW.aload_n q_95_9 rfl ?_
  refine PW.gI q_95_10 (Or.inl t_ft_95_15) gF_7_1 hk_k1 IM2.1 (by decide) fun x3 fx3 hx3 kx3 => ?_
  refine PW.pI q_95_13 (Or.inl t_ft_95_15) gF_7_1 gP_7_1 hk_k0 hV IM2 (by decide) rfl (by omega) (by omega) fun M4 IM4 fM4 UM4 => ?_
  have FM4 := Fr.pu FM2 UM4.1 hk_k0 (rfl : List.contains [7] 7 = true)
  refine PW.aload_n q_95_16 rfl ?_
  refine PW.aload_n q_95_17 rfl ?_
  refine PW.gI q_95_18 (Or.inl t_ft_95_19) gF_7_2 hk_k1 IM4.1 (by decide) fun x5 fx5 hx5 kx5 => ?_
  refine PW.pI q_95_21 (Or.inl t_ft_95_19) gF_7_2 gP_7_2 hk_k0 hV IM4 (by decide) rfl (by omega) (by omega) fun M6 IM6 fM6 UM6 => ?_
  have FM6 := Fr.pu FM4 UM6.1 hk_k0 (rfl : List.contains [7] 7 = true)
  refine PW.aload_n q_95_24 rfl ?_
  refine PW.aload_n q_95_25 rfl ?_
  refine PW.gI q_95_26 (Or.inl t_ft_95_22) gF_7_3 hk_k1 IM6.1 (by decide) fun x7 fx7 hx7 kx7 => ?_
  refine PW.pI q_95_29 (Or.inl t_ft_95_22) gF_7_3 gP_7_3 hk_k0 hV IM6 (by decide) rfl (by omega) (by omega) fun M8 IM8 fM8 UM8 => ?_
  have FM8 := Fr.pu FM6 UM8.1 hk_k0 (rfl : List.contains [7] 7 = true)
  refine PW.aload_n q_95_32 rfl ?_
  refine PW.aload_n q_95_33 rfl ?_
  refine PW.gI q_95_34 (Or.inl t_ft_95_25) gF_7_4 hk_k1 IM8.1 (by decide) fun x9 fx9 hx9 kx9 => ?_
  refine PW.pI q_95_37 (Or.inl t_ft_95_25) gF_7_4 gP_7_4 hk_k0 hV IM8 (by decide) rfl (by omega) (by omega) fun M10 IM10 fM10 UM10 => ?_
  have FM10 := Fr.pu FM8 UM10.1 hk_k0 (rfl : List.contains [7] 7 = true)
  refine PW.aload_n q_95_40 rfl ?_
  refine PW.aload_n q_95_41 rfl ?_
  refine PW.gI q_95_42 (Or.inl t_ft_95_28) gF_7_5 hk_k1 IM10.1 (by decide) fun x11 fx11 hx11 kx11 => ?_
  clear hx11 kx11
  refine PW.pI q_95_45 (Or.inl t_ft_95_28) gF_7_5 gP_7_5 hk_k0 hV IM10 (by decide) rfl (n_lo _) (n_hi _) fun M12 IM12 fM12 UM12 => ?_
  have FM12 := Fr.pu FM10 UM12.1 hk_k0 (rfl : List.contains [7] 7 = true)
  refine PW.aload_n q_95_48 rfl ?_
  refine PW.aload_n q_95_49 rfl ?_
  refine PW.gI q_95_50 (Or.inl t_ft_95_31) gF_7_6 hk_k1 IM12.1 (by decide) fun x13 fx13 hx13 kx13 => ?_
  clear hx13 kx13
  refine PW.pI q_95_53 (Or.inl t_ft_95_31) gF_7_6 gP_7_6 hk_k0 hV IM12 (by decide) rfl (n_lo _) (n_hi _) fun M14 IM14 fM14 UM14 => ?_
  have FM14 := Fr.pu FM12 UM14.1 hk_k0 (rfl : List.contains [7] 7 = true)
  refine PW.aload_n q_95_56 rfl ?_
  refine PW.aload_n q_95_57 rfl ?_
  refine PW.gI q_95_58 (Or.inl t_ft_95_34) gF_7_7 hk_k1 IM14.1 (by decide) fun x15 fx15 hx15 kx15 => ?_
  clear hx15 kx15
  refine PW.pI q_95_61 (Or.inl t_ft_95_34) gF_7_7 gP_7_7 hk_k0 hV IM14 (by decide) rfl (n_lo _) (n_hi _) fun M16 IM16 fM16 UM16 => ?_
  have FM16 := Fr.pu FM14 UM16.1 hk_k0 (rfl : List.contains [7] 7 = true)
  refine PW.vret q_95_64 rfl (by decide) (by decide) ?_
  exact hK M16 IM16 FM16
theorem c_X8_step (V : pM → Prop) (hV : Stab V) (G : pG) (Kr : pK) (M : pM) (I : Iv V M) (k0 : Nat) (hk_k0 : g_kd k0 = 7) (a1 : Int32) (a2 : Int32) (hK : ∀ (M1 : pM), Iv V M1 → Fr [7] M M1 → Kr.1 none 311 M1) : PW G false 1 96 (p_mc 96) (p_msl 96) Kr 0 (lv_args 0 [.ref k0, .int a1, .int a2]) [] 311 M 0 0 := by
  have F : Fr [7] M M := Fr.refl
  refine PW.aload_n q_96_0 rfl ?_
  refine PW.gI q_96_1 (Or.inl t_ft_96_9) gF_7_0 hk_k0 I.1 (by decide) fun x1 fx1 hx1 kx1 => ?_
  clear hx1 kx1
  refine PW.istore_n q_96_4 (by decide) ?_
  refine PW.aload_n q_96_5 rfl ?_
  refine PW.gI q_96_6 (Or.inl t_ft_96_19) gF_7_2 hk_k0 I.1 (by decide) fun x2 fx2 hx2 kx2 => ?_
  have J53_4 : ∀ (MJ53_4 : pM), Iv (V) MJ53_4 → Fr [7] M MJ53_4 → o_f (MJ53_4 k0) 2 = .int x2 → PW G false 1 96 (p_mc 96) (p_msl 96) Kr 53 [(0, .ref k0), (1, .int a1), (2, .int a2), (3, .int x1)] [] 311 MJ53_4 0 0 := by
    intro MJ53_4  IMJ53_4 FMJ53_4 hbJ53_40
    refine PW.aload_n q_96_53 rfl ?_
    refine PW.aload_n q_96_54 rfl ?_
    refine PW.gI q_96_55 (Or.inl t_ft_96_9) gF_7_0 hk_k0 IMJ53_4.1 (by decide) fun x5 fx5 hx5 kx5 => ?_
    clear hx5 kx5
    refine PW.iload_n q_96_58 rfl ?_
    have J67_7 : ∀ (MJ67_7 : pM) (s8 : Int32), Iv (V) MJ67_7 → Fr [7] M MJ67_7 → 0 ≤ s8.toInt → s8.toInt ≤ 1 → o_f (MJ67_7 k0) 2 = .int x2 → o_f (MJ67_7 k0) 0 = .int x5 → PW G false 1 96 (p_mc 96) (p_msl 96) Kr 67 [(0, .ref k0), (1, .int a1), (2, .int a2), (3, .int x1)] [.int s8, .ref k0] 311 MJ67_7 0 0 := by
      intro MJ67_7 s8 IMJ67_7 FMJ67_7 hbJ67_70 hbJ67_71 hbJ67_72 hbJ67_73
      refine PW.pI q_96_67 (Or.inl t_ft_96_25) gF_7_4 gP_7_4 hk_k0 hV IMJ67_7 (by decide) rfl (by omega) (by omega) fun M9 IM9 fM9 UM9 => ?_
      have FM9 := Fr.pu FMJ67_7 UM9.1 hk_k0 (rfl : List.contains [7] 7 = true)
      refine PW.aload_n q_96_70 rfl ?_
      refine PW.dup q_96_71 rfl ?_
      refine PW.gI q_96_72 (Or.inl t_ft_96_31) gF_7_6 hk_k0 IM9.1 (by decide) fun x10 fx10 hx10 kx10 => ?_
      clear hx10 kx10
      refine PW.aload_n q_96_75 rfl ?_
      refine PW.gE q_96_76 (Or.inl t_ft_96_9) gF_7_0 hk_k0 IM9.1 (by decide) ((UM9.f (Or.inr (by decide))).trans hbJ67_73) ?_
      refine PW.iload_n q_96_79 rfl ?_
      refine PW.subH q_96_80 fun x11 => ?_
      refine PW.absH q_96_81 t_mj_96_46 (by decide) (Nat.le_of_ble_eq_true rfl) (by decide) (by decide) fun x12 => ?_
      refine PW.addH q_96_84 fun x13 => ?_
      refine PW.pI q_96_85 (Or.inl t_ft_96_31) gF_7_6 gP_7_6 hk_k0 hV IM9 (by decide) rfl (n_lo _) (n_hi _) fun M14 IM14 fM14 UM14 => ?_
      have FM14 := Fr.pu FM9 UM14.1 hk_k0 (rfl : List.contains [7] 7 = true)
      refine PW.vret q_96_88 rfl (by decide) (by decide) ?_
      exact hK M14 IM14 FM14
    refine PW.jc_eq q_96_59 rfl (fun h6 => ?_) (fun h6 => ?_)
    · skip
      refine PW.cI q_96_66 (by decide) fun c15 hc15 => ?_
      exact PW.lvS (lk1 rfl (lk1 rfl (lk1 rfl (lk1 rfl lk0)))) (J67_7 MJ53_4 c15 IMJ53_4 FMJ53_4 (by omega) (by omega) hbJ53_40 fx5)
    · skip
      refine PW.cI q_96_62 (by decide) fun c16 hc16 => ?_
      refine PW.goto q_96_63 rfl ?_
      exact PW.lvS (lk1 rfl (lk1 rfl (lk1 rfl (lk1 rfl lk0)))) (J67_7 MJ53_4 c16 IMJ53_4 FMJ53_4 (by omega) (by omega) hbJ53_40 fx5)
  refine PW.jz_eq q_96_9 rfl (fun h3 => ?_) (fun h3 => ?_)
  · skip
    exact PW.lvS (lk1 rfl (lk1 rfl (lk1 rfl (lk1 rfl lk0)))) (J53_4 M  I F fx2)
  · skip
    refine PW.aload_n q_96_12 rfl ?_
    refine PW.gI q_96_13 (Or.inl t_ft_96_22) gF_7_3 hk_k0 I.1 (by decide) fun x17 fx17 hx17 kx17 => ?_
    refine PW.jz_ne q_96_16 rfl (fun h18 => ?_) (fun h18 => ?_)
    · skip
      exact PW.lvS (lk1 rfl (lk1 rfl (lk1 rfl (lk1 rfl lk0)))) (J53_4 M  I F fx2)
    · skip
      refine PW.aload_n q_96_19 rfl ?_
      refine PW.aload_n q_96_20 rfl ?_
      refine PW.gI q_96_21 (Or.inl t_ft_96_15) gF_7_1 hk_k0 I.1 (by decide) fun x19 fx19 hx19 kx19 => ?_
      have J50_21 : ∀ (MJ50_21 : pM) (s22 : Int32), Iv (V) MJ50_21 → Fr [7] M MJ50_21 → o_f (MJ50_21 k0) 0 = .int x1 → o_f (MJ50_21 k0) 2 = .int x2 → o_f (MJ50_21 k0) 3 = .int x17 → o_f (MJ50_21 k0) 1 = .int x19 → PW G false 1 96 (p_mc 96) (p_msl 96) Kr 50 [(0, .ref k0), (1, .int a1), (2, .int a2), (3, .int x1)] [.int s22, .ref k0] 311 MJ50_21 0 0 := by
        intro MJ50_21 s22 IMJ50_21 FMJ50_21 hbJ50_210 hbJ50_211 hbJ50_212 hbJ50_213
        refine PW.pI q_96_50 (Or.inl t_ft_96_9) gF_7_0 gP_7_0 hk_k0 hV IMJ50_21 (by decide) rfl (n_lo _) (n_hi _) fun M23 IM23 fM23 UM23 => ?_
        have FM23 := Fr.pu FMJ50_21 UM23.1 hk_k0 (rfl : List.contains [7] 7 = true)
        exact PW.lvS (lk1 rfl (lk1 rfl (lk1 rfl (lk1 rfl lk0)))) (J53_4 M23  IM23 FM23 ((UM23.f (Or.inr (by decide))).trans hbJ50_211))
      refine PW.jz_eq q_96_24 rfl (fun h20 => ?_) (fun h20 => ?_)
      · skip
        refine PW.iload_n q_96_40 rfl ?_
        refine PW.aload_n q_96_41 rfl ?_
        refine PW.gE q_96_42 (Or.inl t_ft_96_9) gF_7_0 hk_k0 I.1 (by decide) fx1 ?_
        refine PW.iload_n q_96_45 rfl ?_
        refine PW.addH q_96_46 fun x24 => ?_
        refine PW.minN q_96_47 t_mj_96_43 (by decide) (Nat.le_of_ble_eq_true rfl) (by decide) (by decide) fun x25 hx25 kx25 lx25 => ?_
        exact PW.lvS (lk1 rfl (lk1 rfl (lk1 rfl (lk1 rfl lk0)))) (J50_21 M x25 I F fx1 fx2 fx17 fx19)
      · skip
        refine PW.cI q_96_27 (by decide) fun c26 hc26 => ?_
        refine PW.aload_n q_96_28 rfl ?_
        refine PW.gE q_96_29 (Or.inl t_ft_96_9) gF_7_0 hk_k0 I.1 (by decide) fx1 ?_
        refine PW.iload_n q_96_32 rfl ?_
        refine PW.subH q_96_33 fun x27 => ?_
        refine PW.maxN q_96_34 t_mj_96_37 (by decide) (Nat.le_of_ble_eq_true rfl) (by decide) (by decide) fun x28 hx28 kx28 lx28 => ?_
        refine PW.goto q_96_37 rfl ?_
        exact PW.lvS (lk1 rfl (lk1 rfl (lk1 rfl (lk1 rfl lk0)))) (J50_21 M x28 I F fx1 fx2 fx17 fx19)
theorem c_X0_remember (V : pM → Prop) (hV : Stab V) (G : pG) (Kr : pK) (M : pM) (I : Iv V M) (k0 : Nat) (hk_k0 : g_kd k0 = 9) (a1 : Int32) (a2 : Int32) (hK : ∀ (M1 : pM), Iv V M1 → Fr [9, 10] M M1 → Kr.1 none 311 M1) : PW G false 0 6 (p_mc 6) (p_msl 6) Kr 0 (lv_args 0 [.ref k0, .int a1, .int a2]) [] 311 M 0 0 := by
  have F : Fr [9, 10] M M := Fr.refl
  refine PW.iload_n q_6_0 rfl ?_
  refine PW.jz_lt q_6_1 rfl (fun h1 => ?_) (fun h1 => ?_)
  · skip
    refine PW.vret q_6_22 rfl (by decide) (by decide) ?_
    exact hK M I F
  · skip
    refine PW.iload_n q_6_4 rfl ?_
    refine PW.cB q_6_5 (by decide) fun c2 hc2 => ?_
    refine PW.jc_ge q_6_7 rfl (fun h3 => ?_) (fun h3 => ?_)
    · skip
      refine PW.vret q_6_22 rfl (by decide) (by decide) ?_
      exact hK M I F
    · skip
      refine PW.aload_n q_6_10 rfl ?_
      refine PW.gRk q_6_11 (Or.inl t_ft_6_15) gF_9_7 hk_k0 I.1 (by decide) fun b4 hk_b4 e_b4 => ?_
      refine PW.iload_n q_6_14 rfl ?_
      refine PW.iload_n q_6_15 rfl ?_
      refine PW.wI q_6_16 gA_10 hk_b4 hV I (by decide) rfl gC_10_0_5 (by decide) (by omega) (by omega) (n_lo _) (n_hi _) fun M5 IM5 fM5 UM5 => ?_
      have FM5 := Fr.pu F UM5.1 hk_b4 (rfl : List.contains [9, 10] 10 = true)
      refine PW.aload_n q_6_17 rfl ?_
      refine PW.iload_n q_6_18 rfl ?_
      refine PW.pI q_6_19 (Or.inl t_ft_6_44) gF_9_6 gP_9_6 hk_k0 hV IM5 (by decide) rfl (by omega) (by omega) fun M6 IM6 fM6 UM6 => ?_
      have FM6 := Fr.pu FM5 UM6.1 hk_k0 (rfl : List.contains [9, 10] 9 = true)
      refine PW.vret q_6_22 rfl (by decide) (by decide) ?_
      exact hK M6 IM6 FM6
