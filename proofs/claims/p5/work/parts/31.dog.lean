theorem q_2_0 : p_tb 2 0 = some (.aload_n 0, 1) := by decide +kernel
theorem q_2_1 : p_tb 2 1 = some (.iload_n 1, 1) := by decide +kernel
theorem q_2_2 : p_tb 2 2 = some (.putfield 44, 3) := by decide +kernel
theorem q_2_5 : p_tb 2 5 = some (.iconst 0, 1) := by decide +kernel
theorem q_2_6 : p_tb 2 6 = some (.istore_n 2, 1) := by decide +kernel
theorem q_2_7 : p_tb 2 7 = some (.iload_n 2, 1) := by decide +kernel
theorem q_2_8 : p_tb 2 8 = some (.bipush 6, 2) := by decide +kernel
theorem q_2_10 : p_tb 2 10 = some (.if_icmp .ge 26, 3) := by decide +kernel
theorem q_2_13 : p_tb 2 13 = some (.aload_n 0, 1) := by decide +kernel
theorem q_2_14 : p_tb 2 14 = some (.getfield 15, 3) := by decide +kernel
theorem q_2_17 : p_tb 2 17 = some (.iload_n 2, 1) := by decide +kernel
theorem q_2_18 : p_tb 2 18 = some (.iload_n 2, 1) := by decide +kernel
theorem q_2_19 : p_tb 2 19 = some (.iload_n 1, 1) := by decide +kernel
theorem q_2_20 : p_tb 2 20 = some (.if_icmp .ne 7, 3) := by decide +kernel
theorem q_2_23 : p_tb 2 23 = some (.iconst (-1), 1) := by decide +kernel
theorem q_2_24 : p_tb 2 24 = some (.goto 5, 3) := by decide +kernel
theorem q_2_27 : p_tb 2 27 = some (.bipush (-2), 2) := by decide +kernel
theorem q_2_29 : p_tb 2 29 = some (.iastore, 1) := by decide +kernel
theorem q_2_30 : p_tb 2 30 = some (.iinc 2 1, 3) := by decide +kernel
theorem q_2_33 : p_tb 2 33 = some (.goto (-26), 3) := by decide +kernel
theorem q_2_36 : p_tb 2 36 = some (.return_, 1) := by decide +kernel
theorem t_ft_2_15 : p_f2 p_ft (p_mK 2) 15 = some (0, 7) := by decide +kernel
theorem t_ft_2_44 : p_f2 p_ft (p_mK 2) 44 = some (0, 6) := by decide +kernel
theorem q_4_0 : p_tb 4 0 = some (.iload_n 1, 1) := by decide +kernel
theorem q_4_1 : p_tb 4 1 = some (.aload_n 0, 1) := by decide +kernel
theorem q_4_2 : p_tb 4 2 = some (.getfield 25, 3) := by decide +kernel
theorem q_4_5 : p_tb 4 5 = some (.isub, 1) := by decide +kernel
theorem q_4_6 : p_tb 4 6 = some (.invokestatic 53, 3) := by decide +kernel
theorem q_4_9 : p_tb 4 9 = some (.istore_n 2, 1) := by decide +kernel
theorem q_4_10 : p_tb 4 10 = some (.iload_n 2, 1) := by decide +kernel
theorem q_4_11 : p_tb 4 11 = some (.aload_n 0, 1) := by decide +kernel
theorem q_4_12 : p_tb 4 12 = some (.getfield 28, 3) := by decide +kernel
theorem q_4_15 : p_tb 4 15 = some (.if_icmp .le 47, 3) := by decide +kernel
theorem q_4_18 : p_tb 4 18 = some (.aload_n 0, 1) := by decide +kernel
theorem q_4_19 : p_tb 4 19 = some (.dup, 1) := by decide +kernel
theorem q_4_20 : p_tb 4 20 = some (.getfield 25, 3) := by decide +kernel
theorem q_4_23 : p_tb 4 23 = some (.iload_n 1, 1) := by decide +kernel
theorem q_4_24 : p_tb 4 24 = some (.aload_n 0, 1) := by decide +kernel
theorem q_4_25 : p_tb 4 25 = some (.getfield 25, 3) := by decide +kernel
theorem q_4_28 : p_tb 4 28 = some (.if_icmp .le 10, 3) := by decide +kernel
theorem q_4_31 : p_tb 4 31 = some (.aload_n 0, 1) := by decide +kernel
theorem q_4_32 : p_tb 4 32 = some (.getfield 28, 3) := by decide +kernel
theorem q_4_35 : p_tb 4 35 = some (.goto 8, 3) := by decide +kernel
theorem q_4_38 : p_tb 4 38 = some (.aload_n 0, 1) := by decide +kernel
theorem q_4_39 : p_tb 4 39 = some (.getfield 28, 3) := by decide +kernel
theorem q_4_42 : p_tb 4 42 = some (.ineg, 1) := by decide +kernel
theorem q_4_43 : p_tb 4 43 = some (.iadd, 1) := by decide +kernel
theorem q_4_44 : p_tb 4 44 = some (.putfield 25, 3) := by decide +kernel
theorem q_4_47 : p_tb 4 47 = some (.aload_n 0, 1) := by decide +kernel
theorem q_4_48 : p_tb 4 48 = some (.dup, 1) := by decide +kernel
theorem q_4_49 : p_tb 4 49 = some (.getfield 31, 3) := by decide +kernel
theorem q_4_52 : p_tb 4 52 = some (.aload_n 0, 1) := by decide +kernel
theorem q_4_53 : p_tb 4 53 = some (.getfield 28, 3) := by decide +kernel
theorem q_4_56 : p_tb 4 56 = some (.iadd, 1) := by decide +kernel
theorem q_4_57 : p_tb 4 57 = some (.putfield 31, 3) := by decide +kernel
theorem q_4_60 : p_tb 4 60 = some (.iconst 0, 1) := by decide +kernel
theorem q_4_61 : p_tb 4 61 = some (.ireturn, 1) := by decide +kernel
theorem q_4_62 : p_tb 4 62 = some (.aload_n 0, 1) := by decide +kernel
theorem q_4_63 : p_tb 4 63 = some (.iload_n 1, 1) := by decide +kernel
theorem q_4_64 : p_tb 4 64 = some (.putfield 25, 3) := by decide +kernel
theorem q_4_67 : p_tb 4 67 = some (.aload_n 0, 1) := by decide +kernel
theorem q_4_68 : p_tb 4 68 = some (.dup, 1) := by decide +kernel
theorem q_4_69 : p_tb 4 69 = some (.getfield 31, 3) := by decide +kernel
theorem q_4_72 : p_tb 4 72 = some (.iload_n 2, 1) := by decide +kernel
theorem q_4_73 : p_tb 4 73 = some (.iadd, 1) := by decide +kernel
theorem q_4_74 : p_tb 4 74 = some (.putfield 31, 3) := by decide +kernel
theorem q_4_77 : p_tb 4 77 = some (.iconst 1, 1) := by decide +kernel
theorem q_4_78 : p_tb 4 78 = some (.ireturn, 1) := by decide +kernel
theorem t_ft_4_25 : p_f2 p_ft (p_mK 4) 25 = some (0, 0) := by decide +kernel
theorem t_ft_4_28 : p_f2 p_ft (p_mK 4) 28 = some (0, 1) := by decide +kernel
theorem t_ft_4_31 : p_f2 p_ft (p_mK 4) 31 = some (0, 2) := by decide +kernel
theorem t_mj_4_53 : p_f2 p_mj (p_mK 4) 53 = some 3 := by decide +kernel
theorem q_7_0 : p_tb 7 0 = some (.iload_n 1, 1) := by decide +kernel
theorem q_7_1 : p_tb 7 1 = some (.ifCond .le 30, 3) := by decide +kernel
theorem q_7_4 : p_tb 7 4 = some (.aload_n 0, 1) := by decide +kernel
theorem q_7_5 : p_tb 7 5 = some (.getfield 34, 3) := by decide +kernel
theorem q_7_8 : p_tb 7 8 = some (.iload_n 1, 1) := by decide +kernel
theorem q_7_9 : p_tb 7 9 = some (.irem, 1) := by decide +kernel
theorem q_7_10 : p_tb 7 10 = some (.ifCond .ne 21, 3) := by decide +kernel
theorem q_7_13 : p_tb 7 13 = some (.aload_n 0, 1) := by decide +kernel
theorem q_7_14 : p_tb 7 14 = some (.getfield 28, 3) := by decide +kernel
theorem q_7_17 : p_tb 7 17 = some (.iconst 1, 1) := by decide +kernel
theorem q_7_18 : p_tb 7 18 = some (.if_icmp .le 13, 3) := by decide +kernel
theorem q_7_21 : p_tb 7 21 = some (.aload_n 0, 1) := by decide +kernel
theorem q_7_22 : p_tb 7 22 = some (.dup, 1) := by decide +kernel
theorem q_7_23 : p_tb 7 23 = some (.getfield 28, 3) := by decide +kernel
theorem q_7_26 : p_tb 7 26 = some (.iconst 1, 1) := by decide +kernel
theorem q_7_27 : p_tb 7 27 = some (.isub, 1) := by decide +kernel
theorem q_7_28 : p_tb 7 28 = some (.putfield 28, 3) := by decide +kernel
theorem q_7_31 : p_tb 7 31 = some (.return_, 1) := by decide +kernel
theorem t_ft_7_28 : p_f2 p_ft (p_mK 7) 28 = some (0, 1) := by decide +kernel
theorem t_ft_7_34 : p_f2 p_ft (p_mK 7) 34 = some (0, 3) := by decide +kernel
theorem q_8_0 : p_tb 8 0 = some (.aload_n 0, 1) := by decide +kernel
theorem q_8_1 : p_tb 8 1 = some (.iload_n 1, 1) := by decide +kernel
theorem q_8_2 : p_tb 8 2 = some (.invokevirtual 63, 3) := by decide +kernel
theorem q_8_5 : p_tb 8 5 = some (.ifCond .eq 22, 3) := by decide +kernel
theorem q_8_8 : p_tb 8 8 = some (.aload_n 0, 1) := by decide +kernel
theorem q_8_9 : p_tb 8 9 = some (.getfield 19, 3) := by decide +kernel
theorem q_8_12 : p_tb 8 12 = some (.aload_n 0, 1) := by decide +kernel
theorem q_8_13 : p_tb 8 13 = some (.getfield 34, 3) := by decide +kernel
theorem q_8_16 : p_tb 8 16 = some (.iconst 1, 1) := by decide +kernel
theorem q_8_17 : p_tb 8 17 = some (.isub, 1) := by decide +kernel
theorem q_8_18 : p_tb 8 18 = some (.iload_n 1, 1) := by decide +kernel
theorem q_8_19 : p_tb 8 19 = some (.isub, 1) := by decide +kernel
theorem q_8_20 : p_tb 8 20 = some (.bipush 20, 2) := by decide +kernel
theorem q_8_22 : p_tb 8 22 = some (.irem, 1) := by decide +kernel
theorem q_8_23 : p_tb 8 23 = some (.iaload, 1) := by decide +kernel
theorem q_8_24 : p_tb 8 24 = some (.goto 4, 3) := by decide +kernel
theorem q_8_27 : p_tb 8 27 = some (.iconst (-1), 1) := by decide +kernel
theorem q_8_28 : p_tb 8 28 = some (.ireturn, 1) := by decide +kernel
theorem q_10_0 : p_tb 10 0 = some (.iload_n 1, 1) := by decide +kernel
theorem q_10_1 : p_tb 10 1 = some (.ifCond .lt 21, 3) := by decide +kernel
theorem q_10_4 : p_tb 10 4 = some (.iload_n 1, 1) := by decide +kernel
theorem q_10_5 : p_tb 10 5 = some (.bipush 20, 2) := by decide +kernel
theorem q_10_7 : p_tb 10 7 = some (.if_icmp .ge 15, 3) := by decide +kernel
theorem q_10_10 : p_tb 10 10 = some (.iload_n 1, 1) := by decide +kernel
theorem q_10_11 : p_tb 10 11 = some (.aload_n 0, 1) := by decide +kernel
theorem q_10_12 : p_tb 10 12 = some (.getfield 34, 3) := by decide +kernel
theorem q_10_15 : p_tb 10 15 = some (.if_icmp .ge 7, 3) := by decide +kernel
theorem q_10_18 : p_tb 10 18 = some (.iconst 1, 1) := by decide +kernel
theorem q_10_19 : p_tb 10 19 = some (.goto 4, 3) := by decide +kernel
theorem q_10_22 : p_tb 10 22 = some (.iconst 0, 1) := by decide +kernel
theorem q_10_23 : p_tb 10 23 = some (.ireturn, 1) := by decide +kernel
theorem t_ft_10_34 : p_f2 p_ft (p_mK 10) 34 = some (0, 3) := by decide +kernel
theorem t_ft_8_19 : p_f2 p_ft (p_mK 8) 19 = some (0, 8) := by decide +kernel
theorem t_ft_8_34 : p_f2 p_ft (p_mK 8) 34 = some (0, 3) := by decide +kernel
theorem t_mv_8_63 : p_f2 p_mv (p_mK 8) 63 = some 10 := by decide +kernel
theorem q_9_0 : p_tb 9 0 = some (.aload_n 0, 1) := by decide +kernel
theorem q_9_1 : p_tb 9 1 = some (.iload_n 1, 1) := by decide +kernel
theorem q_9_2 : p_tb 9 2 = some (.invokevirtual 63, 3) := by decide +kernel
theorem q_9_5 : p_tb 9 5 = some (.ifCond .eq 22, 3) := by decide +kernel
theorem q_9_8 : p_tb 9 8 = some (.aload_n 0, 1) := by decide +kernel
theorem q_9_9 : p_tb 9 9 = some (.getfield 22, 3) := by decide +kernel
theorem q_9_12 : p_tb 9 12 = some (.aload_n 0, 1) := by decide +kernel
theorem q_9_13 : p_tb 9 13 = some (.getfield 34, 3) := by decide +kernel
theorem q_9_16 : p_tb 9 16 = some (.iconst 1, 1) := by decide +kernel
theorem q_9_17 : p_tb 9 17 = some (.isub, 1) := by decide +kernel
theorem q_9_18 : p_tb 9 18 = some (.iload_n 1, 1) := by decide +kernel
theorem q_9_19 : p_tb 9 19 = some (.isub, 1) := by decide +kernel
theorem q_9_20 : p_tb 9 20 = some (.bipush 20, 2) := by decide +kernel
theorem q_9_22 : p_tb 9 22 = some (.irem, 1) := by decide +kernel
theorem q_9_23 : p_tb 9 23 = some (.iaload, 1) := by decide +kernel
theorem q_9_24 : p_tb 9 24 = some (.goto 4, 3) := by decide +kernel
theorem q_9_27 : p_tb 9 27 = some (.iconst (-1), 1) := by decide +kernel
theorem q_9_28 : p_tb 9 28 = some (.ireturn, 1) := by decide +kernel
theorem t_ft_9_22 : p_f2 p_ft (p_mK 9) 22 = some (0, 9) := by decide +kernel
theorem t_ft_9_34 : p_f2 p_ft (p_mK 9) 34 = some (0, 3) := by decide +kernel
theorem t_mv_9_63 : p_f2 p_mv (p_mK 9) 63 = some 10 := by decide +kernel
theorem c_X0_sitBy (V : pM → Prop) (hV : Stab V) (G : pG) (Kr : pK) (M : pM) (I : Iv V M) (k0 : Nat) (hk_k0 : g_kd k0 = 9) (a1 : Int32) (hl_a1 : 0 ≤ a1.toInt) (hh_a1 : a1.toInt ≤ 5) (hK : ∀ (M1 : pM), Iv V M1 → Fr [9, 10] M M1 → Kr.1 none 311 M1) : PW G false 0 2 (p_mc 2) (p_msl 2) Kr 0 (lv_args 0 [.ref k0, .int a1]) [] 311 M 0 0 := by
  have F : Fr [9, 10] M M := Fr.refl
  refine PW.aload_n q_2_0 rfl ?_
  refine PW.iload_n q_2_1 rfl ?_
  refine PW.pI q_2_2 (Or.inl t_ft_2_44) gF_9_6 gP_9_6 hk_k0 hV I (by decide) rfl (by omega) (by omega) fun M1 IM1 fM1 UM1 => ?_
  have FM1 := Fr.pu F UM1.1 hk_k0 (rfl : List.contains [9, 10] 9 = true)
  refine PW.cI q_2_5 (by decide) fun c2 hc2 => ?_
  refine PW.istore_n q_2_6 (by decide) ?_
  have L2_7_3 : ∀ (n : Nat) (ML2_7_3 : pM) (v4 : Int32), Iv (V) ML2_7_3 → Fr [9, 10] M ML2_7_3 → 0 ≤ v4.toInt → v4.toInt ≤ 6 → (6 - v4.toInt).toNat = n → PW G false 0 2 (p_mc 2) (p_msl 2) Kr 7 [(0, .ref k0), (1, .int a1), (2, .int v4)] [] 311 ML2_7_3 0 0 := by
    intro n
    induction n using Nat.strongRecOn with
    | ind n ih_L2_7_3 =>
    intro ML2_7_3 v4 IML2_7_3 FML2_7_3 hbL2_7_30 hbL2_7_31 hmL2_7_3
    refine PW.iload_n q_2_7 rfl ?_
    refine PW.cB q_2_8 (by decide) fun c5 hc5 => ?_
    refine PW.jc_ge q_2_10 rfl (fun h6 => ?_) (fun h6 => ?_)
    · skip
      refine PW.vret q_2_36 rfl (by decide) (by decide) ?_
      exact hK ML2_7_3 IML2_7_3 FML2_7_3
    · skip
      refine PW.aload_n q_2_13 rfl ?_
      refine PW.gRk q_2_14 (Or.inl t_ft_2_15) gF_9_7 hk_k0 IML2_7_3.1 (by decide) fun b7 hk_b7 e_b7 => ?_
      refine PW.iload_n q_2_17 rfl ?_
      refine PW.iload_n q_2_18 rfl ?_
      refine PW.iload_n q_2_19 rfl ?_
      have J29_9 : ∀ (MJ29_9 : pM) (s10 : Int32), Iv (V) MJ29_9 → Fr [9, 10] M MJ29_9 → -2 ≤ s10.toInt → s10.toInt ≤ -1 → PW G false 0 2 (p_mc 2) (p_msl 2) Kr 29 [(0, .ref k0), (1, .int a1), (2, .int v4)] [.int s10, .int v4, .ref b7] 311 MJ29_9 0 0 := by
        intro MJ29_9 s10 IMJ29_9 FMJ29_9 hbJ29_90 hbJ29_91
        refine PW.wI q_2_29 gA_10 hk_b7 hV IMJ29_9 (by decide) rfl gC_10_0_5 (by decide) (by omega) (by omega) (n_lo _) (n_hi _) fun M11 IM11 fM11 UM11 => ?_
        have FM11 := Fr.pu FMJ29_9 UM11.1 hk_b7 (rfl : List.contains [9, 10] 10 = true)
        refine PW.incN q_2_30 rfl (by decide) (by decide) (by omega) (by omega) fun x12 hx12 => ?_
        refine PW.goto q_2_33 rfl ?_
        refine PW.lvS (lk1 rfl (lk1 rfl (lk1 rfl lk0))) (ih_L2_7_3 _ ?_ M11 x12 IM11 FM11 (by omega) (by omega) rfl)
        omega
      refine PW.jc_ne q_2_20 rfl (fun h8 => ?_) (fun h8 => ?_)
      · skip
        refine PW.cB q_2_27 (by decide) fun c13 hc13 => ?_
        exact PW.lvS (lk1 rfl (lk1 rfl (lk1 rfl lk0))) (J29_9 ML2_7_3 c13 IML2_7_3 FML2_7_3 (by omega) (by omega))
      · skip
        refine PW.cI q_2_23 (by decide) fun c14 hc14 => ?_
        refine PW.goto q_2_24 rfl ?_
        exact PW.lvS (lk1 rfl (lk1 rfl (lk1 rfl lk0))) (J29_9 ML2_7_3 c14 IML2_7_3 FML2_7_3 (by omega) (by omega))
  exact PW.lvS (lk1 rfl (lk1 rfl (lk1 rfl lk0))) (L2_7_3 _ M1 c2 IM1 FM1 (by omega) (by omega) rfl)
theorem c_X0_runTo (V : pM → Prop) (hV : Stab V) (G : pG) (Kr : pK) (M : pM) (I : Iv V M) (k0 : Nat) (hk_k0 : g_kd k0 = 9) (a1 : Int32) (hK : ∀ (x : Int32) (M1 : pM), Iv V M1 → Fr [9] M M1 → 0 ≤ x.toInt → x.toInt ≤ 1 → Kr.1 (some (.int x)) 311 M1) : PW G false 1 4 (p_mc 4) (p_msl 4) Kr 0 (lv_args 0 [.ref k0, .int a1]) [] 311 M 0 0 := by
  have F : Fr [9] M M := Fr.refl
  refine PW.iload_n q_4_0 rfl ?_
  refine PW.aload_n q_4_1 rfl ?_
  refine PW.gI q_4_2 (Or.inl t_ft_4_25) gF_9_0 hk_k0 I.1 (by decide) fun x1 fx1 hx1 kx1 => ?_
  clear hx1 kx1
  refine PW.subH q_4_5 fun x2 => ?_
  refine PW.absH q_4_6 t_mj_4_53 (by decide) (Nat.le_of_ble_eq_true rfl) (by decide) (by decide) fun x3 => ?_
  refine PW.istore_n q_4_9 (by decide) ?_
  refine PW.iload_n q_4_10 rfl ?_
  refine PW.aload_n q_4_11 rfl ?_
  refine PW.gI q_4_12 (Or.inl t_ft_4_28) gF_9_1 hk_k0 I.1 (by decide) fun x4 fx4 hx4 kx4 => ?_
  clear hx4 kx4
  refine PW.jc_le q_4_15 rfl (fun h5 => ?_) (fun h5 => ?_)
  · skip
    refine PW.aload_n q_4_62 rfl ?_
    refine PW.iload_n q_4_63 rfl ?_
    refine PW.pI q_4_64 (Or.inl t_ft_4_25) gF_9_0 gP_9_0 hk_k0 hV I (by decide) rfl (n_lo _) (n_hi _) fun M6 IM6 fM6 UM6 => ?_
    have FM6 := Fr.pu F UM6.1 hk_k0 (rfl : List.contains [9] 9 = true)
    refine PW.aload_n q_4_67 rfl ?_
    refine PW.dup q_4_68 rfl ?_
    refine PW.gI q_4_69 (Or.inl t_ft_4_31) gF_9_2 hk_k0 IM6.1 (by decide) fun x7 fx7 hx7 kx7 => ?_
    clear hx7 kx7
    refine PW.iload_n q_4_72 rfl ?_
    refine PW.addH q_4_73 fun x8 => ?_
    refine PW.pI q_4_74 (Or.inl t_ft_4_31) gF_9_2 gP_9_2 hk_k0 hV IM6 (by decide) rfl (n_lo _) (n_hi _) fun M9 IM9 fM9 UM9 => ?_
    have FM9 := Fr.pu FM6 UM9.1 hk_k0 (rfl : List.contains [9] 9 = true)
    refine PW.cI q_4_77 (by decide) fun c10 hc10 => ?_
    refine PW.rZ q_4_78 rfl (by omega) (by omega) (by decide) (by decide) ?_
    exact hK c10 M9 IM9 FM9 (by omega) (by omega)
  · skip
    refine PW.aload_n q_4_18 rfl ?_
    refine PW.dup q_4_19 rfl ?_
    refine PW.gE q_4_20 (Or.inl t_ft_4_25) gF_9_0 hk_k0 I.1 (by decide) fx1 ?_
    refine PW.iload_n q_4_23 rfl ?_
    refine PW.aload_n q_4_24 rfl ?_
    refine PW.gE q_4_25 (Or.inl t_ft_4_25) gF_9_0 hk_k0 I.1 (by decide) fx1 ?_
    have J43_12 : ∀ (MJ43_12 : pM) (s13 : Int32), Iv (V) MJ43_12 → Fr [9] M MJ43_12 → o_f (MJ43_12 k0) 0 = .int x1 → o_f (MJ43_12 k0) 1 = .int x4 → PW G false 1 4 (p_mc 4) (p_msl 4) Kr 43 [(0, .ref k0), (1, .int a1), (2, .int x3)] [.int s13, .int x1, .ref k0] 311 MJ43_12 0 0 := by
      intro MJ43_12 s13 IMJ43_12 FMJ43_12 hbJ43_120 hbJ43_121
      refine PW.addH q_4_43 fun x14 => ?_
      refine PW.pI q_4_44 (Or.inl t_ft_4_25) gF_9_0 gP_9_0 hk_k0 hV IMJ43_12 (by decide) rfl (n_lo _) (n_hi _) fun M15 IM15 fM15 UM15 => ?_
      have FM15 := Fr.pu FMJ43_12 UM15.1 hk_k0 (rfl : List.contains [9] 9 = true)
      refine PW.aload_n q_4_47 rfl ?_
      refine PW.dup q_4_48 rfl ?_
      refine PW.gI q_4_49 (Or.inl t_ft_4_31) gF_9_2 hk_k0 IM15.1 (by decide) fun x16 fx16 hx16 kx16 => ?_
      clear hx16 kx16
      refine PW.aload_n q_4_52 rfl ?_
      refine PW.gE q_4_53 (Or.inl t_ft_4_28) gF_9_1 hk_k0 IM15.1 (by decide) ((UM15.f (Or.inr (by decide))).trans hbJ43_121) ?_
      refine PW.addH q_4_56 fun x17 => ?_
      refine PW.pI q_4_57 (Or.inl t_ft_4_31) gF_9_2 gP_9_2 hk_k0 hV IM15 (by decide) rfl (n_lo _) (n_hi _) fun M18 IM18 fM18 UM18 => ?_
      have FM18 := Fr.pu FM15 UM18.1 hk_k0 (rfl : List.contains [9] 9 = true)
      refine PW.cI q_4_60 (by decide) fun c19 hc19 => ?_
      refine PW.rZ q_4_61 rfl (by omega) (by omega) (by decide) (by decide) ?_
      exact hK c19 M18 IM18 FM18 (by omega) (by omega)
    refine PW.jc_le q_4_28 rfl (fun h11 => ?_) (fun h11 => ?_)
    · skip
      refine PW.aload_n q_4_38 rfl ?_
      refine PW.gE q_4_39 (Or.inl t_ft_4_28) gF_9_1 hk_k0 I.1 (by decide) fx4 ?_
      refine PW.negH q_4_42 fun x20 => ?_
      exact PW.lvS (lk1 rfl (lk1 rfl (lk1 rfl lk0))) (J43_12 M x20 I F fx1 fx4)
    · skip
      refine PW.aload_n q_4_31 rfl ?_
      refine PW.gE q_4_32 (Or.inl t_ft_4_28) gF_9_1 hk_k0 I.1 (by decide) fx4 ?_
      refine PW.goto q_4_35 rfl ?_
      exact PW.lvS (lk1 rfl (lk1 rfl (lk1 rfl lk0))) (J43_12 M x4 I F fx1 fx4)
theorem c_X0_tire (V : pM → Prop) (hV : Stab V) (G : pG) (Kr : pK) (M : pM) (I : Iv V M) (k0 : Nat) (hk_k0 : g_kd k0 = 9) (a1 : Int32) (hK : ∀ (M1 : pM), Iv V M1 → Fr [9] M M1 → Kr.1 none 311 M1) : PW G false 0 7 (p_mc 7) (p_msl 7) Kr 0 (lv_args 0 [.ref k0, .int a1]) [] 311 M 0 0 := by
  have F : Fr [9] M M := Fr.refl
  refine PW.iload_n q_7_0 rfl ?_
  refine PW.jz_le q_7_1 rfl (fun h1 => ?_) (fun h1 => ?_)
  · skip
    refine PW.vret q_7_31 rfl (by decide) (by decide) ?_
    exact hK M I F
  · skip
    refine PW.aload_n q_7_4 rfl ?_
    refine PW.gI q_7_5 (Or.inl t_ft_7_34) gF_9_3 hk_k0 I.1 (by decide) fun x2 fx2 hx2 kx2 => ?_
    refine PW.iload_n q_7_8 rfl ?_
    refine PW.remP q_7_9 (by omega) (by omega) fun x3 hx3 kx3 ex3 => ?_
    clear ex3
    refine PW.jz_ne q_7_10 rfl (fun h4 => ?_) (fun h4 => ?_)
    · skip
      refine PW.vret q_7_31 rfl (by decide) (by decide) ?_
      exact hK M I F
    · skip
      refine PW.aload_n q_7_13 rfl ?_
      refine PW.gI q_7_14 (Or.inl t_ft_7_28) gF_9_1 hk_k0 I.1 (by decide) fun x5 fx5 hx5 kx5 => ?_
      clear hx5 kx5
      refine PW.cI q_7_17 (by decide) fun c6 hc6 => ?_
      refine PW.jc_le q_7_18 rfl (fun h7 => ?_) (fun h7 => ?_)
      · skip
        refine PW.vret q_7_31 rfl (by decide) (by decide) ?_
        exact hK M I F
      · skip
        refine PW.aload_n q_7_21 rfl ?_
        refine PW.dup q_7_22 rfl ?_
        refine PW.gE q_7_23 (Or.inl t_ft_7_28) gF_9_1 hk_k0 I.1 (by decide) fx5 ?_
        refine PW.cI q_7_26 (by decide) fun c8 hc8 => ?_
        refine PW.subN q_7_27 (by have := n_lo x5; have := n_hi x5; omega) (by have := n_lo x5; have := n_hi x5; omega) fun x9 hx9 => ?_
        refine PW.pI q_7_28 (Or.inl t_ft_7_28) gF_9_1 gP_9_1 hk_k0 hV I (by decide) rfl (n_lo _) (n_hi _) fun M10 IM10 fM10 UM10 => ?_
        have FM10 := Fr.pu F UM10.1 hk_k0 (rfl : List.contains [9] 9 = true)
        refine PW.vret q_7_31 rfl (by decide) (by decide) ?_
        exact hK M10 IM10 FM10
theorem c_X0_seenBefore (V : pM → Prop) (hV : Stab V) (G : pG) (Kr : pK) (M : pM) (I : Iv V M) (k0 : Nat) (hk_k0 : g_kd k0 = 9) (a1 : Int32) (hK : ∀ (x : Int32) (M1 : pM), Iv V M1 → Fr [] M M1 → Kr.1 (some (.int x)) 311 M1) : PW G false 1 8 (p_mc 8) (p_msl 8) Kr 0 (lv_args 0 [.ref k0, .int a1]) [] 311 M 0 0 := by
  have F : Fr [] M M := Fr.refl
  refine PW.aload_n q_8_0 rfl ?_
  refine PW.iload_n q_8_1 rfl ?_
  refine PW.cV (as := [_]) (rest := []) q_8_2 t_mv_8_63 hk_k0 I.1 (by decide) rfl (by decide) rfl rfl (Nat.le_of_ble_eq_true rfl) (Nat.le_of_ble_eq_true rfl) (by decide) (by decide) ?_
  refine PW.iload_n q_10_0 rfl ?_
  refine PW.jz_lt q_10_1 rfl (fun h1 => ?_) (fun h1 => ?_)
  · skip
    refine PW.cI q_10_22 (by decide) fun c2 hc2 => ?_
    refine PW.rZ q_10_23 rfl (by omega) (by omega) (by decide) (by decide) ?_
    refine PW.jz_eq q_8_5 rfl (fun h3 => ?_) (fun h3 => False.elim (by omega))
    refine PW.cI q_8_27 (by decide) fun c4 hc4 => ?_
    refine PW.rI q_8_28 rfl (by decide) (by decide) ?_
    exact hK c4 M I F
  · skip
    refine PW.iload_n q_10_4 rfl ?_
    refine PW.cB q_10_5 (by decide) fun c5 hc5 => ?_
    refine PW.jc_ge q_10_7 rfl (fun h6 => ?_) (fun h6 => ?_)
    · skip
      refine PW.cI q_10_22 (by decide) fun c7 hc7 => ?_
      refine PW.rZ q_10_23 rfl (by omega) (by omega) (by decide) (by decide) ?_
      refine PW.jz_eq q_8_5 rfl (fun h8 => ?_) (fun h8 => False.elim (by omega))
      refine PW.cI q_8_27 (by decide) fun c9 hc9 => ?_
      refine PW.rI q_8_28 rfl (by decide) (by decide) ?_
      exact hK c9 M I F
    · skip
      refine PW.iload_n q_10_10 rfl ?_
      refine PW.aload_n q_10_11 rfl ?_
      refine PW.gI q_10_12 (Or.inl t_ft_10_34) gF_9_3 hk_k0 I.1 (by decide) fun x10 fx10 hx10 kx10 => ?_
      refine PW.jc_ge q_10_15 rfl (fun h11 => ?_) (fun h11 => ?_)
      · skip
        refine PW.cI q_10_22 (by decide) fun c12 hc12 => ?_
        refine PW.rZ q_10_23 rfl (by omega) (by omega) (by decide) (by decide) ?_
        refine PW.jz_eq q_8_5 rfl (fun h13 => ?_) (fun h13 => False.elim (by omega))
        refine PW.cI q_8_27 (by decide) fun c14 hc14 => ?_
        refine PW.rI q_8_28 rfl (by decide) (by decide) ?_
        exact hK c14 M I F
      · skip
        refine PW.cI q_10_18 (by decide) fun c15 hc15 => ?_
        refine PW.goto q_10_19 rfl ?_
        refine PW.rZ q_10_23 rfl (by omega) (by omega) (by decide) (by decide) ?_
        refine PW.jz_eq q_8_5 rfl (fun h16 => False.elim (by omega)) (fun h16 => ?_)
        refine PW.aload_n q_8_8 rfl ?_
        refine PW.gRk q_8_9 (Or.inl t_ft_8_19) gF_9_8 hk_k0 I.1 (by decide) fun b17 hk_b17 e_b17 => ?_
        refine PW.aload_n q_8_12 rfl ?_
        refine PW.gE q_8_13 (Or.inl t_ft_8_34) gF_9_3 hk_k0 I.1 (by decide) fx10 ?_
        refine PW.cI q_8_16 (by decide) fun c18 hc18 => ?_
        refine PW.subN q_8_17 (by omega) (by omega) fun x19 hx19 => ?_
        refine PW.iload_n q_8_18 rfl ?_
        refine PW.subN q_8_19 (by have := n_lo a1; have := n_hi a1; omega) (by have := n_lo a1; have := n_hi a1; omega) fun x20 hx20 => ?_
        refine PW.cB q_8_20 (by decide) fun c21 hc21 => ?_
        refine PW.remP q_8_22 (by omega) (by omega) fun x22 hx22 kx22 ex22 => ?_
        clear ex22
        refine PW.aH q_8_23 gA_11 hk_b17 I.1 (by decide) (by omega) (by omega) fun x23 fx23 => ?_
        refine PW.goto q_8_24 rfl ?_
        refine PW.rI q_8_28 rfl (by decide) (by decide) ?_
        exact hK x23 M I F
theorem c_X0_placeBefore (V : pM → Prop) (hV : Stab V) (G : pG) (Kr : pK) (M : pM) (I : Iv V M) (k0 : Nat) (hk_k0 : g_kd k0 = 9) (a1 : Int32) (hK : ∀ (x : Int32) (M1 : pM), Iv V M1 → Fr [] M M1 → Kr.1 (some (.int x)) 311 M1) : PW G false 1 9 (p_mc 9) (p_msl 9) Kr 0 (lv_args 0 [.ref k0, .int a1]) [] 311 M 0 0 := by
  have F : Fr [] M M := Fr.refl
  refine PW.aload_n q_9_0 rfl ?_
  refine PW.iload_n q_9_1 rfl ?_
  refine PW.cV (as := [_]) (rest := []) q_9_2 t_mv_9_63 hk_k0 I.1 (by decide) rfl (by decide) rfl rfl (Nat.le_of_ble_eq_true rfl) (Nat.le_of_ble_eq_true rfl) (by decide) (by decide) ?_
  refine PW.iload_n q_10_0 rfl ?_
  refine PW.jz_lt q_10_1 rfl (fun h1 => ?_) (fun h1 => ?_)
  · skip
    refine PW.cI q_10_22 (by decide) fun c2 hc2 => ?_
    refine PW.rZ q_10_23 rfl (by omega) (by omega) (by decide) (by decide) ?_
    refine PW.jz_eq q_9_5 rfl (fun h3 => ?_) (fun h3 => False.elim (by omega))
    refine PW.cI q_9_27 (by decide) fun c4 hc4 => ?_
    refine PW.rI q_9_28 rfl (by decide) (by decide) ?_
    exact hK c4 M I F
  · skip
    refine PW.iload_n q_10_4 rfl ?_
    refine PW.cB q_10_5 (by decide) fun c5 hc5 => ?_
    refine PW.jc_ge q_10_7 rfl (fun h6 => ?_) (fun h6 => ?_)
    · skip
      refine PW.cI q_10_22 (by decide) fun c7 hc7 => ?_
      refine PW.rZ q_10_23 rfl (by omega) (by omega) (by decide) (by decide) ?_
      refine PW.jz_eq q_9_5 rfl (fun h8 => ?_) (fun h8 => False.elim (by omega))
      refine PW.cI q_9_27 (by decide) fun c9 hc9 => ?_
      refine PW.rI q_9_28 rfl (by decide) (by decide) ?_
      exact hK c9 M I F
    · skip
      refine PW.iload_n q_10_10 rfl ?_
      refine PW.aload_n q_10_11 rfl ?_
      refine PW.gI q_10_12 (Or.inl t_ft_10_34) gF_9_3 hk_k0 I.1 (by decide) fun x10 fx10 hx10 kx10 => ?_
      refine PW.jc_ge q_10_15 rfl (fun h11 => ?_) (fun h11 => ?_)
      · skip
        refine PW.cI q_10_22 (by decide) fun c12 hc12 => ?_
        refine PW.rZ q_10_23 rfl (by omega) (by omega) (by decide) (by decide) ?_
        refine PW.jz_eq q_9_5 rfl (fun h13 => ?_) (fun h13 => False.elim (by omega))
        refine PW.cI q_9_27 (by decide) fun c14 hc14 => ?_
        refine PW.rI q_9_28 rfl (by decide) (by decide) ?_
        exact hK c14 M I F
      · skip
        refine PW.cI q_10_18 (by decide) fun c15 hc15 => ?_
        refine PW.goto q_10_19 rfl ?_
        refine PW.rZ q_10_23 rfl (by omega) (by omega) (by decide) (by decide) ?_
        refine PW.jz_eq q_9_5 rfl (fun h16 => False.elim (by omega)) (fun h16 => ?_)
        refine PW.aload_n q_9_8 rfl ?_
        refine PW.gRk q_9_9 (Or.inl t_ft_9_22) gF_9_9 hk_k0 I.1 (by decide) fun b17 hk_b17 e_b17 => ?_
        refine PW.aload_n q_9_12 rfl ?_
        refine PW.gE q_9_13 (Or.inl t_ft_9_34) gF_9_3 hk_k0 I.1 (by decide) fx10 ?_
        refine PW.cI q_9_16 (by decide) fun c18 hc18 => ?_
        refine PW.subN q_9_17 (by omega) (by omega) fun x19 hx19 => ?_
        refine PW.iload_n q_9_18 rfl ?_
        refine PW.subN q_9_19 (by have := n_lo a1; have := n_hi a1; omega) (by have := n_lo a1; have := n_hi a1; omega) fun x20 hx20 => ?_
        refine PW.cB q_9_20 (by decide) fun c21 hc21 => ?_
        refine PW.remP q_9_22 (by omega) (by omega) fun x22 hx22 kx22 ex22 => ?_
        clear ex22
        refine PW.aH q_9_23 gA_12 hk_b17 I.1 (by decide) (by omega) (by omega) fun x23 fx23 => ?_
        refine PW.goto q_9_24 rfl ?_
        refine PW.rI q_9_28 rfl (by decide) (by decide) ?_
        exact hK x23 M I F
