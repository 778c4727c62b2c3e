theorem q_190_0 : p_tb 190 0 = some (.aload_n 0, 1) := by decide +kernel
theorem q_190_1 : p_tb 190 1 = some (.getfield 37, 3) := by decide +kernel
theorem q_190_4 : p_tb 190 4 = some (.iconst 0, 1) := by decide +kernel
theorem q_190_5 : p_tb 190 5 = some (.iaload, 1) := by decide +kernel
theorem q_190_6 : p_tb 190 6 = some (.istore_n 1, 1) := by decide +kernel
theorem q_190_7 : p_tb 190 7 = some (.iload_n 1, 1) := by decide +kernel
theorem q_190_8 : p_tb 190 8 = some (.bipush 6, 2) := by decide +kernel
theorem q_190_10 : p_tb 190 10 = some (.if_icmp .ne 9, 3) := by decide +kernel
theorem q_190_13 : p_tb 190 13 = some (.aload_n 0, 1) := by decide +kernel
theorem q_190_14 : p_tb 190 14 = some (.iconst 4, 1) := by decide +kernel
theorem q_190_15 : p_tb 190 15 = some (.invokevirtual 170, 3) := by decide +kernel
theorem q_190_18 : p_tb 190 18 = some (.ireturn, 1) := by decide +kernel
theorem q_190_19 : p_tb 190 19 = some (.aload_n 0, 1) := by decide +kernel
theorem q_190_20 : p_tb 190 20 = some (.dup, 1) := by decide +kernel
theorem q_190_21 : p_tb 190 21 = some (.getfield 195, 3) := by decide +kernel
theorem q_190_24 : p_tb 190 24 = some (.iconst 1, 1) := by decide +kernel
theorem q_190_25 : p_tb 190 25 = some (.ior, 1) := by decide +kernel
theorem q_190_26 : p_tb 190 26 = some (.putfield 195, 3) := by decide +kernel
theorem q_190_29 : p_tb 190 29 = some (.aload_n 0, 1) := by decide +kernel
theorem q_190_30 : p_tb 190 30 = some (.invokevirtual 173, 3) := by decide +kernel
theorem q_190_33 : p_tb 190 33 = some (.aload_n 0, 1) := by decide +kernel
theorem q_190_34 : p_tb 190 34 = some (.bipush 8, 2) := by decide +kernel
theorem q_190_36 : p_tb 190 36 = some (.iload_n 1, 1) := by decide +kernel
theorem q_190_37 : p_tb 190 37 = some (.iadd, 1) := by decide +kernel
theorem q_190_38 : p_tb 190 38 = some (.invokevirtual 220, 3) := by decide +kernel
theorem q_190_41 : p_tb 190 41 = some (.ifCond .eq 34, 3) := by decide +kernel
theorem q_190_44 : p_tb 190 44 = some (.aload_n 0, 1) := by decide +kernel
theorem q_190_45 : p_tb 190 45 = some (.iconst 5, 1) := by decide +kernel
theorem q_190_46 : p_tb 190 46 = some (.iload_n 1, 1) := by decide +kernel
theorem q_190_47 : p_tb 190 47 = some (.iadd, 1) := by decide +kernel
theorem q_190_48 : p_tb 190 48 = some (.iconst 0, 1) := by decide +kernel
theorem q_190_49 : p_tb 190 49 = some (.aload_n 0, 1) := by decide +kernel
theorem q_190_50 : p_tb 190 50 = some (.getfield 37, 3) := by decide +kernel
theorem q_190_53 : p_tb 190 53 = some (.iconst 2, 1) := by decide +kernel
theorem q_190_54 : p_tb 190 54 = some (.iaload, 1) := by decide +kernel
theorem q_190_55 : p_tb 190 55 = some (.invokevirtual 208, 3) := by decide +kernel
theorem q_190_58 : p_tb 190 58 = some (.ifCond .eq 17, 3) := by decide +kernel
theorem q_190_61 : p_tb 190 61 = some (.aload_n 0, 1) := by decide +kernel
theorem q_190_62 : p_tb 190 62 = some (.bipush 11, 2) := by decide +kernel
theorem q_190_64 : p_tb 190 64 = some (.iload_n 1, 1) := by decide +kernel
theorem q_190_65 : p_tb 190 65 = some (.iadd, 1) := by decide +kernel
theorem q_190_66 : p_tb 190 66 = some (.iconst 0, 1) := by decide +kernel
theorem q_190_67 : p_tb 190 67 = some (.bipush 9, 2) := by decide +kernel
theorem q_190_69 : p_tb 190 69 = some (.invokevirtual 208, 3) := by decide +kernel
theorem q_190_72 : p_tb 190 72 = some (.ifCond .ne 5, 3) := by decide +kernel
theorem q_190_75 : p_tb 190 75 = some (.iconst 0, 1) := by decide +kernel
theorem q_190_76 : p_tb 190 76 = some (.ireturn, 1) := by decide +kernel
theorem q_190_77 : p_tb 190 77 = some (.aload_n 0, 1) := by decide +kernel
theorem q_190_78 : p_tb 190 78 = some (.getfield 37, 3) := by decide +kernel
theorem q_190_81 : p_tb 190 81 = some (.bipush 17, 2) := by decide +kernel
theorem q_190_83 : p_tb 190 83 = some (.iload_n 1, 1) := by decide +kernel
theorem q_190_84 : p_tb 190 84 = some (.iadd, 1) := by decide +kernel
theorem q_190_85 : p_tb 190 85 = some (.aload_n 0, 1) := by decide +kernel
theorem q_190_86 : p_tb 190 86 = some (.ldc2_w 86, 3) := by decide +kernel
theorem q_190_89 : p_tb 190 89 = some (.invokevirtual 201, 3) := by decide +kernel
theorem q_190_92 : p_tb 190 92 = some (.ifCond .eq 7, 3) := by decide +kernel
theorem q_190_95 : p_tb 190 95 = some (.iconst 1, 1) := by decide +kernel
theorem q_190_96 : p_tb 190 96 = some (.goto 4, 3) := by decide +kernel
theorem q_190_99 : p_tb 190 99 = some (.iconst 0, 1) := by decide +kernel
theorem q_190_100 : p_tb 190 100 = some (.iastore, 1) := by decide +kernel
theorem q_190_101 : p_tb 190 101 = some (.aload_n 0, 1) := by decide +kernel
theorem q_190_102 : p_tb 190 102 = some (.ldc2_w 86, 3) := by decide +kernel
theorem q_190_105 : p_tb 190 105 = some (.invokevirtual 201, 3) := by decide +kernel
theorem q_190_108 : p_tb 190 108 = some (.ifCond .eq 7, 3) := by decide +kernel
theorem q_190_111 : p_tb 190 111 = some (.aload_n 0, 1) := by decide +kernel
theorem q_190_112 : p_tb 190 112 = some (.invokevirtual 173, 3) := by decide +kernel
theorem q_190_115 : p_tb 190 115 = some (.aload_n 0, 1) := by decide +kernel
theorem q_190_116 : p_tb 190 116 = some (.getfield 37, 3) := by decide +kernel
theorem q_190_119 : p_tb 190 119 = some (.iconst 0, 1) := by decide +kernel
theorem q_190_120 : p_tb 190 120 = some (.dup2, 1) := by decide +kernel
theorem q_190_121 : p_tb 190 121 = some (.iaload, 1) := by decide +kernel
theorem q_190_122 : p_tb 190 122 = some (.iconst 1, 1) := by decide +kernel
theorem q_190_123 : p_tb 190 123 = some (.iadd, 1) := by decide +kernel
theorem q_190_124 : p_tb 190 124 = some (.iastore, 1) := by decide +kernel
theorem q_190_125 : p_tb 190 125 = some (.iconst 1, 1) := by decide +kernel
theorem q_190_126 : p_tb 190 126 = some (.ireturn, 1) := by decide +kernel
theorem t_ft_190_195 : p_f2 p_ft (p_mK 190) 195 = some (11, 20) := by decide +kernel
theorem t_ft_190_37 : p_f2 p_ft (p_mK 190) 37 = some (11, 7) := by decide +kernel
theorem t_lt_190_86 : p_f2 p_lt (p_mK 190) 86 = some (1650549611) := by decide +kernel
theorem t_mv_190_170 : p_f2 p_mv (p_mK 190) 170 = some 178 := by decide +kernel
theorem t_mv_190_173 : p_f2 p_mv (p_mK 190) 173 = some 177 := by decide +kernel
theorem t_mv_190_201 : p_f2 p_mv (p_mK 190) 201 = some 179 := by decide +kernel
theorem t_mv_190_208 : p_f2 p_mv (p_mK 190) 208 = some 184 := by decide +kernel
theorem t_mv_190_220 : p_f2 p_mv (p_mK 190) 220 = some 186 := by decide +kernel
theorem gC_43_0_0 : gC 43 0 0 0 6 := gC.of (by decide +kernel)
theorem gC_43_17_22 : gC 43 17 22 (-2147483648) 2147483647 := gC.of (by decide +kernel)
set_option maxHeartbeats 10000000 in
theorem c_X12_readWalker_vk (V : pM → Prop) (hV : Stab V) (G : pG) (Kr : pK) (M : pM) (I : Iv V M) (y : k_X) (i : Nat) (A : k_A) (hp_0 : k_ra y M i) (hp_1 : k_rp M A) (hp_2 : kK y i = 2) (hK : ∀ (x : Int32) (M1 : pM), Iv V M1 → Fr [40, 43, 45] M M1 → 0 ≤ x.toInt → x.toInt ≤ 1 → (gKl [4, 11, 12, 13, 14, 15, 16, 17, 18, 20] M M1 ∧ (k_rq y (k_walker y A i) x M1)) → (gNl M M1) → Kr.1 (some (.int x)) 311 M1) : PW G false 4 190 (p_mc 190) (p_msl 190) Kr 0 (lv_args 0 [.ref 294]) [] 311 M 0 0 := by
  have F : Fr [40, 43, 45] M M := Fr.refl
  obtain ⟨kc0, kc1, kc2, kc3, kc4, kc5, kc6, kc7, kc8, kc9, kc10, kc11, kc12, kc13, kc14, kc15, kc16, kc17, kc18, kc19⟩ := id hp_1
  refine PW.aload_n q_190_0 rfl ?_
  refine PW.gR 297 q_190_1 (Or.inl t_ft_190_37) gF_40_7 kd_294 I.1 (by decide) rfl ?_
  refine PW.cI q_190_4 (by decide) fun c1 hc1 => ?_
  refine PW.aI q_190_5 gA_43 kd_297 I.1 (by decide) gB_43_0_0 (by decide) (by omega) (by omega) fun x2 fx2 hx2 kx2 => ?_
  have eax2 : x2.toInt = A.1 0 := by rw [← fx2, show c1.toInt.toNat = 0 from by omega]; exact kc0
  refine PW.istore_n q_190_6 (by decide) ?_
  refine PW.iload_n q_190_7 rfl ?_
  refine PW.cB q_190_8 (by decide) fun c3 hc3 => ?_
  refine PW.jc_ne q_190_10 rfl (fun h4 => ?_) (fun h4 => ?_)
  · skip
    refine PW.aload_n q_190_19 rfl ?_
    refine PW.dup q_190_20 rfl ?_
    refine PW.gI q_190_21 (Or.inl t_ft_190_195) gF_40_20 kd_294 I.1 (by decide) fun x5 fx5 hx5 kx5 => ?_
    have ix5 := o_i_of fx5
    clear hx5 kx5
    refine PW.cI q_190_24 (by decide) fun c6 hc6 => ?_
    refine PW.ior q_190_25 ?_
    refine PW.nmI ?_; intro x7 ex7
    have eo : x7.toInt = (x5 ||| 1).toInt := by rw [ex7, show c6 = 1 from n_eq.mpr (by rw [hc6]; decide)]
    rw [n_or1 (by omega) (by omega)] at eo
    refine PW.pI q_190_26 (Or.inl t_ft_190_195) gF_40_20 gP_40_20 kd_294 hV I (by decide) rfl (n_lo _) (n_hi _) fun M8 IM8 fM8 UM8 => ?_
    have FM8 := Fr.pu F UM8.1 kd_294 (rfl : List.contains [40, 43, 45] 40 = true)
    refine PW.aload_n q_190_29 rfl ?_
    refine PW.cV (as := []) (rest := []) q_190_30 t_mv_190_173 kd_294 IM8.1 (by decide) rfl (by decide) rfl rfl (Nat.le_of_ble_eq_true rfl) (Nat.le_of_ble_eq_true rfl) (by decide) (by decide) ?_
    refine PW.up (by decide) (c_X12_go_vk (V) (hV) G _ M8 IM8 _ (i + 1) (k_ra.nx (hp_0.U UM8 rfl) (by omega)) fun M9 IM9 GM9 PM9 => ?_)
    have FM9 := Fr.trans FM8 GM9 (rfl)
    rcases PM9 with ⟨QM9, PtM9⟩
    refine PW.aload_n q_190_33 rfl ?_
    refine PW.cB q_190_34 (by decide) fun c10 hc10 => ?_
    refine PW.iload_n q_190_36 rfl ?_
    refine PW.addN q_190_37 (by omega) (by omega) fun x11 hx11 => ?_
    refine PW.cV (as := [_]) (rest := []) q_190_38 t_mv_190_220 kd_294 IM9.1 (by decide) rfl (by decide) rfl rfl (Nat.le_of_ble_eq_true rfl) (Nat.le_of_ble_eq_true rfl) (by decide) (by decide) ?_
    refine PW.up (by decide) (c_X12_fresh_vk (V) (hV) G _ M9 IM9 x11 (by omega) (by omega) _ (i + 1) _ PtM9 (hp_1.rs.cg (fun z hz => ((congrArg (fun e => o_a e z) (Fr.at GM9 kd_297 (by decide))).trans (congrArg (fun e => o_a e z) (UM8.1 297 (by decide))))) (fun z hz => ((congrArg (fun e => o_l e z) (Fr.at GM9 kd_299 (by decide))).trans (congrArg (fun e => o_l e z) (UM8.1 299 (by decide)))))) fun x13 M12 IM12 GM12 hx13 kx13 PM12 TM12 => ?_)
    have FM12 := Fr.trans FM9 GM12 (rfl)
    rcases PM12 with ⟨QM12, ⟨PaM12, PbM12, PfM12, PgM12⟩ | ⟨PaM12, PbM12, PcM12, PfM12, PgM12⟩ | ⟨PaM12, PbM12, PkM12, PcM12, PdM12, PwM12, PtM12, PhM12⟩⟩
    · skip
      refine PW.jz_eq q_190_41 rfl (fun h14 => ?_) (fun h14 => False.elim (by omega))
      refine PW.cI q_190_75 (by decide) fun c15 hc15 => ?_
      refine PW.rZ q_190_76 rfl (by omega) (by omega) (by decide) (by decide) ?_
      have e : k_walker y A i = (1, kP y (i + 1), A, i) := by unfold k_walker; rw [if_neg (by omega), if_pos (by omega)]
      exact hK c15 M12 IM12 FM12 (by omega) (by omega) ⟨(((gKl.refl.put UM8 rfl).tr QM9 rfl).tr QM12 rfl), (by rw [e]; exact Or.inr ⟨by omega, (by omega : (1 : Int) ≠ 0), (by omega : o_i (M12 294) 15 = 1), (by omega : o_i (M12 294) 16 = kP y (i + 1))⟩)⟩ (((gNl.refl.cg (UM8.1 299 (by decide))).cg (Fr.at GM9 kd_299 rfl)).tr TM12)
    · skip
      refine PW.jz_eq q_190_41 rfl (fun h16 => ?_) (fun h16 => False.elim (by omega))
      refine PW.cI q_190_75 (by decide) fun c17 hc17 => ?_
      refine PW.rZ q_190_76 rfl (by omega) (by omega) (by decide) (by decide) ?_
      have e : k_walker y A i = (3, kP y (i + 1), A, i) := by unfold k_walker; rw [if_neg (by omega), if_neg (by omega), if_pos (by omega)]
      exact hK c17 M12 IM12 FM12 (by omega) (by omega) ⟨(((gKl.refl.put UM8 rfl).tr QM9 rfl).tr QM12 rfl), (by rw [e]; exact Or.inr ⟨by omega, (by omega : (3 : Int) ≠ 0), (by omega : o_i (M12 294) 15 = 3), (by omega : o_i (M12 294) 16 = kP y (i + 1))⟩)⟩ (((gNl.refl.cg (UM8.1 299 (by decide))).cg (Fr.at GM9 kd_299 rfl)).tr TM12)
    · skip
      refine PW.jz_eq q_190_41 rfl (fun h18 => False.elim (by omega)) (fun h18 => ?_)
      refine PW.aload_n q_190_44 rfl ?_
      refine PW.cI q_190_45 (by decide) fun c19 hc19 => ?_
      refine PW.iload_n q_190_46 rfl ?_
      refine PW.addN q_190_47 (by omega) (by omega) fun x20 hx20 => ?_
      refine PW.cI q_190_48 (by decide) fun c21 hc21 => ?_
      refine PW.aload_n q_190_49 rfl ?_
      refine PW.gR 297 q_190_50 (Or.inl t_ft_190_37) gF_40_7 kd_294 IM12.1 (by decide) rfl ?_
      refine PW.cI q_190_53 (by decide) fun c22 hc22 => ?_
      refine PW.aH q_190_54 gA_43 kd_297 IM12.1 (by decide) (by omega) (by omega) fun x23 fx23 => ?_
      have eax23 : x23.toInt = A.1 2 := by rw [← fx23, show c22.toInt.toNat = 2 from by omega, ((congrArg (fun e => o_a e 2) (Fr.at GM12 kd_297 (by decide))).trans ((congrArg (fun e => o_a e 2) (Fr.at GM9 kd_297 (by decide))).trans (congrArg (fun e => o_a e 2) (UM8.1 297 (by decide)))))]; exact kc2
      refine PW.cV (as := [_, _, _]) (rest := []) q_190_55 t_mv_190_208 kd_294 IM12.1 (by decide) rfl (by decide) rfl rfl (Nat.le_of_ble_eq_true rfl) (Nat.le_of_ble_eq_true rfl) (by decide) (by decide) ?_
      refine PW.up (by decide) (c_X12_puts_vk (V) (hV) G _ M12 IM12 x20 c21 x23 (by omega) (by omega) _ (i + 2) 0 (A.1 2) PtM12 (by omega) (by omega) fun x25 M24 IM24 GM24 hx25 kx25 PM24 => ?_)
      have FM24 := Fr.trans FM12 GM24 (rfl)
      rcases PM24 with ⟨QM24, ⟨PaM24, PzM24, PvM24, PlM24, PmM24, PtM24, PhM24⟩ | ⟨PaM24, PzM24, PfM24, PgM24⟩⟩
      · skip
        refine PW.jz_eq q_190_58 rfl (fun h26 => False.elim (by omega)) (fun h26 => ?_)
        refine PW.aload_n q_190_61 rfl ?_
        refine PW.cB q_190_62 (by decide) fun c27 hc27 => ?_
        refine PW.iload_n q_190_64 rfl ?_
        refine PW.addN q_190_65 (by omega) (by omega) fun x28 hx28 => ?_
        refine PW.cI q_190_66 (by decide) fun c29 hc29 => ?_
        refine PW.cB q_190_67 (by decide) fun c30 hc30 => ?_
        refine PW.cV (as := [_, _, _]) (rest := []) q_190_69 t_mv_190_208 kd_294 IM24.1 (by decide) rfl (by decide) rfl rfl (Nat.le_of_ble_eq_true rfl) (Nat.le_of_ble_eq_true rfl) (by decide) (by decide) ?_
        refine PW.up (by decide) (c_X12_puts_vkp (V) (hV) G _ M24 IM24 x28 c29 c30 (by omega) (by omega) (by omega) (by omega) (by omega) (by omega) _ (i + 3) 0 9 PtM24 (by omega) (by omega) fun x32 M31 IM31 GM31 hx32 kx32 PM31 => ?_)
        have FM31 := Fr.trans FM24 GM31 (rfl)
        rcases PM31 with ⟨QM31, ⟨PaM31, PzM31, PvM31, PlM31, PmM31, PtM31, PhM31⟩ | ⟨PaM31, PzM31, PfM31, PgM31⟩⟩
        · skip
          refine PW.jz_ne q_190_72 rfl (fun h33 => ?_) (fun h33 => False.elim (by omega))
          refine PW.aload_n q_190_77 rfl ?_
          refine PW.gR 297 q_190_78 (Or.inl t_ft_190_37) gF_40_7 kd_294 IM31.1 (by decide) rfl ?_
          refine PW.cB q_190_81 (by decide) fun c34 hc34 => ?_
          refine PW.iload_n q_190_83 rfl ?_
          refine PW.addN q_190_84 (by omega) (by omega) fun x35 hx35 => ?_
          refine PW.aload_n q_190_85 rfl ?_
          refine PW.ldc2 q_190_86 t_lt_190_86 ?_
          refine PW.nmLk fun l36 el36 => ?_
          refine PW.cV (as := [_]) (rest := [_, _]) q_190_89 t_mv_190_201 kd_294 IM31.1 (by decide) rfl (by decide) rfl rfl (Nat.le_of_ble_eq_true rfl) (Nat.le_of_ble_eq_true rfl) (by decide) (by decide) ?_
          refine PW.up (by decide) (c_X12_isWord_vk (V) (hV) G _ M31 IM31 l36 _ (i + 4) 4 PtM31 (by rw [el36]; decide +kernel) (by decide) fun x38  hx38 kx38 PM37 => ?_)
          rcases PM37 with ⟨PaM37, PbM37, PcM37⟩ | ⟨PaM37, PnM37⟩
          · skip
            refine PW.jz_eq q_190_92 rfl (fun h39 => False.elim (by omega)) (fun h39 => ?_)
            refine PW.cI q_190_95 (by decide) fun c40 hc40 => ?_
            refine PW.goto q_190_96 rfl ?_
            refine PW.wI q_190_100 gA_43 kd_297 hV IM31 (by decide) rfl gC_43_17_22 (by decide) (by omega) (by omega) (n_lo _) (n_hi _) fun M41 IM41 fM41 UM41 => ?_
            have FM41 := Fr.pu FM31 UM41.1 kd_297 (rfl : List.contains [40, 43, 45] 43 = true)
            refine PW.aload_n q_190_101 rfl ?_
            refine PW.ldc2 q_190_102 t_lt_190_86 ?_
            refine PW.nmLk fun l42 el42 => ?_
            refine PW.cV (as := [_]) (rest := []) q_190_105 t_mv_190_201 kd_294 IM41.1 (by decide) rfl (by decide) rfl rfl (Nat.le_of_ble_eq_true rfl) (Nat.le_of_ble_eq_true rfl) (by decide) (by decide) ?_
            refine PW.up (by decide) (c_X12_isWord_vk (V) (hV) G _ M41 IM41 l42 _ (i + 4) 4 (PtM31.cg (UM41.1 294 (by decide)) (UM41.1 295 (by decide)) (UM41.1 300 (by decide))) (by rw [el42]; decide +kernel) (by decide) fun x44  hx44 kx44 PM43 => ?_)
            rcases PM43 with ⟨PaM43, PbM43, PcM43⟩ | ⟨PaM43, PnM43⟩
            · skip
              refine PW.jz_eq q_190_108 rfl (fun h45 => False.elim (by omega)) (fun h45 => ?_)
              refine PW.aload_n q_190_111 rfl ?_
              refine PW.cV (as := []) (rest := []) q_190_112 t_mv_190_173 kd_294 IM41.1 (by decide) rfl (by decide) rfl rfl (Nat.le_of_ble_eq_true rfl) (Nat.le_of_ble_eq_true rfl) (by decide) (by decide) ?_
              refine PW.up (by decide) (c_X12_go_vk (V) (hV) G _ M41 IM41 _ (i + 5) (k_ra.nx (PtM31.cg (UM41.1 294 (by decide)) (UM41.1 295 (by decide)) (UM41.1 300 (by decide))) (by omega)) fun M46 IM46 GM46 PM46 => ?_)
              have FM46 := Fr.trans FM41 GM46 (rfl)
              rcases PM46 with ⟨QM46, PtM46⟩
              refine PW.aload_n q_190_115 rfl ?_
              refine PW.gR 297 q_190_116 (Or.inl t_ft_190_37) gF_40_7 kd_294 IM46.1 (by decide) rfl ?_
              refine PW.cI q_190_119 (by decide) fun c47 hc47 => ?_
              refine PW.dup2 q_190_120 rfl rfl ?_
              refine PW.aI q_190_121 gA_43 kd_297 IM46.1 (by decide) gB_43_0_0 (by decide) (by omega) (by omega) fun x48 fx48 hx48 kx48 => ?_
              have eax48 : x48.toInt = A.1 0 := by rw [← fx48, show c47.toInt.toNat = 0 from by omega, ((congrArg (fun e => o_a e 0) (Fr.at GM46 kd_297 (by decide))).trans ((UM41.2 0 (by omega)).trans ((PhM31 0 (by omega)).trans ((PhM24 0 (by omega)).trans ((congrArg (fun e => o_a e 0) (Fr.at GM12 kd_297 (by decide))).trans ((congrArg (fun e => o_a e 0) (Fr.at GM9 kd_297 (by decide))).trans (congrArg (fun e => o_a e 0) (UM8.1 297 (by decide)))))))))]; exact kc0
              refine PW.cI q_190_122 (by decide) fun c49 hc49 => ?_
              refine PW.addN q_190_123 (by omega) (by omega) fun x50 hx50 => ?_
              refine PW.wI q_190_124 gA_43 kd_297 hV IM46 (by decide) rfl gC_43_0_0 (by decide) (by omega) (by omega) (by omega) (by omega) fun M51 IM51 fM51 UM51 => ?_
              have FM51 := Fr.pu FM46 UM51.1 kd_297 (rfl : List.contains [40, 43, 45] 43 = true)
              refine PW.cI q_190_125 (by decide) fun c52 hc52 => ?_
              refine PW.rZ q_190_126 rfl (by omega) (by omega) (by decide) (by decide) ?_
              have e : k_walker y A i = (0, 0, (va_up A.1 0 (A.1 0 + 1), va_up A.2.1 (A.1 0).toNat (kV y (i + 1)), A.2.2), i + 5) := by unfold k_walker; rw [if_neg (by omega), if_neg (by omega), if_neg (by omega), if_neg (by omega), if_neg (by omega), if_pos ⟨PbM43, PcM43⟩]
              have hz : ∀ z : Nat, ((z ≤ 4 ∧ z ≠ 0) ∨ (29 ≤ z ∧ z ≤ 32)) → o_a (M51 297) z = o_a (M 297) z := fun z hz => ((UM51.2 z (by omega)).trans ((congrArg (fun e => o_a e z) (Fr.at GM46 kd_297 (by decide))).trans ((UM41.2 z (by omega)).trans ((PhM31 z (by omega)).trans ((PhM24 z (by omega)).trans ((congrArg (fun e => o_a e z) (Fr.at GM12 kd_297 (by decide))).trans ((congrArg (fun e => o_a e z) (Fr.at GM9 kd_297 (by decide))).trans (congrArg (fun e => o_a e z) (UM8.1 297 (by decide))))))))))
              have hnm : ∀ z : Nat, ((8 ≤ z ∧ (z : Int) < 8 + A.1 0) ∨ (14 ≤ z ∧ (z : Int) < 14 + A.1 1)) → o_l (M51 299) z = o_l (M 299) z := fun z hz => ((congrArg (fun e => o_l e z) (UM51.1 299 (by decide))).trans ((congrArg (fun e => o_l e z) (Fr.at GM46 kd_299 (by decide))).trans ((congrArg (fun e => o_l e z) (UM41.1 299 (by decide))).trans ((congrArg (fun e => o_l e z) (Fr.at GM31 kd_299 (by decide))).trans ((congrArg (fun e => o_l e z) (Fr.at GM24 kd_299 (by decide))).trans ((PhM12 z (by omega)).trans ((congrArg (fun e => o_l e z) (Fr.at GM9 kd_299 (by decide))).trans (congrArg (fun e => o_l e z) (UM8.1 299 (by decide))))))))))
              have w20 := o_i_of ((congrArg (fun e => o_f e 20) (UM51.1 _ (g_ne kd_294 kd_297 (by decide)))).trans ((QM46 20 rfl).trans ((congrArg (fun e => o_f e 20) (UM41.1 _ (g_ne kd_294 kd_297 (by decide)))).trans ((QM31 20 rfl).trans ((QM24 20 rfl).trans ((QM12 20 rfl).trans ((QM9 20 rfl).trans fM8)))))))
              exact hK c52 M51 IM51 FM51 (by omega) (by omega) ⟨((((((((gKl.refl.put UM8 rfl).tr QM9 rfl).tr QM12 rfl).tr QM24 rfl).tr QM31 rfl).cg (UM41.1 294 (by decide))).tr QM46 rfl).cg (UM51.1 294 (by decide))), (by rw [e]; exact Or.inl ⟨by omega, rfl, (PtM46.cg (UM51.1 294 (by decide)) (UM51.1 295 (by decide)) (UM51.1 300 (by decide))), ⟨(by have f := fM51; rw [show c47.toInt.toNat = 0 from by omega] at f; rw [f]; show _ = A.1 0 + 1; omega), (by rw [hz 1 (by omega)]; exact kc1), (by rw [hz 2 (by omega)]; exact kc2), (by rw [hz 3 (by omega)]; exact kc3), (by rw [hz 4 (by omega)]; exact kc4), (((congrArg (fun e => o_i e 19) (UM51.1 294 (by decide))).trans ((QM46.i 19 rfl).trans ((congrArg (fun e => o_i e 19) (UM41.1 294 (by decide))).trans ((QM31.i 19 rfl).trans ((QM24.i 19 rfl).trans ((QM12.i 19 rfl).trans ((QM9.i 19 rfl).trans (UM8.i (c := 294) (k := 19) (Or.inr (by decide)))))))))).trans kc5), (by omega), (by omega), (by show (o_i (M51 294) 20 % 2 = 1 ↔ (A.1 6 = 1 ∨ 0 < A.1 0 + 1)); omega), (by show (o_i (M51 294) 20 / 2 % 2 = 1 ↔ A.1 7 = 1); omega), (by show (o_i (M51 294) 20 / 4 % 2 = 1 ↔ A.1 4 ≠ -1); omega), (k_upn (e0 := M 299) kc11 (by omega) (by have f := PwM12; rw [show x11.toInt.toNat = 8 + (A.1 0).toNat from by omega] at f; rw [((congrArg (fun e => o_l e (8 + (A.1 0).toNat)) (UM51.1 299 (by decide))).trans ((congrArg (fun e => o_l e (8 + (A.1 0).toNat)) (Fr.at GM46 kd_299 (by decide))).trans ((congrArg (fun e => o_l e (8 + (A.1 0).toNat)) (UM41.1 299 (by decide))).trans ((congrArg (fun e => o_l e (8 + (A.1 0).toNat)) (Fr.at GM31 kd_299 (by decide))).trans (congrArg (fun e => o_l e (8 + (A.1 0).toNat)) (Fr.at GM24 kd_299 (by decide)))))))]; exact f) (fun j hj => (hnm (8 + j) (by omega)))), (fun j hj => by have hj : (j : Int) < A.1 1 := hj; rw [(hnm (14 + j) (by omega))]; exact kc12 j hj), (fun j hj => by have hj : (j : Int) < A.1 1 := hj; rw [hz (31 + j) (by omega)]; exact kc13 j hj), (fun j hj => by have hj : (j : Int) < A.1 1 := hj; rw [hz (29 + j) (by omega)]; exact kc14 j hj), (fun j hj h2 => by have hj : A.1 1 ≤ (j : Int) := hj; rw [hz (31 + j) (by omega)]; exact kc15 j (by omega) h2), (by show 0 ≤ A.1 0 + 1; omega), (by show A.1 0 + 1 ≤ 6; omega), (by show 0 ≤ A.1 1; omega), (by show A.1 1 ≤ 2; omega)⟩⟩)⟩ ((((((((gNl.refl.cg (UM8.1 299 (by decide))).cg (Fr.at GM9 kd_299 rfl)).tr TM12).cg (Fr.at GM24 kd_299 rfl)).cg (Fr.at GM31 kd_299 rfl)).cg (UM41.1 299 (by decide))).cg (Fr.at GM46 kd_299 rfl)).cg (UM51.1 299 (by decide)))
            · skip
              exact absurd ⟨PbM37, PcM37⟩ PnM43
          · skip
            refine PW.jz_eq q_190_92 rfl (fun h53 => ?_) (fun h53 => False.elim (by omega))
            refine PW.cI q_190_99 (by decide) fun c54 hc54 => ?_
            refine PW.wI q_190_100 gA_43 kd_297 hV IM31 (by decide) rfl gC_43_17_22 (by decide) (by omega) (by omega) (n_lo _) (n_hi _) fun M55 IM55 fM55 UM55 => ?_
            have FM55 := Fr.pu FM31 UM55.1 kd_297 (rfl : List.contains [40, 43, 45] 43 = true)
            refine PW.aload_n q_190_101 rfl ?_
            refine PW.ldc2 q_190_102 t_lt_190_86 ?_
            refine PW.nmLk fun l56 el56 => ?_
            refine PW.cV (as := [_]) (rest := []) q_190_105 t_mv_190_201 kd_294 IM55.1 (by decide) rfl (by decide) rfl rfl (Nat.le_of_ble_eq_true rfl) (Nat.le_of_ble_eq_true rfl) (by decide) (by decide) ?_
            refine PW.up (by decide) (c_X12_isWord_vk (V) (hV) G _ M55 IM55 l56 _ (i + 4) 4 (PtM31.cg (UM55.1 294 (by decide)) (UM55.1 295 (by decide)) (UM55.1 300 (by decide))) (by rw [el56]; decide +kernel) (by decide) fun x58  hx58 kx58 PM57 => ?_)
            rcases PM57 with ⟨PaM57, PbM57, PcM57⟩ | ⟨PaM57, PnM57⟩
            · skip
              exact absurd ⟨PbM57, PcM57⟩ PnM37
            · skip
              refine PW.jz_eq q_190_108 rfl (fun h59 => ?_) (fun h59 => False.elim (by omega))
              refine PW.aload_n q_190_115 rfl ?_
              refine PW.gR 297 q_190_116 (Or.inl t_ft_190_37) gF_40_7 kd_294 IM55.1 (by decide) rfl ?_
              refine PW.cI q_190_119 (by decide) fun c60 hc60 => ?_
              refine PW.dup2 q_190_120 rfl rfl ?_
              refine PW.aI q_190_121 gA_43 kd_297 IM55.1 (by decide) gB_43_0_0 (by decide) (by omega) (by omega) fun x61 fx61 hx61 kx61 => ?_
              have eax61 : x61.toInt = A.1 0 := by rw [← fx61, show c60.toInt.toNat = 0 from by omega, ((UM55.2 0 (by omega)).trans ((PhM31 0 (by omega)).trans ((PhM24 0 (by omega)).trans ((congrArg (fun e => o_a e 0) (Fr.at GM12 kd_297 (by decide))).trans ((congrArg (fun e => o_a e 0) (Fr.at GM9 kd_297 (by decide))).trans (congrArg (fun e => o_a e 0) (UM8.1 297 (by decide))))))))]; exact kc0
              refine PW.cI q_190_122 (by decide) fun c62 hc62 => ?_
              refine PW.addN q_190_123 (by omega) (by omega) fun x63 hx63 => ?_
              refine PW.wI q_190_124 gA_43 kd_297 hV IM55 (by decide) rfl gC_43_0_0 (by decide) (by omega) (by omega) (by omega) (by omega) fun M64 IM64 fM64 UM64 => ?_
              have FM64 := Fr.pu FM55 UM64.1 kd_297 (rfl : List.contains [40, 43, 45] 43 = true)
              refine PW.cI q_190_125 (by decide) fun c65 hc65 => ?_
              refine PW.rZ q_190_126 rfl (by omega) (by omega) (by decide) (by decide) ?_
              have e : k_walker y A i = (0, 0, (va_up A.1 0 (A.1 0 + 1), va_up A.2.1 (A.1 0).toNat (kV y (i + 1)), A.2.2), i + 4) := by unfold k_walker; rw [if_neg (by omega), if_neg (by omega), if_neg (by omega), if_neg (by omega), if_neg (by omega), if_neg PnM57]
              have hz : ∀ z : Nat, ((z ≤ 4 ∧ z ≠ 0) ∨ (29 ≤ z ∧ z ≤ 32)) → o_a (M64 297) z = o_a (M 297) z := fun z hz => ((UM64.2 z (by omega)).trans ((UM55.2 z (by omega)).trans ((PhM31 z (by omega)).trans ((PhM24 z (by omega)).trans ((congrArg (fun e => o_a e z) (Fr.at GM12 kd_297 (by decide))).trans ((congrArg (fun e => o_a e z) (Fr.at GM9 kd_297 (by decide))).trans (congrArg (fun e => o_a e z) (UM8.1 297 (by decide)))))))))
              have hnm : ∀ z : Nat, ((8 ≤ z ∧ (z : Int) < 8 + A.1 0) ∨ (14 ≤ z ∧ (z : Int) < 14 + A.1 1)) → o_l (M64 299) z = o_l (M 299) z := fun z hz => ((congrArg (fun e => o_l e z) (UM64.1 299 (by decide))).trans ((congrArg (fun e => o_l e z) (UM55.1 299 (by decide))).trans ((congrArg (fun e => o_l e z) (Fr.at GM31 kd_299 (by decide))).trans ((congrArg (fun e => o_l e z) (Fr.at GM24 kd_299 (by decide))).trans ((PhM12 z (by omega)).trans ((congrArg (fun e => o_l e z) (Fr.at GM9 kd_299 (by decide))).trans (congrArg (fun e => o_l e z) (UM8.1 299 (by decide)))))))))
              have w20 := o_i_of ((congrArg (fun e => o_f e 20) (UM64.1 _ (g_ne kd_294 kd_297 (by decide)))).trans ((congrArg (fun e => o_f e 20) (UM55.1 _ (g_ne kd_294 kd_297 (by decide)))).trans ((QM31 20 rfl).trans ((QM24 20 rfl).trans ((QM12 20 rfl).trans ((QM9 20 rfl).trans fM8))))))
              exact hK c65 M64 IM64 FM64 (by omega) (by omega) ⟨(((((((gKl.refl.put UM8 rfl).tr QM9 rfl).tr QM12 rfl).tr QM24 rfl).tr QM31 rfl).cg (UM55.1 294 (by decide))).cg (UM64.1 294 (by decide))), (by rw [e]; exact Or.inl ⟨by omega, rfl, ((PtM31.cg (UM55.1 294 (by decide)) (UM55.1 295 (by decide)) (UM55.1 300 (by decide))).cg (UM64.1 294 (by decide)) (UM64.1 295 (by decide)) (UM64.1 300 (by decide))), ⟨(by have f := fM64; rw [show c60.toInt.toNat = 0 from by omega] at f; rw [f]; show _ = A.1 0 + 1; omega), (by rw [hz 1 (by omega)]; exact kc1), (by rw [hz 2 (by omega)]; exact kc2), (by rw [hz 3 (by omega)]; exact kc3), (by rw [hz 4 (by omega)]; exact kc4), (((congrArg (fun e => o_i e 19) (UM64.1 294 (by decide))).trans ((congrArg (fun e => o_i e 19) (UM55.1 294 (by decide))).trans ((QM31.i 19 rfl).trans ((QM24.i 19 rfl).trans ((QM12.i 19 rfl).trans ((QM9.i 19 rfl).trans (UM8.i (c := 294) (k := 19) (Or.inr (by decide))))))))).trans kc5), (by omega), (by omega), (by show (o_i (M64 294) 20 % 2 = 1 ↔ (A.1 6 = 1 ∨ 0 < A.1 0 + 1)); omega), (by show (o_i (M64 294) 20 / 2 % 2 = 1 ↔ A.1 7 = 1); omega), (by show (o_i (M64 294) 20 / 4 % 2 = 1 ↔ A.1 4 ≠ -1); omega), (k_upn (e0 := M 299) kc11 (by omega) (by have f := PwM12; rw [show x11.toInt.toNat = 8 + (A.1 0).toNat from by omega] at f; rw [((congrArg (fun e => o_l e (8 + (A.1 0).toNat)) (UM64.1 299 (by decide))).trans ((congrArg (fun e => o_l e (8 + (A.1 0).toNat)) (UM55.1 299 (by decide))).trans ((congrArg (fun e => o_l e (8 + (A.1 0).toNat)) (Fr.at GM31 kd_299 (by decide))).trans (congrArg (fun e => o_l e (8 + (A.1 0).toNat)) (Fr.at GM24 kd_299 (by decide))))))]; exact f) (fun j hj => (hnm (8 + j) (by omega)))), (fun j hj => by have hj : (j : Int) < A.1 1 := hj; rw [(hnm (14 + j) (by omega))]; exact kc12 j hj), (fun j hj => by have hj : (j : Int) < A.1 1 := hj; rw [hz (31 + j) (by omega)]; exact kc13 j hj), (fun j hj => by have hj : (j : Int) < A.1 1 := hj; rw [hz (29 + j) (by omega)]; exact kc14 j hj), (fun j hj h2 => by have hj : A.1 1 ≤ (j : Int) := hj; rw [hz (31 + j) (by omega)]; exact kc15 j (by omega) h2), (by show 0 ≤ A.1 0 + 1; omega), (by show A.1 0 + 1 ≤ 6; omega), (by show 0 ≤ A.1 1; omega), (by show A.1 1 ≤ 2; omega)⟩⟩)⟩ (((((((gNl.refl.cg (UM8.1 299 (by decide))).cg (Fr.at GM9 kd_299 rfl)).tr TM12).cg (Fr.at GM24 kd_299 rfl)).cg (Fr.at GM31 kd_299 rfl)).cg (UM55.1 299 (by decide))).cg (UM64.1 299 (by decide)))
        · skip
          refine PW.jz_ne q_190_72 rfl (fun h66 => False.elim (by omega)) (fun h66 => ?_)
          refine PW.cI q_190_75 (by decide) fun c67 hc67 => ?_
          refine PW.rZ q_190_76 rfl (by omega) (by omega) (by decide) (by decide) ?_
          have e : k_walker y A i = (k_nr y (i + 3) 0 9, kP y (i + 3), A, i) := by unfold k_walker; rw [if_neg (by omega), if_neg (by omega), if_neg (by omega), if_neg (by omega), if_pos (by omega)]
          exact hK c67 M31 IM31 FM31 (by omega) (by omega) ⟨(((((gKl.refl.put UM8 rfl).tr QM9 rfl).tr QM12 rfl).tr QM24 rfl).tr QM31 rfl), (by rw [e]; exact Or.inr ⟨by omega, (by omega : (k_nr y (i + 3) 0 9 : Int) ≠ 0), (by omega : o_i (M31 294) 15 = k_nr y (i + 3) 0 9), (by omega : o_i (M31 294) 16 = kP y (i + 3))⟩)⟩ (((((gNl.refl.cg (UM8.1 299 (by decide))).cg (Fr.at GM9 kd_299 rfl)).tr TM12).cg (Fr.at GM24 kd_299 rfl)).cg (Fr.at GM31 kd_299 rfl))
      · skip
        refine PW.jz_eq q_190_58 rfl (fun h68 => ?_) (fun h68 => False.elim (by omega))
        refine PW.cI q_190_75 (by decide) fun c69 hc69 => ?_
        refine PW.rZ q_190_76 rfl (by omega) (by omega) (by decide) (by decide) ?_
        have e : k_walker y A i = (k_nr y (i + 2) 0 (A.1 2), kP y (i + 2), A, i) := by unfold k_walker; rw [if_neg (by omega), if_neg (by omega), if_neg (by omega), if_pos (by omega)]
        exact hK c69 M24 IM24 FM24 (by omega) (by omega) ⟨((((gKl.refl.put UM8 rfl).tr QM9 rfl).tr QM12 rfl).tr QM24 rfl), (by rw [e]; exact Or.inr ⟨by omega, (by omega : (k_nr y (i + 2) 0 (A.1 2) : Int) ≠ 0), (by omega : o_i (M24 294) 15 = k_nr y (i + 2) 0 (A.1 2)), (by omega : o_i (M24 294) 16 = kP y (i + 2))⟩)⟩ ((((gNl.refl.cg (UM8.1 299 (by decide))).cg (Fr.at GM9 kd_299 rfl)).tr TM12).cg (Fr.at GM24 kd_299 rfl))
  · skip
    refine PW.aload_n q_190_13 rfl ?_
    refine PW.cI q_190_14 (by decide) fun c70 hc70 => ?_
    refine PW.cV (as := [_]) (rest := []) q_190_15 t_mv_190_170 kd_294 I.1 (by decide) rfl (by decide) rfl rfl (Nat.le_of_ble_eq_true rfl) (Nat.le_of_ble_eq_true rfl) (by decide) (by decide) ?_
    refine PW.up (by decide) (c_X12_bad_vk (V) (hV) G _ M I c70 _ i hp_0 fun x72 M71 IM71 GM71 hx72 kx72 PM71 => ?_)
    have FM71 := Fr.trans F GM71 (rfl)
    rcases PM71 with ⟨QM71, ⟨PfM71, PgM71⟩⟩
    refine PW.rZ q_190_18 rfl (by omega) (by omega) (by decide) (by decide) ?_
    have e : k_walker y A i = (4, kP y i, A, i) := by unfold k_walker; rw [if_pos (by omega)]
    exact hK x72 M71 IM71 FM71 (by omega) (by omega) ⟨(gKl.refl.tr QM71 rfl), (by rw [e]; exact Or.inr ⟨by omega, (by omega : (4 : Int) ≠ 0), (by omega : o_i (M71 294) 15 = 4), (by omega : o_i (M71 294) 16 = kP y i)⟩)⟩ (gNl.refl.cg (Fr.at GM71 kd_299 rfl))
