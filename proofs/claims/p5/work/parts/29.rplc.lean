theorem q_192_0 : p_tb 192 0 = some (.aload_n 0, 1) := by decide +kernel
theorem q_192_1 : p_tb 192 1 = some (.getfield 37, 3) := by decide +kernel
theorem q_192_4 : p_tb 192 4 = some (.iconst 1, 1) := by decide +kernel
theorem q_192_5 : p_tb 192 5 = some (.iaload, 1) := by decide +kernel
theorem q_192_6 : p_tb 192 6 = some (.istore_n 1, 1) := by decide +kernel
theorem q_192_7 : p_tb 192 7 = some (.iload_n 1, 1) := by decide +kernel
theorem q_192_8 : p_tb 192 8 = some (.iconst 2, 1) := by decide +kernel
theorem q_192_9 : p_tb 192 9 = some (.if_icmp .ne 9, 3) := by decide +kernel
theorem q_192_12 : p_tb 192 12 = some (.aload_n 0, 1) := by decide +kernel
theorem q_192_13 : p_tb 192 13 = some (.iconst 4, 1) := by decide +kernel
theorem q_192_14 : p_tb 192 14 = some (.invokevirtual 170, 3) := by decide +kernel
theorem q_192_17 : p_tb 192 17 = some (.ireturn, 1) := by decide +kernel
theorem q_192_18 : p_tb 192 18 = some (.aload_n 0, 1) := by decide +kernel
theorem q_192_19 : p_tb 192 19 = some (.invokevirtual 173, 3) := by decide +kernel
theorem q_192_22 : p_tb 192 22 = some (.aload_n 0, 1) := by decide +kernel
theorem q_192_23 : p_tb 192 23 = some (.bipush 14, 2) := by decide +kernel
theorem q_192_25 : p_tb 192 25 = some (.iload_n 1, 1) := by decide +kernel
theorem q_192_26 : p_tb 192 26 = some (.iadd, 1) := by decide +kernel
theorem q_192_27 : p_tb 192 27 = some (.invokevirtual 220, 3) := by decide +kernel
theorem q_192_30 : p_tb 192 30 = some (.ifCond .eq 18, 3) := by decide +kernel
theorem q_192_33 : p_tb 192 33 = some (.aload_n 0, 1) := by decide +kernel
theorem q_192_34 : p_tb 192 34 = some (.bipush 8, 2) := by decide +kernel
theorem q_192_36 : p_tb 192 36 = some (.aload_n 0, 1) := by decide +kernel
theorem q_192_37 : p_tb 192 37 = some (.getfield 37, 3) := by decide +kernel
theorem q_192_40 : p_tb 192 40 = some (.iconst 0, 1) := by decide +kernel
theorem q_192_41 : p_tb 192 41 = some (.iaload, 1) := by decide +kernel
theorem q_192_42 : p_tb 192 42 = some (.invokevirtual 217, 3) := by decide +kernel
theorem q_192_45 : p_tb 192 45 = some (.ifCond .ne 5, 3) := by decide +kernel
theorem q_192_48 : p_tb 192 48 = some (.iconst 0, 1) := by decide +kernel
theorem q_192_49 : p_tb 192 49 = some (.ireturn, 1) := by decide +kernel
theorem q_192_50 : p_tb 192 50 = some (.aload_n 0, 1) := by decide +kernel
theorem q_192_51 : p_tb 192 51 = some (.getfield 37, 3) := by decide +kernel
theorem q_192_54 : p_tb 192 54 = some (.bipush 23, 2) := by decide +kernel
theorem q_192_56 : p_tb 192 56 = some (.iload_n 1, 1) := by decide +kernel
theorem q_192_57 : p_tb 192 57 = some (.iadd, 1) := by decide +kernel
theorem q_192_58 : p_tb 192 58 = some (.aload_n 0, 1) := by decide +kernel
theorem q_192_59 : p_tb 192 59 = some (.getfield 180, 3) := by decide +kernel
theorem q_192_62 : p_tb 192 62 = some (.iastore, 1) := by decide +kernel
theorem q_192_63 : p_tb 192 63 = some (.aload_n 0, 1) := by decide +kernel
theorem q_192_64 : p_tb 192 64 = some (.invokevirtual 173, 3) := by decide +kernel
theorem q_192_67 : p_tb 192 67 = some (.aload_n 0, 1) := by decide +kernel
theorem q_192_68 : p_tb 192 68 = some (.bipush 25, 2) := by decide +kernel
theorem q_192_70 : p_tb 192 70 = some (.iload_n 1, 1) := by decide +kernel
theorem q_192_71 : p_tb 192 71 = some (.iadd, 1) := by decide +kernel
theorem q_192_72 : p_tb 192 72 = some (.iconst 1, 1) := by decide +kernel
theorem q_192_73 : p_tb 192 73 = some (.bipush 30, 2) := by decide +kernel
theorem q_192_75 : p_tb 192 75 = some (.invokevirtual 208, 3) := by decide +kernel
theorem q_192_78 : p_tb 192 78 = some (.ifCond .eq 17, 3) := by decide +kernel
theorem q_192_81 : p_tb 192 81 = some (.aload_n 0, 1) := by decide +kernel
theorem q_192_82 : p_tb 192 82 = some (.bipush 27, 2) := by decide +kernel
theorem q_192_84 : p_tb 192 84 = some (.iload_n 1, 1) := by decide +kernel
theorem q_192_85 : p_tb 192 85 = some (.iadd, 1) := by decide +kernel
theorem q_192_86 : p_tb 192 86 = some (.iconst 0, 1) := by decide +kernel
theorem q_192_87 : p_tb 192 87 = some (.bipush 9, 2) := by decide +kernel
theorem q_192_89 : p_tb 192 89 = some (.invokevirtual 208, 3) := by decide +kernel
theorem q_192_92 : p_tb 192 92 = some (.ifCond .ne 5, 3) := by decide +kernel
theorem q_192_95 : p_tb 192 95 = some (.iconst 0, 1) := by decide +kernel
theorem q_192_96 : p_tb 192 96 = some (.ireturn, 1) := by decide +kernel
theorem q_192_97 : p_tb 192 97 = some (.aload_n 0, 1) := by decide +kernel
theorem q_192_98 : p_tb 192 98 = some (.getfield 37, 3) := by decide +kernel
theorem q_192_101 : p_tb 192 101 = some (.bipush 29, 2) := by decide +kernel
theorem q_192_103 : p_tb 192 103 = some (.iload_n 1, 1) := by decide +kernel
theorem q_192_104 : p_tb 192 104 = some (.iadd, 1) := by decide +kernel
theorem q_192_105 : p_tb 192 105 = some (.aload_n 0, 1) := by decide +kernel
theorem q_192_106 : p_tb 192 106 = some (.invokevirtual 223, 3) := by decide +kernel
theorem q_192_109 : p_tb 192 109 = some (.iastore, 1) := by decide +kernel
theorem q_192_110 : p_tb 192 110 = some (.aload_n 0, 1) := by decide +kernel
theorem q_192_111 : p_tb 192 111 = some (.getfield 37, 3) := by decide +kernel
theorem q_192_114 : p_tb 192 114 = some (.bipush 29, 2) := by decide +kernel
theorem q_192_116 : p_tb 192 116 = some (.iload_n 1, 1) := by decide +kernel
theorem q_192_117 : p_tb 192 117 = some (.iadd, 1) := by decide +kernel
theorem q_192_118 : p_tb 192 118 = some (.iaload, 1) := by decide +kernel
theorem q_192_119 : p_tb 192 119 = some (.ifCond .ge 9, 3) := by decide +kernel
theorem q_192_122 : p_tb 192 122 = some (.aload_n 0, 1) := by decide +kernel
theorem q_192_123 : p_tb 192 123 = some (.iconst 1, 1) := by decide +kernel
theorem q_192_124 : p_tb 192 124 = some (.invokevirtual 170, 3) := by decide +kernel
theorem q_192_127 : p_tb 192 127 = some (.ireturn, 1) := by decide +kernel
theorem q_192_128 : p_tb 192 128 = some (.aload_n 0, 1) := by decide +kernel
theorem q_192_129 : p_tb 192 129 = some (.invokevirtual 173, 3) := by decide +kernel
theorem q_192_132 : p_tb 192 132 = some (.aload_n 0, 1) := by decide +kernel
theorem q_192_133 : p_tb 192 133 = some (.getfield 37, 3) := by decide +kernel
theorem q_192_136 : p_tb 192 136 = some (.iconst 1, 1) := by decide +kernel
theorem q_192_137 : p_tb 192 137 = some (.dup2, 1) := by decide +kernel
theorem q_192_138 : p_tb 192 138 = some (.iaload, 1) := by decide +kernel
theorem q_192_139 : p_tb 192 139 = some (.iconst 1, 1) := by decide +kernel
theorem q_192_140 : p_tb 192 140 = some (.iadd, 1) := by decide +kernel
theorem q_192_141 : p_tb 192 141 = some (.iastore, 1) := by decide +kernel
theorem q_192_142 : p_tb 192 142 = some (.iconst 1, 1) := by decide +kernel
theorem q_192_143 : p_tb 192 143 = some (.ireturn, 1) := by decide +kernel
theorem t_ft_192_180 : p_f2 p_ft (p_mK 192) 180 = some (11, 18) := by decide +kernel
theorem t_ft_192_37 : p_f2 p_ft (p_mK 192) 37 = some (11, 7) := by decide +kernel
theorem t_mv_192_170 : p_f2 p_mv (p_mK 192) 170 = some 178 := by decide +kernel
theorem t_mv_192_173 : p_f2 p_mv (p_mK 192) 173 = some 177 := by decide +kernel
theorem t_mv_192_208 : p_f2 p_mv (p_mK 192) 208 = some 184 := by decide +kernel
theorem t_mv_192_217 : p_f2 p_mv (p_mK 192) 217 = some 187 := by decide +kernel
theorem t_mv_192_220 : p_f2 p_mv (p_mK 192) 220 = some 186 := by decide +kernel
theorem t_mv_192_223 : p_f2 p_mv (p_mK 192) 223 = some 191 := by decide +kernel
theorem gC_43_1_1 : gC 43 1 1 0 2 := gC.of (by decide +kernel)
theorem gC_43_23_24 : gC 43 23 24 0 5 := gC.of (by decide +kernel)
theorem gC_43_29_30 : gC 43 29 30 (-2147483648) 2147483647 := gC.of (by decide +kernel)
set_option maxHeartbeats 10000000 in
theorem c_X12_readDog_vk (V : pM → Prop) (hV : Stab V) (G : pG) (Kr : pK) (M : pM) (I : Iv V M) (y : k_X) (i : Nat) (A : k_A) (hp_0 : k_ra y M i) (hp_1 : k_rp M A) (hp_2 : kK y i = 2) (hK : ∀ (x : Int32) (M1 : pM), Iv V M1 → Fr [40, 43, 45] M M1 → 0 ≤ x.toInt → x.toInt ≤ 1 → (gKl [4, 11, 12, 13, 14, 15, 16, 17, 18, 20] M M1 ∧ (k_rq y (k_dog y A i) x M1)) → (gNl M M1) → Kr.1 (some (.int x)) 311 M1) : PW G false 4 192 (p_mc 192) (p_msl 192) Kr 0 (lv_args 0 [.ref 294]) [] 311 M 0 0 := by
  have F : Fr [40, 43, 45] M M := Fr.refl
  obtain ⟨kc0, kc1, kc2, kc3, kc4, kc5, kc6, kc7, kc8, kc9, kc10, kc11, kc12, kc13, kc14, kc15, kc16, kc17, kc18, kc19⟩ := id hp_1
  refine PW.aload_n q_192_0 rfl ?_
  refine PW.gR 297 q_192_1 (Or.inl t_ft_192_37) gF_40_7 kd_294 I.1 (by decide) rfl ?_
  refine PW.cI q_192_4 (by decide) fun c1 hc1 => ?_
  refine PW.aI q_192_5 gA_43 kd_297 I.1 (by decide) gB_43_1_1 (by decide) (by omega) (by omega) fun x2 fx2 hx2 kx2 => ?_
  have eax2 : x2.toInt = A.1 1 := by rw [← fx2, show c1.toInt.toNat = 1 from by omega]; exact kc1
  refine PW.istore_n q_192_6 (by decide) ?_
  refine PW.iload_n q_192_7 rfl ?_
  refine PW.cI q_192_8 (by decide) fun c3 hc3 => ?_
  refine PW.jc_ne q_192_9 rfl (fun h4 => ?_) (fun h4 => ?_)
  · skip
    refine PW.aload_n q_192_18 rfl ?_
    refine PW.cV (as := []) (rest := []) q_192_19 t_mv_192_173 kd_294 I.1 (by decide) rfl (by decide) rfl rfl (Nat.le_of_ble_eq_true rfl) (Nat.le_of_ble_eq_true rfl) (by decide) (by decide) ?_
    refine PW.up (by decide) (c_X12_go_vk (V) (hV) G _ M I _ (i + 1) (k_ra.nx hp_0 (by omega)) fun M5 IM5 GM5 PM5 => ?_)
    have FM5 := Fr.trans F GM5 (rfl)
    rcases PM5 with ⟨QM5, PtM5⟩
    refine PW.aload_n q_192_22 rfl ?_
    refine PW.cB q_192_23 (by decide) fun c6 hc6 => ?_
    refine PW.iload_n q_192_25 rfl ?_
    refine PW.addN q_192_26 (by omega) (by omega) fun x7 hx7 => ?_
    refine PW.cV (as := [_]) (rest := []) q_192_27 t_mv_192_220 kd_294 IM5.1 (by decide) rfl (by decide) rfl rfl (Nat.le_of_ble_eq_true rfl) (Nat.le_of_ble_eq_true rfl) (by decide) (by decide) ?_
    refine PW.up (by decide) (c_X12_fresh_vk (V) (hV) G _ M5 IM5 x7 (by omega) (by omega) _ (i + 1) _ PtM5 (hp_1.rs.cg (fun z hz => (congrArg (fun e => o_a e z) (Fr.at GM5 kd_297 (by decide)))) (fun z hz => (congrArg (fun e => o_l e z) (Fr.at GM5 kd_299 (by decide))))) fun x9 M8 IM8 GM8 hx9 kx9 PM8 TM8 => ?_)
    have FM8 := Fr.trans FM5 GM8 (rfl)
    rcases PM8 with ⟨QM8, ⟨PaM8, PbM8, PfM8, PgM8⟩ | ⟨PaM8, PbM8, PcM8, PfM8, PgM8⟩ | ⟨PaM8, PbM8, PkM8, PcM8, PdM8, PwM8, PtM8, PhM8⟩⟩
    · skip
      refine PW.jz_eq q_192_30 rfl (fun h10 => ?_) (fun h10 => False.elim (by omega))
      refine PW.cI q_192_48 (by decide) fun c11 hc11 => ?_
      refine PW.rZ q_192_49 rfl (by omega) (by omega) (by decide) (by decide) ?_
      have e : k_dog y A i = (1, kP y (i + 1), A, i) := by unfold k_dog; rw [if_neg (by omega), if_pos (by omega)]
      exact hK c11 M8 IM8 FM8 (by omega) (by omega) ⟨((gKl.refl.tr QM5 rfl).tr QM8 rfl), (by rw [e]; exact Or.inr ⟨by omega, (by omega : (1 : Int) ≠ 0), (by omega : o_i (M8 294) 15 = 1), (by omega : o_i (M8 294) 16 = kP y (i + 1))⟩)⟩ ((gNl.refl.cg (Fr.at GM5 kd_299 rfl)).tr TM8)
    · skip
      refine PW.jz_eq q_192_30 rfl (fun h12 => ?_) (fun h12 => False.elim (by omega))
      refine PW.cI q_192_48 (by decide) fun c13 hc13 => ?_
      refine PW.rZ q_192_49 rfl (by omega) (by omega) (by decide) (by decide) ?_
      have e : k_dog y A i = (3, kP y (i + 1), A, i) := by unfold k_dog; rw [if_neg (by omega), if_neg (by omega), if_pos (by omega)]
      exact hK c13 M8 IM8 FM8 (by omega) (by omega) ⟨((gKl.refl.tr QM5 rfl).tr QM8 rfl), (by rw [e]; exact Or.inr ⟨by omega, (by omega : (3 : Int) ≠ 0), (by omega : o_i (M8 294) 15 = 3), (by omega : o_i (M8 294) 16 = kP y (i + 1))⟩)⟩ ((gNl.refl.cg (Fr.at GM5 kd_299 rfl)).tr TM8)
    · skip
      refine PW.jz_eq q_192_30 rfl (fun h14 => False.elim (by omega)) (fun h14 => ?_)
      refine PW.aload_n q_192_33 rfl ?_
      refine PW.cB q_192_34 (by decide) fun c15 hc15 => ?_
      refine PW.aload_n q_192_36 rfl ?_
      refine PW.gR 297 q_192_37 (Or.inl t_ft_192_37) gF_40_7 kd_294 IM8.1 (by decide) rfl ?_
      refine PW.cI q_192_40 (by decide) fun c16 hc16 => ?_
      refine PW.aI q_192_41 gA_43 kd_297 IM8.1 (by decide) gB_43_0_0 (by decide) (by omega) (by omega) fun x17 fx17 hx17 kx17 => ?_
      have eax17 : x17.toInt = A.1 0 := by rw [← fx17, show c16.toInt.toNat = 0 from by omega, ((congrArg (fun e => o_a e 0) (Fr.at GM8 kd_297 (by decide))).trans (congrArg (fun e => o_a e 0) (Fr.at GM5 kd_297 (by decide))))]; exact kc0
      refine PW.cV (as := [_, _]) (rest := []) q_192_42 t_mv_192_217 kd_294 IM8.1 (by decide) rfl (by decide) rfl rfl (Nat.le_of_ble_eq_true rfl) (Nat.le_of_ble_eq_true rfl) (by decide) (by decide) ?_
      refine PW.up (by decide) (c_X12_looksAt_vk (V) (hV) G _ M8 IM8 c15 x17 (by omega) (by omega) (by omega) (by omega) _ (i + 2) _ PtM8 (hp_1.rs.cg (fun z hz => ((congrArg (fun e => o_a e z) (Fr.at GM8 kd_297 (by decide))).trans (congrArg (fun e => o_a e z) (Fr.at GM5 kd_297 (by decide))))) (fun z hz => ((PhM8 z (by omega)).trans (congrArg (fun e => o_l e z) (Fr.at GM5 kd_299 (by decide)))))) (by omega) fun x19 M18 IM18 GM18 hx19 kx19 PM18 => ?_)
      have FM18 := Fr.trans FM8 GM18 (rfl)
      rcases PM18 with ⟨QM18, ⟨PaM18, PbM18, PfM18, PgM18⟩ | ⟨PaM18, PbM18, PcM18, PfM18, PgM18⟩ | ⟨PaM18, PbM18, PkM18, PvM18, PnM18, PtM18⟩⟩
      · skip
        refine PW.jz_ne q_192_45 rfl (fun h20 => False.elim (by omega)) (fun h20 => ?_)
        refine PW.cI q_192_48 (by decide) fun c21 hc21 => ?_
        refine PW.rZ q_192_49 rfl (by omega) (by omega) (by decide) (by decide) ?_
        have e : k_dog y A i = (1, kP y (i + 2), A, i) := by unfold k_dog; rw [if_neg (by omega), if_neg (by omega), if_neg (by omega), if_pos (by omega)]
        exact hK c21 M18 IM18 FM18 (by omega) (by omega) ⟨(((gKl.refl.tr QM5 rfl).tr QM8 rfl).tr QM18 rfl), (by rw [e]; exact Or.inr ⟨by omega, (by omega : (1 : Int) ≠ 0), (by omega : o_i (M18 294) 15 = 1), (by omega : o_i (M18 294) 16 = kP y (i + 2))⟩)⟩ (((gNl.refl.cg (Fr.at GM5 kd_299 rfl)).tr TM8).cg (Fr.at GM18 kd_299 rfl))
      · skip
        refine PW.jz_ne q_192_45 rfl (fun h22 => False.elim (by omega)) (fun h22 => ?_)
        refine PW.cI q_192_48 (by decide) fun c23 hc23 => ?_
        refine PW.rZ q_192_49 rfl (by omega) (by omega) (by decide) (by decide) ?_
        have e : k_dog y A i = (3, kP y (i + 2), A, i) := by unfold k_dog; rw [if_neg (by omega), if_neg (by omega), if_neg (by omega), if_neg (by omega), if_pos (by omega)]
        exact hK c23 M18 IM18 FM18 (by omega) (by omega) ⟨(((gKl.refl.tr QM5 rfl).tr QM8 rfl).tr QM18 rfl), (by rw [e]; exact Or.inr ⟨by omega, (by omega : (3 : Int) ≠ 0), (by omega : o_i (M18 294) 15 = 3), (by omega : o_i (M18 294) 16 = kP y (i + 2))⟩)⟩ (((gNl.refl.cg (Fr.at GM5 kd_299 rfl)).tr TM8).cg (Fr.at GM18 kd_299 rfl))
      · skip
        refine PW.jz_ne q_192_45 rfl (fun h24 => ?_) (fun h24 => False.elim (by omega))
        refine PW.aload_n q_192_50 rfl ?_
        refine PW.gR 297 q_192_51 (Or.inl t_ft_192_37) gF_40_7 kd_294 IM18.1 (by decide) rfl ?_
        refine PW.cB q_192_54 (by decide) fun c25 hc25 => ?_
        refine PW.iload_n q_192_56 rfl ?_
        refine PW.addN q_192_57 (by omega) (by omega) fun x26 hx26 => ?_
        refine PW.aload_n q_192_58 rfl ?_
        refine PW.gI q_192_59 (Or.inl t_ft_192_180) gF_40_18 kd_294 IM18.1 (by decide) fun x27 fx27 hx27 kx27 => ?_
        have ix27 := o_i_of fx27
        clear hx27 kx27
        have kbx27 := k_fd_b A.2.1 (kV y (i + 2)) (A.1 0).toNat
        have gtx27 : x27.toInt = k_fd A.2.1 (kV y (i + 2)) (A.1 0).toNat := by omega
        refine PW.wI q_192_62 gA_43 kd_297 hV IM18 (by decide) rfl gC_43_23_24 (by decide) (by omega) (by omega) (by omega) (by omega) fun M28 IM28 fM28 UM28 => ?_
        have FM28 := Fr.pu FM18 UM28.1 kd_297 (rfl : List.contains [40, 43, 45] 43 = true)
        refine PW.aload_n q_192_63 rfl ?_
        refine PW.cV (as := []) (rest := []) q_192_64 t_mv_192_173 kd_294 IM28.1 (by decide) rfl (by decide) rfl rfl (Nat.le_of_ble_eq_true rfl) (Nat.le_of_ble_eq_true rfl) (by decide) (by decide) ?_
        refine PW.up (by decide) (c_X12_go_vk (V) (hV) G _ M28 IM28 _ (i + 3) (k_ra.nx (PtM18.cg (UM28.1 294 (by decide)) (UM28.1 295 (by decide)) (UM28.1 300 (by decide))) (by omega)) fun M29 IM29 GM29 PM29 => ?_)
        have FM29 := Fr.trans FM28 GM29 (rfl)
        rcases PM29 with ⟨QM29, PtM29⟩
        refine PW.aload_n q_192_67 rfl ?_
        refine PW.cB q_192_68 (by decide) fun c30 hc30 => ?_
        refine PW.iload_n q_192_70 rfl ?_
        refine PW.addN q_192_71 (by omega) (by omega) fun x31 hx31 => ?_
        refine PW.cI q_192_72 (by decide) fun c32 hc32 => ?_
        refine PW.cB q_192_73 (by decide) fun c33 hc33 => ?_
        refine PW.cV (as := [_, _, _]) (rest := []) q_192_75 t_mv_192_208 kd_294 IM29.1 (by decide) rfl (by decide) rfl rfl (Nat.le_of_ble_eq_true rfl) (Nat.le_of_ble_eq_true rfl) (by decide) (by decide) ?_
        refine PW.up (by decide) (c_X12_puts_vkd (V) (hV) G _ M29 IM29 x31 c32 c33 (by omega) (by omega) _ (i + 3) 1 30 PtM29 (by omega) (by omega) fun x35 M34 IM34 GM34 hx35 kx35 PM34 => ?_)
        have FM34 := Fr.trans FM29 GM34 (rfl)
        rcases PM34 with ⟨QM34, ⟨PaM34, PzM34, PvM34, PlM34, PmM34, PtM34, PhM34⟩ | ⟨PaM34, PzM34, PfM34, PgM34⟩⟩
        · skip
          refine PW.jz_eq q_192_78 rfl (fun h36 => False.elim (by omega)) (fun h36 => ?_)
          refine PW.aload_n q_192_81 rfl ?_
          refine PW.cB q_192_82 (by decide) fun c37 hc37 => ?_
          refine PW.iload_n q_192_84 rfl ?_
          refine PW.addN q_192_85 (by omega) (by omega) fun x38 hx38 => ?_
          refine PW.cI q_192_86 (by decide) fun c39 hc39 => ?_
          refine PW.cB q_192_87 (by decide) fun c40 hc40 => ?_
          refine PW.cV (as := [_, _, _]) (rest := []) q_192_89 t_mv_192_208 kd_294 IM34.1 (by decide) rfl (by decide) rfl rfl (Nat.le_of_ble_eq_true rfl) (Nat.le_of_ble_eq_true rfl) (by decide) (by decide) ?_
          refine PW.up (by decide) (c_X12_puts_vkd (V) (hV) G _ M34 IM34 x38 c39 c40 (by omega) (by omega) _ (i + 4) 0 9 PtM34 (by omega) (by omega) fun x42 M41 IM41 GM41 hx42 kx42 PM41 => ?_)
          have FM41 := Fr.trans FM34 GM41 (rfl)
          rcases PM41 with ⟨QM41, ⟨PaM41, PzM41, PvM41, PlM41, PmM41, PtM41, PhM41⟩ | ⟨PaM41, PzM41, PfM41, PgM41⟩⟩
          · skip
            refine PW.jz_ne q_192_92 rfl (fun h43 => ?_) (fun h43 => False.elim (by omega))
            refine PW.aload_n q_192_97 rfl ?_
            refine PW.gR 297 q_192_98 (Or.inl t_ft_192_37) gF_40_7 kd_294 IM41.1 (by decide) rfl ?_
            refine PW.cB q_192_101 (by decide) fun c44 hc44 => ?_
            refine PW.iload_n q_192_103 rfl ?_
            refine PW.addN q_192_104 (by omega) (by omega) fun x45 hx45 => ?_
            refine PW.aload_n q_192_105 rfl ?_
            refine PW.cV (as := []) (rest := [_, _]) q_192_106 t_mv_192_223 kd_294 IM41.1 (by decide) rfl (by decide) rfl rfl (Nat.le_of_ble_eq_true rfl) (Nat.le_of_ble_eq_true rfl) (by decide) (by decide) ?_
            refine PW.up (by decide) (c_X12_lawOf_vk (V) (hV) G _ M41 IM41 _ (i + 5) PtM41 fun x47  hx47 kx47 PM46 => ?_)
            rcases PM46 with ⟨PlM46, PmM46⟩
            refine PW.wI q_192_109 gA_43 kd_297 hV IM41 (by decide) rfl gC_43_29_30 (by decide) (by omega) (by omega) (n_lo _) (n_hi _) fun M48 IM48 fM48 UM48 => ?_
            have FM48 := Fr.pu FM41 UM48.1 kd_297 (rfl : List.contains [40, 43, 45] 43 = true)
            refine PW.aload_n q_192_110 rfl ?_
            refine PW.gR 297 q_192_111 (Or.inl t_ft_192_37) gF_40_7 kd_294 IM48.1 (by decide) rfl ?_
            refine PW.cB q_192_114 (by decide) fun c49 hc49 => ?_
            refine PW.iload_n q_192_116 rfl ?_
            refine PW.addN q_192_117 (by omega) (by omega) fun x50 hx50 => ?_
            refine PW.aH q_192_118 gA_43 kd_297 IM48.1 (by decide) (by omega) (by omega) fun x51 fx51 => ?_
            have elw : x51.toInt = x47.toInt := by rw [← fx51, show x50.toInt.toNat = x45.toInt.toNat from by omega, fM48]
            refine PW.jz_ge q_192_119 rfl (fun h52 => ?_) (fun h52 => ?_)
            · skip
              refine PW.aload_n q_192_128 rfl ?_
              refine PW.cV (as := []) (rest := []) q_192_129 t_mv_192_173 kd_294 IM48.1 (by decide) rfl (by decide) rfl rfl (Nat.le_of_ble_eq_true rfl) (Nat.le_of_ble_eq_true rfl) (by decide) (by decide) ?_
              refine PW.up (by decide) (c_X12_go_vk (V) (hV) G _ M48 IM48 _ (i + 6) (k_ra.nx (PtM41.cg (UM48.1 294 (by decide)) (UM48.1 295 (by decide)) (UM48.1 300 (by decide))) (by omega)) fun M53 IM53 GM53 PM53 => ?_)
              have FM53 := Fr.trans FM48 GM53 (rfl)
              rcases PM53 with ⟨QM53, PtM53⟩
              refine PW.aload_n q_192_132 rfl ?_
              refine PW.gR 297 q_192_133 (Or.inl t_ft_192_37) gF_40_7 kd_294 IM53.1 (by decide) rfl ?_
              refine PW.cI q_192_136 (by decide) fun c54 hc54 => ?_
              refine PW.dup2 q_192_137 rfl rfl ?_
              refine PW.aI q_192_138 gA_43 kd_297 IM53.1 (by decide) gB_43_1_1 (by decide) (by omega) (by omega) fun x55 fx55 hx55 kx55 => ?_
              have eax55 : x55.toInt = A.1 1 := by rw [← fx55, show c54.toInt.toNat = 1 from by omega, ((congrArg (fun e => o_a e 1) (Fr.at GM53 kd_297 (by decide))).trans ((UM48.2 1 (by omega)).trans ((PhM41 1 (by omega)).trans ((PhM34 1 (by omega)).trans ((congrArg (fun e => o_a e 1) (Fr.at GM29 kd_297 (by decide))).trans ((UM28.2 1 (by omega)).trans ((congrArg (fun e => o_a e 1) (Fr.at GM18 kd_297 (by decide))).trans ((congrArg (fun e => o_a e 1) (Fr.at GM8 kd_297 (by decide))).trans (congrArg (fun e => o_a e 1) (Fr.at GM5 kd_297 (by decide)))))))))))]; exact kc1
              refine PW.cI q_192_139 (by decide) fun c56 hc56 => ?_
              refine PW.addN q_192_140 (by omega) (by omega) fun x57 hx57 => ?_
              refine PW.wI q_192_141 gA_43 kd_297 hV IM53 (by decide) rfl gC_43_1_1 (by decide) (by omega) (by omega) (by omega) (by omega) fun M58 IM58 fM58 UM58 => ?_
              have FM58 := Fr.pu FM53 UM58.1 kd_297 (rfl : List.contains [40, 43, 45] 43 = true)
              refine PW.cI q_192_142 (by decide) fun c59 hc59 => ?_
              refine PW.rZ q_192_143 rfl (by omega) (by omega) (by decide) (by decide) ?_
              have e : k_dog y A i = (0, 0, (va_up A.1 1 (A.1 1 + 1), A.2.1, va_up A.2.2.1 (A.1 1).toNat (kV y (i + 1)), va_up A.2.2.2.1 (A.1 1).toNat 0, va_up A.2.2.2.2 (A.1 1).toNat (k_lw y (i + 5))), i + 6) := by unfold k_dog; rw [if_neg (by omega), if_neg (by omega), if_neg (by omega), if_neg (by omega), if_neg (by omega), if_neg (by omega), if_neg (by omega), if_neg (by omega)]
              have hz : ∀ z : Nat, ((z ≤ 4 ∧ z ≠ 1) ∨ (29 ≤ z ∧ z ≤ 32 ∧ z ≠ 29 + (A.1 1).toNat)) → o_a (M58 297) z = o_a (M 297) z := fun z hz => ((UM58.2 z (by omega)).trans ((congrArg (fun e => o_a e z) (Fr.at GM53 kd_297 (by decide))).trans ((UM48.2 z (by omega)).trans ((PhM41 z (by omega)).trans ((PhM34 z (by omega)).trans ((congrArg (fun e => o_a e z) (Fr.at GM29 kd_297 (by decide))).trans ((UM28.2 z (by omega)).trans ((congrArg (fun e => o_a e z) (Fr.at GM18 kd_297 (by decide))).trans ((congrArg (fun e => o_a e z) (Fr.at GM8 kd_297 (by decide))).trans (congrArg (fun e => o_a e z) (Fr.at GM5 kd_297 (by decide))))))))))))
              have hnm : ∀ z : Nat, ((8 ≤ z ∧ (z : Int) < 8 + A.1 0) ∨ (14 ≤ z ∧ (z : Int) < 14 + A.1 1)) → o_l (M58 299) z = o_l (M 299) z := fun z hz => ((congrArg (fun e => o_l e z) (UM58.1 299 (by decide))).trans ((congrArg (fun e => o_l e z) (Fr.at GM53 kd_299 (by decide))).trans ((congrArg (fun e => o_l e z) (UM48.1 299 (by decide))).trans ((congrArg (fun e => o_l e z) (Fr.at GM41 kd_299 (by decide))).trans ((congrArg (fun e => o_l e z) (Fr.at GM34 kd_299 (by decide))).trans ((congrArg (fun e => o_l e z) (Fr.at GM29 kd_299 (by decide))).trans ((congrArg (fun e => o_l e z) (UM28.1 299 (by decide))).trans ((congrArg (fun e => o_l e z) (Fr.at GM18 kd_299 (by decide))).trans ((PhM8 z (by omega)).trans (congrArg (fun e => o_l e z) (Fr.at GM5 kd_299 (by decide))))))))))))
              have w20 : o_i (M58 294) 20 = o_i (M 294) 20 := ((congrArg (fun e => o_i e 20) (UM58.1 294 (by decide))).trans ((QM53.i 20 rfl).trans ((congrArg (fun e => o_i e 20) (UM48.1 294 (by decide))).trans ((QM41.i 20 rfl).trans ((QM34.i 20 rfl).trans ((QM29.i 20 rfl).trans ((congrArg (fun e => o_i e 20) (UM28.1 294 (by decide))).trans ((QM18.i 20 rfl).trans ((QM8.i 20 rfl).trans (QM5.i 20 rfl))))))))))
              exact hK c59 M58 IM58 FM58 (by omega) (by omega) ⟨((((((((((gKl.refl.tr QM5 rfl).tr QM8 rfl).tr QM18 rfl).cg (UM28.1 294 (by decide))).tr QM29 rfl).tr QM34 rfl).tr QM41 rfl).cg (UM48.1 294 (by decide))).tr QM53 rfl).cg (UM58.1 294 (by decide))), (by rw [e]; exact Or.inl ⟨by omega, rfl, (PtM53.cg (UM58.1 294 (by decide)) (UM58.1 295 (by decide)) (UM58.1 300 (by decide))), ⟨(by rw [hz 0 (by omega)]; exact kc0), (by have f := fM58; rw [show c54.toInt.toNat = 1 from by omega] at f; rw [f]; show _ = A.1 1 + 1; omega), (by rw [hz 2 (by omega)]; exact kc2), (by rw [hz 3 (by omega)]; exact kc3), (by rw [hz 4 (by omega)]; exact kc4), (((congrArg (fun e => o_i e 19) (UM58.1 294 (by decide))).trans ((QM53.i 19 rfl).trans ((congrArg (fun e => o_i e 19) (UM48.1 294 (by decide))).trans ((QM41.i 19 rfl).trans ((QM34.i 19 rfl).trans ((QM29.i 19 rfl).trans ((congrArg (fun e => o_i e 19) (UM28.1 294 (by decide))).trans ((QM18.i 19 rfl).trans ((QM8.i 19 rfl).trans (QM5.i 19 rfl)))))))))).trans kc5), (by omega), (by omega), (by show (o_i (M58 294) 20 % 2 = 1 ↔ (A.1 6 = 1 ∨ 0 < A.1 0)); omega), (by show (o_i (M58 294) 20 / 2 % 2 = 1 ↔ A.1 7 = 1); omega), (by show (o_i (M58 294) 20 / 4 % 2 = 1 ↔ A.1 4 ≠ -1); omega), (fun j hj => by have hj : (j : Int) < A.1 0 := hj; rw [(hnm (8 + j) (by omega))]; exact kc11 j hj), (k_upn (e0 := M 299) kc12 (by omega) (by have f := PwM8; rw [show x7.toInt.toNat = 14 + (A.1 1).toNat from by omega] at f; rw [((congrArg (fun e => o_l e (14 + (A.1 1).toNat)) (UM58.1 299 (by decide))).trans ((congrArg (fun e => o_l e (14 + (A.1 1).toNat)) (Fr.at GM53 kd_299 (by decide))).trans ((congrArg (fun e => o_l e (14 + (A.1 1).toNat)) (UM48.1 299 (by decide))).trans ((congrArg (fun e => o_l e (14 + (A.1 1).toNat)) (Fr.at GM41 kd_299 (by decide))).trans ((congrArg (fun e => o_l e (14 + (A.1 1).toNat)) (Fr.at GM34 kd_299 (by decide))).trans ((congrArg (fun e => o_l e (14 + (A.1 1).toNat)) (Fr.at GM29 kd_299 (by decide))).trans ((congrArg (fun e => o_l e (14 + (A.1 1).toNat)) (UM28.1 299 (by decide))).trans (congrArg (fun e => o_l e (14 + (A.1 1).toNat)) (Fr.at GM18 kd_299 (by decide))))))))))]; exact f) (fun j hj => (hnm (14 + j) (by omega)))), (k_upz (e0 := M 297) kc13 (by omega) (by rw [hz (31 + (A.1 1).toNat) (by omega)]; exact kc15 _ (by omega) (by omega)) (by omega) (fun j hj => hz (31 + j) (by omega))), (k_upw (e0 := M 297) kc14 (by omega) (by have f := fM48; rw [show x45.toInt.toNat = 29 + (A.1 1).toNat from by omega] at f; rw [((UM58.2 (29 + (A.1 1).toNat) (by omega)).trans (congrArg (fun e => o_a e (29 + (A.1 1).toNat)) (Fr.at GM53 kd_297 (by decide))))]; rw [f]; omega) (fun j hj => hz (29 + j) (by omega))), (fun j hj h2 => by have hj : A.1 1 + 1 ≤ (j : Int) := hj; rw [hz (31 + j) (by omega)]; exact kc15 j (by omega) h2), (by show 0 ≤ A.1 0; omega), (by show A.1 0 ≤ 6; omega), (by show 0 ≤ A.1 1 + 1; omega), (by show A.1 1 + 1 ≤ 2; omega)⟩⟩)⟩ ((((((((((gNl.refl.cg (Fr.at GM5 kd_299 rfl)).tr TM8).cg (Fr.at GM18 kd_299 rfl)).cg (UM28.1 299 (by decide))).cg (Fr.at GM29 kd_299 rfl)).cg (Fr.at GM34 kd_299 rfl)).cg (Fr.at GM41 kd_299 rfl)).cg (UM48.1 299 (by decide))).cg (Fr.at GM53 kd_299 rfl)).cg (UM58.1 299 (by decide)))
            · skip
              refine PW.aload_n q_192_122 rfl ?_
              refine PW.cI q_192_123 (by decide) fun c60 hc60 => ?_
              refine PW.cV (as := [_]) (rest := []) q_192_124 t_mv_192_170 kd_294 IM48.1 (by decide) rfl (by decide) rfl rfl (Nat.le_of_ble_eq_true rfl) (Nat.le_of_ble_eq_true rfl) (by decide) (by decide) ?_
              refine PW.up (by decide) (c_X12_bad_vk (V) (hV) G _ M48 IM48 c60 _ (i + 5) (PtM41.cg (UM48.1 294 (by decide)) (UM48.1 295 (by decide)) (UM48.1 300 (by decide))) fun x62 M61 IM61 GM61 hx62 kx62 PM61 => ?_)
              have FM61 := Fr.trans FM48 GM61 (rfl)
              rcases PM61 with ⟨QM61, ⟨PfM61, PgM61⟩⟩
              refine PW.rZ q_192_127 rfl (by omega) (by omega) (by decide) (by decide) ?_
              have e : k_dog y A i = (1, kP y (i + 5), A, i) := by unfold k_dog; rw [if_neg (by omega), if_neg (by omega), if_neg (by omega), if_neg (by omega), if_neg (by omega), if_neg (by omega), if_neg (by omega), if_pos (by omega)]
              exact hK x62 M61 IM61 FM61 (by omega) (by omega) ⟨(((((((((gKl.refl.tr QM5 rfl).tr QM8 rfl).tr QM18 rfl).cg (UM28.1 294 (by decide))).tr QM29 rfl).tr QM34 rfl).tr QM41 rfl).cg (UM48.1 294 (by decide))).tr QM61 rfl), (by rw [e]; exact Or.inr ⟨by omega, (by omega : (1 : Int) ≠ 0), (by omega : o_i (M61 294) 15 = 1), (by omega : o_i (M61 294) 16 = kP y (i + 5))⟩)⟩ (((((((((gNl.refl.cg (Fr.at GM5 kd_299 rfl)).tr TM8).cg (Fr.at GM18 kd_299 rfl)).cg (UM28.1 299 (by decide))).cg (Fr.at GM29 kd_299 rfl)).cg (Fr.at GM34 kd_299 rfl)).cg (Fr.at GM41 kd_299 rfl)).cg (UM48.1 299 (by decide))).cg (Fr.at GM61 kd_299 rfl))
          · skip
            refine PW.jz_ne q_192_92 rfl (fun h63 => False.elim (by omega)) (fun h63 => ?_)
            refine PW.cI q_192_95 (by decide) fun c64 hc64 => ?_
            refine PW.rZ q_192_96 rfl (by omega) (by omega) (by decide) (by decide) ?_
            have e : k_dog y A i = (k_nr y (i + 4) 0 9, kP y (i + 4), A, i) := by unfold k_dog; rw [if_neg (by omega), if_neg (by omega), if_neg (by omega), if_neg (by omega), if_neg (by omega), if_neg (by omega), if_pos (by omega)]
            exact hK c64 M41 IM41 FM41 (by omega) (by omega) ⟨(((((((gKl.refl.tr QM5 rfl).tr QM8 rfl).tr QM18 rfl).cg (UM28.1 294 (by decide))).tr QM29 rfl).tr QM34 rfl).tr QM41 rfl), (by rw [e]; exact Or.inr ⟨by omega, (by omega : (k_nr y (i + 4) 0 9 : Int) ≠ 0), (by omega : o_i (M41 294) 15 = k_nr y (i + 4) 0 9), (by omega : o_i (M41 294) 16 = kP y (i + 4))⟩)⟩ (((((((gNl.refl.cg (Fr.at GM5 kd_299 rfl)).tr TM8).cg (Fr.at GM18 kd_299 rfl)).cg (UM28.1 299 (by decide))).cg (Fr.at GM29 kd_299 rfl)).cg (Fr.at GM34 kd_299 rfl)).cg (Fr.at GM41 kd_299 rfl))
        · skip
          refine PW.jz_eq q_192_78 rfl (fun h65 => ?_) (fun h65 => False.elim (by omega))
          refine PW.cI q_192_95 (by decide) fun c66 hc66 => ?_
          refine PW.rZ q_192_96 rfl (by omega) (by omega) (by decide) (by decide) ?_
          have e : k_dog y A i = (k_nr y (i + 3) 1 30, kP y (i + 3), A, i) := by unfold k_dog; rw [if_neg (by omega), if_neg (by omega), if_neg (by omega), if_neg (by omega), if_neg (by omega), if_pos (by omega)]
          exact hK c66 M34 IM34 FM34 (by omega) (by omega) ⟨((((((gKl.refl.tr QM5 rfl).tr QM8 rfl).tr QM18 rfl).cg (UM28.1 294 (by decide))).tr QM29 rfl).tr QM34 rfl), (by rw [e]; exact Or.inr ⟨by omega, (by omega : (k_nr y (i + 3) 1 30 : Int) ≠ 0), (by omega : o_i (M34 294) 15 = k_nr y (i + 3) 1 30), (by omega : o_i (M34 294) 16 = kP y (i + 3))⟩)⟩ ((((((gNl.refl.cg (Fr.at GM5 kd_299 rfl)).tr TM8).cg (Fr.at GM18 kd_299 rfl)).cg (UM28.1 299 (by decide))).cg (Fr.at GM29 kd_299 rfl)).cg (Fr.at GM34 kd_299 rfl))
  · skip
    refine PW.aload_n q_192_12 rfl ?_
    refine PW.cI q_192_13 (by decide) fun c67 hc67 => ?_
    refine PW.cV (as := [_]) (rest := []) q_192_14 t_mv_192_170 kd_294 I.1 (by decide) rfl (by decide) rfl rfl (Nat.le_of_ble_eq_true rfl) (Nat.le_of_ble_eq_true rfl) (by decide) (by decide) ?_
    refine PW.up (by decide) (c_X12_bad_vk (V) (hV) G _ M I c67 _ i hp_0 fun x69 M68 IM68 GM68 hx69 kx69 PM68 => ?_)
    have FM68 := Fr.trans F GM68 (rfl)
    rcases PM68 with ⟨QM68, ⟨PfM68, PgM68⟩⟩
    refine PW.rZ q_192_17 rfl (by omega) (by omega) (by decide) (by decide) ?_
    have e : k_dog y A i = (4, kP y i, A, i) := by unfold k_dog; rw [if_pos (by omega)]
    exact hK x69 M68 IM68 FM68 (by omega) (by omega) ⟨(gKl.refl.tr QM68 rfl), (by rw [e]; exact Or.inr ⟨by omega, (by omega : (4 : Int) ≠ 0), (by omega : o_i (M68 294) 15 = 4), (by omega : o_i (M68 294) 16 = kP y i)⟩)⟩ (gNl.refl.cg (Fr.at GM68 kd_299 rfl))
