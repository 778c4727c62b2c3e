theorem c_X11_log_vk (G : pG) (Kr : pK) (M : pM) (I : Iv gTT M) (a1 : Int32) (y : k_X) (f : Nat → Int) (m : Int) (hp_0 : k_tp y M) (hp_1 : y.2.2 = 400) (hp_2 : s_nm M f m) (hK : ∀ (x : Int32) (M1 : pM), Iv gTT M1 → Fr [0, 1, 5, 7, 9, 10, 11, 12, 13, 21, 23, 24, 25] M M1 → (((a1.toInt < 0 ∨ 1 < a1.toInt) ∧ o_i (M1 0) 10 = o_i (M 0) 10 ∧ o_i (M1 1) 1 = o_i (M 1) 1) ∨ (0 ≤ a1.toInt ∧ a1.toInt ≤ 1 ∧ o_i (M1 0) 10 = (l_lines y f m 41 0 0).1 ∧ o_i (M1 1) 1 = 0)) → Kr.1 (some (.int x)) 311 M1) : PW G false 7 106 (p_mc 106) (p_msl 106) Kr 0 (lv_args 0 [.ref 0, .int a1]) [] 311 M 0 0 := by
  have F : Fr [0, 1, 5, 7, 9, 10, 11, 12, 13, 21, 23, 24, 25] M M := Fr.refl
  refine PW.iload_n q_106_0 rfl ?_
  refine PW.jz_eq q_106_1 rfl (fun h1 => ?_) (fun h1 => ?_)
  · skip
    refine PW.aload_n q_106_13 rfl ?_
    refine PW.gR 272 q_106_14 (Or.inl t_ft_106_55) gF_0_7 kd_0 I.1 (by decide) rfl ?_
    refine PW.aload_n q_106_17 rfl ?_
    refine PW.gR 1 q_106_18 (Or.inl t_ft_106_10) gF_0_0 kd_0 I.1 (by decide) rfl ?_
    refine PW.aload_n q_106_21 rfl ?_
    refine PW.gR 3 q_106_22 (Or.inl t_ft_106_19) gF_0_1 kd_0 I.1 (by decide) rfl ?_
    refine PW.gR 4 q_106_25 (Or.inr t_fN_106_94) gF_3_0 kd_3 I.1 (by decide) rfl ?_
    refine PW.cV (as := [_, _]) (rest := []) q_106_28 t_mv_106_139 kd_272 I.1 (by decide) rfl (by decide) rfl rfl (Nat.le_of_ble_eq_true rfl) (Nat.le_of_ble_eq_true rfl) (by decide) (by decide) ?_
    refine PW.up (by decide) (c_X6_read_vk G _ M I y f m hp_0 hp_1 hp_2 fun x3 M2 IM2 GM2 hx3 kx3 PM2 => ?_)
    have FM2 := Fr.trans F GM2 (rfl)
    rcases PM2 with ⟨PaM2, PbM2, PfM2⟩ | ⟨PaM2, PbM2, PfM2, PgM2⟩
    · skip
      refine PW.istore_n q_106_31 (by decide) ?_
      refine PW.aload_n q_106_32 rfl ?_
      refine PW.gR 1 q_106_33 (Or.inl t_ft_106_10) gF_0_0 kd_0 IM2.1 (by decide) rfl ?_
      refine PW.cI q_106_36 (by decide) fun c4 hc4 => ?_
      refine PW.pI q_106_37 (Or.inr t_fN_106_73) gF_1_1 gP_1_1 kd_1 (Stab6 G) IM2 (by decide) rfl (by omega) (by omega) fun M5 IM5 fM5 UM5 => ?_
      have FM5 := Fr.pu FM2 UM5.1 kd_1 (rfl : List.contains [0, 1, 5, 7, 9, 10, 11, 12, 13, 21, 23, 24, 25] 1 = true)
      refine PW.aload_n q_106_40 rfl ?_
      refine PW.aload_n q_106_41 rfl ?_
      refine PW.gR 1 q_106_42 (Or.inl t_ft_106_10) gF_0_0 kd_0 IM5.1 (by decide) rfl ?_
      refine PW.gI q_106_45 (Or.inr t_fN_106_85) gF_1_10 kd_1 IM5.1 (by decide) fun x6 fx6 hx6 kx6 => ?_
      have ix6 := o_i_of fx6
      clear hx6 kx6
      refine PW.pI q_106_48 (Or.inl t_ft_106_88) gF_0_10 gP_0_10 kd_0 (Stab6 G) IM5 (by decide) rfl (n_lo _) (n_hi _) fun M7 IM7 fM7 UM7 => ?_
      have FM7 := Fr.pu FM5 UM7.1 kd_0 (rfl : List.contains [0, 1, 5, 7, 9, 10, 11, 12, 13, 21, 23, 24, 25] 0 = true)
      refine PW.iload_n q_106_51 rfl ?_
      refine PW.jz_ne q_106_52 rfl (fun h8 => ?_) (fun h8 => False.elim (by omega))
      refine PW.aload_n q_106_66 rfl ?_
      refine PW.gR 272 q_106_67 (Or.inl t_ft_106_55) gF_0_7 kd_0 IM7.1 (by decide) rfl ?_
      refine PW.aload_n q_106_70 rfl ?_
      refine PW.gR 3 q_106_71 (Or.inl t_ft_106_19) gF_0_1 kd_0 IM7.1 (by decide) rfl ?_
      refine PW.gR 4 q_106_74 (Or.inr t_fN_106_94) gF_3_0 kd_3 IM7.1 (by decide) rfl ?_
      refine PW.aload_n q_106_77 rfl ?_
      refine PW.cV (as := []) (rest := [_, _]) q_106_78 t_mv_106_140 kd_0 IM7.1 (by decide) rfl (by decide) rfl rfl (Nat.le_of_ble_eq_true rfl) (Nat.le_of_ble_eq_true rfl) (by decide) (by decide) ?_
      refine PW.up (by decide) (c_X11_foreseen G _ M7 ⟨IM7.1, IM7.2.1⟩  fun M9 IM9 GM9 => ?_)
      have FM9 := Fr.trans FM7 GM9 (rfl)
      have LM9 : Iv (gT6 G) M9 := ⟨IM9.1, IM9.2, gS6.same IM7.2.2 (Fr.at GM9 kd_272 rfl) (Fr.at GM9 kd_273 rfl) (Fr.at GM9 kd_274 rfl)⟩
      refine PW.cV (as := [_, _]) (rest := []) q_106_81 t_mv_106_144 kd_272 LM9.1 (by decide) rfl (by decide) rfl rfl (Nat.le_of_ble_eq_true rfl) (Nat.le_of_ble_eq_true rfl) (by decide) (by decide) ?_
      refine PW.up (by decide) (c_X6_play G _ M9 LM9 4 kd_4 275 kd_275 fun x11 M10 IM10 GM10 => ?_)
      have FM10 := Fr.trans FM9 GM10 (rfl)
      refine PW.istore_n q_106_84 (by decide) ?_
      refine PW.iload_n q_106_85 rfl ?_
      refine PW.cI q_106_86 (by decide) fun c12 hc12 => ?_
      refine PW.jc_ne q_106_87 rfl (fun h13 => ?_) (fun h13 => False.elim (by omega))
      refine PW.iload_n q_106_118 rfl ?_
      refine PW.rI q_106_119 rfl (by decide) (by decide) ?_
      exact hK x11 M10 ⟨IM10.1, IM10.2.1⟩ FM10 (Or.inr ⟨by omega, by omega, (by have w := (o_i_of ((congrArg (fun e => o_f e 10) (Fr.at GM10 kd_0 (by decide))).trans ((congrArg (fun e => o_f e 10) (Fr.at GM9 kd_0 (by decide))).trans fM7))); have w2 := (o_i_of ((congrArg (fun e => o_f e 10) (Fr.at GM10 kd_1 (by decide))).trans ((congrArg (fun e => o_f e 10) (Fr.at GM9 kd_1 (by decide))).trans ((UM7.f (Or.inl (g_ne kd_1 kd_0 (by decide)))).trans fx6)))); have g10 := ((congrArg (fun e => o_i e 10) (Fr.at GM10 kd_1 (by decide))).trans ((congrArg (fun e => o_i e 10) (Fr.at GM9 kd_1 (by decide))).trans ((congrArg (fun e => o_i e 10) (UM7.1 1 (by decide))).trans (UM5.i (c := 1) (k := 10) (Or.inr (by decide)))))); omega), (by have w := (o_i_of ((congrArg (fun e => o_f e 1) (Fr.at GM10 kd_1 (by decide))).trans ((congrArg (fun e => o_f e 1) (Fr.at GM9 kd_1 (by decide))).trans ((UM7.f (Or.inl (g_ne kd_1 kd_0 (by decide)))).trans fM5)))); omega)⟩)
    · skip
      refine PW.istore_n q_106_31 (by decide) ?_
      refine PW.aload_n q_106_32 rfl ?_
      refine PW.gR 1 q_106_33 (Or.inl t_ft_106_10) gF_0_0 kd_0 IM2.1 (by decide) rfl ?_
      refine PW.cI q_106_36 (by decide) fun c14 hc14 => ?_
      refine PW.pI q_106_37 (Or.inr t_fN_106_73) gF_1_1 gP_1_1 kd_1 (Stab6 G) IM2 (by decide) rfl (by omega) (by omega) fun M15 IM15 fM15 UM15 => ?_
      have FM15 := Fr.pu FM2 UM15.1 kd_1 (rfl : List.contains [0, 1, 5, 7, 9, 10, 11, 12, 13, 21, 23, 24, 25] 1 = true)
      refine PW.aload_n q_106_40 rfl ?_
      refine PW.aload_n q_106_41 rfl ?_
      refine PW.gR 1 q_106_42 (Or.inl t_ft_106_10) gF_0_0 kd_0 IM15.1 (by decide) rfl ?_
      refine PW.gI q_106_45 (Or.inr t_fN_106_85) gF_1_10 kd_1 IM15.1 (by decide) fun x16 fx16 hx16 kx16 => ?_
      have ix16 := o_i_of fx16
      clear hx16 kx16
      refine PW.pI q_106_48 (Or.inl t_ft_106_88) gF_0_10 gP_0_10 kd_0 (Stab6 G) IM15 (by decide) rfl (n_lo _) (n_hi _) fun M17 IM17 fM17 UM17 => ?_
      have FM17 := Fr.pu FM15 UM17.1 kd_0 (rfl : List.contains [0, 1, 5, 7, 9, 10, 11, 12, 13, 21, 23, 24, 25] 0 = true)
      refine PW.iload_n q_106_51 rfl ?_
      refine PW.jz_ne q_106_52 rfl (fun h18 => False.elim (by omega)) (fun h18 => ?_)
      refine PW.cB q_106_55 (by decide) fun c19 hc19 => ?_
      refine PW.aload_n q_106_57 rfl ?_
      refine PW.gR 1 q_106_58 (Or.inl t_ft_106_10) gF_0_0 kd_0 IM17.1 (by decide) rfl ?_
      refine PW.gI q_106_61 (Or.inr t_fN_106_91) gF_1_11 kd_1 IM17.1 (by decide) fun x20 fx20 hx20 kx20 => ?_
      have ix20 := o_i_of fx20
      clear hx20 kx20
      refine PW.subX q_106_64 fun x21 hx21 => ?_
      refine PW.rI q_106_65 rfl (by decide) (by decide) ?_
      exact hK x21 M17 ⟨IM17.1, IM17.2.1⟩ FM17 (Or.inr ⟨by omega, by omega, (by have w := (o_i_of fM17); have w2 := (o_i_of ((UM17.f (Or.inl (g_ne kd_1 kd_0 (by decide)))).trans fx16)); have g10 := ((congrArg (fun e => o_i e 10) (UM17.1 1 (by decide))).trans (UM15.i (c := 1) (k := 10) (Or.inr (by decide)))); omega), (by have w := (o_i_of ((UM17.f (Or.inl (g_ne kd_1 kd_0 (by decide)))).trans fM15)); omega)⟩)
  · skip
    refine PW.iload_n q_106_4 rfl ?_
    refine PW.cI q_106_5 (by decide) fun c22 hc22 => ?_
    refine PW.jc_eq q_106_6 rfl (fun h23 => ?_) (fun h23 => ?_)
    · skip
      refine PW.aload_n q_106_13 rfl ?_
      refine PW.gR 272 q_106_14 (Or.inl t_ft_106_55) gF_0_7 kd_0 I.1 (by decide) rfl ?_
      refine PW.aload_n q_106_17 rfl ?_
      refine PW.gR 1 q_106_18 (Or.inl t_ft_106_10) gF_0_0 kd_0 I.1 (by decide) rfl ?_
      refine PW.aload_n q_106_21 rfl ?_
      refine PW.gR 3 q_106_22 (Or.inl t_ft_106_19) gF_0_1 kd_0 I.1 (by decide) rfl ?_
      refine PW.gR 4 q_106_25 (Or.inr t_fN_106_94) gF_3_0 kd_3 I.1 (by decide) rfl ?_
      refine PW.cV (as := [_, _]) (rest := []) q_106_28 t_mv_106_139 kd_272 I.1 (by decide) rfl (by decide) rfl rfl (Nat.le_of_ble_eq_true rfl) (Nat.le_of_ble_eq_true rfl) (by decide) (by decide) ?_
      refine PW.up (by decide) (c_X6_read_vk G _ M I y f m hp_0 hp_1 hp_2 fun x25 M24 IM24 GM24 hx25 kx25 PM24 => ?_)
      have FM24 := Fr.trans F GM24 (rfl)
      rcases PM24 with ⟨PaM24, PbM24, PfM24⟩ | ⟨PaM24, PbM24, PfM24, PgM24⟩
      · skip
        refine PW.istore_n q_106_31 (by decide) ?_
        refine PW.aload_n q_106_32 rfl ?_
        refine PW.gR 1 q_106_33 (Or.inl t_ft_106_10) gF_0_0 kd_0 IM24.1 (by decide) rfl ?_
        refine PW.cI q_106_36 (by decide) fun c26 hc26 => ?_
        refine PW.pI q_106_37 (Or.inr t_fN_106_73) gF_1_1 gP_1_1 kd_1 (Stab6 G) IM24 (by decide) rfl (by omega) (by omega) fun M27 IM27 fM27 UM27 => ?_
        have FM27 := Fr.pu FM24 UM27.1 kd_1 (rfl : List.contains [0, 1, 5, 7, 9, 10, 11, 12, 13, 21, 23, 24, 25] 1 = true)
        refine PW.aload_n q_106_40 rfl ?_
        refine PW.aload_n q_106_41 rfl ?_
        refine PW.gR 1 q_106_42 (Or.inl t_ft_106_10) gF_0_0 kd_0 IM27.1 (by decide) rfl ?_
        refine PW.gI q_106_45 (Or.inr t_fN_106_85) gF_1_10 kd_1 IM27.1 (by decide) fun x28 fx28 hx28 kx28 => ?_
        have ix28 := o_i_of fx28
        clear hx28 kx28
        refine PW.pI q_106_48 (Or.inl t_ft_106_88) gF_0_10 gP_0_10 kd_0 (Stab6 G) IM27 (by decide) rfl (n_lo _) (n_hi _) fun M29 IM29 fM29 UM29 => ?_
        have FM29 := Fr.pu FM27 UM29.1 kd_0 (rfl : List.contains [0, 1, 5, 7, 9, 10, 11, 12, 13, 21, 23, 24, 25] 0 = true)
        refine PW.iload_n q_106_51 rfl ?_
        refine PW.jz_ne q_106_52 rfl (fun h30 => ?_) (fun h30 => False.elim (by omega))
        refine PW.aload_n q_106_66 rfl ?_
        refine PW.gR 272 q_106_67 (Or.inl t_ft_106_55) gF_0_7 kd_0 IM29.1 (by decide) rfl ?_
        refine PW.aload_n q_106_70 rfl ?_
        refine PW.gR 3 q_106_71 (Or.inl t_ft_106_19) gF_0_1 kd_0 IM29.1 (by decide) rfl ?_
        refine PW.gR 4 q_106_74 (Or.inr t_fN_106_94) gF_3_0 kd_3 IM29.1 (by decide) rfl ?_
        refine PW.aload_n q_106_77 rfl ?_
        refine PW.cV (as := []) (rest := [_, _]) q_106_78 t_mv_106_140 kd_0 IM29.1 (by decide) rfl (by decide) rfl rfl (Nat.le_of_ble_eq_true rfl) (Nat.le_of_ble_eq_true rfl) (by decide) (by decide) ?_
        refine PW.up (by decide) (c_X11_foreseen G _ M29 ⟨IM29.1, IM29.2.1⟩  fun M31 IM31 GM31 => ?_)
        have FM31 := Fr.trans FM29 GM31 (rfl)
        have LM31 : Iv (gT6 G) M31 := ⟨IM31.1, IM31.2, gS6.same IM29.2.2 (Fr.at GM31 kd_272 rfl) (Fr.at GM31 kd_273 rfl) (Fr.at GM31 kd_274 rfl)⟩
        refine PW.cV (as := [_, _]) (rest := []) q_106_81 t_mv_106_144 kd_272 LM31.1 (by decide) rfl (by decide) rfl rfl (Nat.le_of_ble_eq_true rfl) (Nat.le_of_ble_eq_true rfl) (by decide) (by decide) ?_
        refine PW.up (by decide) (c_X6_play G _ M31 LM31 4 kd_4 275 kd_275 fun x33 M32 IM32 GM32 => ?_)
        have FM32 := Fr.trans FM31 GM32 (rfl)
        refine PW.istore_n q_106_84 (by decide) ?_
        refine PW.iload_n q_106_85 rfl ?_
        refine PW.cI q_106_86 (by decide) fun c34 hc34 => ?_
        refine PW.jc_ne q_106_87 rfl (fun h35 => False.elim (by omega)) (fun h35 => ?_)
        refine PW.aload_n q_106_90 rfl ?_
        refine PW.gR 110 q_106_91 (Or.inl t_ft_106_34) gF_0_4 kd_0 IM32.1 (by decide) rfl ?_
        refine PW.aload_n q_106_94 rfl ?_
        refine PW.gR 3 q_106_95 (Or.inl t_ft_106_19) gF_0_1 kd_0 IM32.1 (by decide) rfl ?_
        refine PW.gR 15 q_106_98 (Or.inr t_fN_106_101) gF_3_1 kd_3 IM32.1 (by decide) rfl ?_
        refine PW.cV (as := [_]) (rest := []) q_106_101 t_mv_106_147 kd_110 IM32.1 (by decide) rfl (by decide) rfl rfl (Nat.le_of_ble_eq_true rfl) (Nat.le_of_ble_eq_true rfl) (by decide) (by decide) ?_
        refine PW.up (by decide) (c_X1_keep G _ M32 ⟨IM32.1, IM32.2.1⟩ 15 kd_15 fun M36 IM36 GM36 => ?_)
        have FM36 := Fr.trans FM32 GM36 (rfl)
        have LM36 : Iv (gT6 G) M36 := ⟨IM36.1, IM36.2, gS6.same IM32.2.2 (Fr.at GM36 kd_272 rfl) (Fr.at GM36 kd_273 rfl) (Fr.at GM36 kd_274 rfl)⟩
        refine PW.aload_n q_106_104 rfl ?_
        refine PW.gR 3 q_106_105 (Or.inl t_ft_106_19) gF_0_1 kd_0 LM36.1 (by decide) rfl ?_
        refine PW.gR 15 q_106_108 (Or.inr t_fN_106_101) gF_3_1 kd_3 LM36.1 (by decide) rfl ?_
        refine PW.aload_n q_106_111 rfl ?_
        refine PW.gR 275 q_106_112 (Or.inl t_ft_106_62) gF_0_8 kd_0 LM36.1 (by decide) rfl ?_
        refine PW.cV (as := [_]) (rest := []) q_106_115 t_mv_106_151 kd_15 LM36.1 (by decide) rfl (by decide) rfl rfl (Nat.le_of_ble_eq_true rfl) (Nat.le_of_ble_eq_true rfl) (by decide) (by decide) ?_
        refine PW.up (by decide) (c_X5_copyFrom G _ M36 ⟨LM36.1, LM36.2.1⟩ 15 kd_15 275 kd_275 fun M37 IM37 GM37 => ?_)
        have FM37 := Fr.trans FM36 GM37 (rfl)
        have LM37 : Iv (gT6 G) M37 := ⟨IM37.1, IM37.2, gS6.same LM36.2.2 (Fr.at GM37 kd_272 rfl) (Fr.at GM37 kd_273 rfl) (Fr.at GM37 kd_274 rfl)⟩
        refine PW.iload_n q_106_118 rfl ?_
        refine PW.rI q_106_119 rfl (by decide) (by decide) ?_
        exact hK x33 M37 ⟨LM37.1, LM37.2.1⟩ FM37 (Or.inr ⟨by omega, by omega, (by have w := (o_i_of ((congrArg (fun e => o_f e 10) (Fr.at GM37 kd_0 (by decide))).trans ((congrArg (fun e => o_f e 10) (Fr.at GM36 kd_0 (by decide))).trans ((congrArg (fun e => o_f e 10) (Fr.at GM32 kd_0 (by decide))).trans ((congrArg (fun e => o_f e 10) (Fr.at GM31 kd_0 (by decide))).trans fM29))))); have w2 := (o_i_of ((congrArg (fun e => o_f e 10) (Fr.at GM37 kd_1 (by decide))).trans ((congrArg (fun e => o_f e 10) (Fr.at GM36 kd_1 (by decide))).trans ((congrArg (fun e => o_f e 10) (Fr.at GM32 kd_1 (by decide))).trans ((congrArg (fun e => o_f e 10) (Fr.at GM31 kd_1 (by decide))).trans ((UM29.f (Or.inl (g_ne kd_1 kd_0 (by decide)))).trans fx28)))))); have g10 := ((congrArg (fun e => o_i e 10) (Fr.at GM37 kd_1 (by decide))).trans ((congrArg (fun e => o_i e 10) (Fr.at GM36 kd_1 (by decide))).trans ((congrArg (fun e => o_i e 10) (Fr.at GM32 kd_1 (by decide))).trans ((congrArg (fun e => o_i e 10) (Fr.at GM31 kd_1 (by decide))).trans ((congrArg (fun e => o_i e 10) (UM29.1 1 (by decide))).trans (UM27.i (c := 1) (k := 10) (Or.inr (by decide)))))))); omega), (by have w := (o_i_of ((congrArg (fun e => o_f e 1) (Fr.at GM37 kd_1 (by decide))).trans ((congrArg (fun e => o_f e 1) (Fr.at GM36 kd_1 (by decide))).trans ((congrArg (fun e => o_f e 1) (Fr.at GM32 kd_1 (by decide))).trans ((congrArg (fun e => o_f e 1) (Fr.at GM31 kd_1 (by decide))).trans ((UM29.f (Or.inl (g_ne kd_1 kd_0 (by decide)))).trans fM27)))))); omega)⟩)
      · skip
        refine PW.istore_n q_106_31 (by decide) ?_
        refine PW.aload_n q_106_32 rfl ?_
        refine PW.gR 1 q_106_33 (Or.inl t_ft_106_10) gF_0_0 kd_0 IM24.1 (by decide) rfl ?_
        refine PW.cI q_106_36 (by decide) fun c38 hc38 => ?_
        refine PW.pI q_106_37 (Or.inr t_fN_106_73) gF_1_1 gP_1_1 kd_1 (Stab6 G) IM24 (by decide) rfl (by omega) (by omega) fun M39 IM39 fM39 UM39 => ?_
        have FM39 := Fr.pu FM24 UM39.1 kd_1 (rfl : List.contains [0, 1, 5, 7, 9, 10, 11, 12, 13, 21, 23, 24, 25] 1 = true)
        refine PW.aload_n q_106_40 rfl ?_
        refine PW.aload_n q_106_41 rfl ?_
        refine PW.gR 1 q_106_42 (Or.inl t_ft_106_10) gF_0_0 kd_0 IM39.1 (by decide) rfl ?_
        refine PW.gI q_106_45 (Or.inr t_fN_106_85) gF_1_10 kd_1 IM39.1 (by decide) fun x40 fx40 hx40 kx40 => ?_
        have ix40 := o_i_of fx40
        clear hx40 kx40
        refine PW.pI q_106_48 (Or.inl t_ft_106_88) gF_0_10 gP_0_10 kd_0 (Stab6 G) IM39 (by decide) rfl (n_lo _) (n_hi _) fun M41 IM41 fM41 UM41 => ?_
        have FM41 := Fr.pu FM39 UM41.1 kd_0 (rfl : List.contains [0, 1, 5, 7, 9, 10, 11, 12, 13, 21, 23, 24, 25] 0 = true)
        refine PW.iload_n q_106_51 rfl ?_
        refine PW.jz_ne q_106_52 rfl (fun h42 => False.elim (by omega)) (fun h42 => ?_)
        refine PW.cB q_106_55 (by decide) fun c43 hc43 => ?_
        refine PW.aload_n q_106_57 rfl ?_
        refine PW.gR 1 q_106_58 (Or.inl t_ft_106_10) gF_0_0 kd_0 IM41.1 (by decide) rfl ?_
        refine PW.gI q_106_61 (Or.inr t_fN_106_91) gF_1_11 kd_1 IM41.1 (by decide) fun x44 fx44 hx44 kx44 => ?_
        have ix44 := o_i_of fx44
        clear hx44 kx44
        refine PW.subX q_106_64 fun x45 hx45 => ?_
        refine PW.rI q_106_65 rfl (by decide) (by decide) ?_
        exact hK x45 M41 ⟨IM41.1, IM41.2.1⟩ FM41 (Or.inr ⟨by omega, by omega, (by have w := (o_i_of fM41); have w2 := (o_i_of ((UM41.f (Or.inl (g_ne kd_1 kd_0 (by decide)))).trans fx40)); have g10 := ((congrArg (fun e => o_i e 10) (UM41.1 1 (by decide))).trans (UM39.i (c := 1) (k := 10) (Or.inr (by decide)))); omega), (by have w := (o_i_of ((UM41.f (Or.inl (g_ne kd_1 kd_0 (by decide)))).trans fM39)); omega)⟩)
    · skip
      refine PW.cS q_106_9 (by decide) fun c46 hc46 => ?_
      refine PW.rI q_106_12 rfl (by decide) (by decide) ?_
      exact hK c46 M I F (Or.inl ⟨by omega, rfl, rfl⟩)
