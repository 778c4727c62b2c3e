theorem c_X12_count_vk (G : pG) (Kr : pK) (M : pM) (I : Iv gTT M) (a1 : Int32) (hK : ∀ (x : Int32) (M1 : pM), Iv gTT M1 → Fr [40] M M1 → (gKl [0] M M1 ∧ ((a1.toInt = 0 ∧ x.toInt = (o_a (M 296) 0).toInt) ∨ (a1.toInt = 1 ∧ x.toInt = (o_a (M 296) 1).toInt) ∨ (a1.toInt = 2 ∧ x.toInt = (o_a (M 296) 2).toInt) ∨ (a1.toInt = 3 ∧ x.toInt = (o_a (M 296) 3).toInt) ∨ (a1.toInt = 4 ∧ (((o_a (M 296) 4).toInt = 0 ∧ x.toInt = -1) ∨ ((o_a (M 296) 4).toInt ≠ 0 ∧ x.toInt = (o_a (M 296) 4).toInt))) ∨ (a1.toInt = 5 ∧ x.toInt = o_i (M 294) 2) ∨ ((a1.toInt < 0 ∨ 5 < a1.toInt) ∧ x.toInt = -1))) → Kr.1 (some (.int x)) 311 M1) : PW G false 0 274 (p_mc 274) (p_msl 274) Kr 0 (lv_args 0 [.ref 294, .int a1]) [] 311 M 0 0 := by
  have F : Fr [40] M M := Fr.refl
  refine PW.aload_n q_274_0 rfl ?_
  refine PW.cI q_274_1 (by decide) fun c1 hc1 => ?_
  refine PW.pI q_274_2 (Or.inl t_ft_274_1) gF_40_0 gP_40_0 kd_294 Stab0 I (by decide) rfl (n_lo _) (n_hi _) fun M2 IM2 fM2 UM2 => ?_
  have FM2 := Fr.pu F UM2.1 kd_294 (rfl : List.contains [40] 40 = true)
  refine PW.iload_n q_274_5 rfl ?_
  have h3 : a1.toInt = 0 ∨ a1.toInt = 1 ∨ a1.toInt = 2 ∨ a1.toInt = 3 ∨ a1.toInt = 4 ∨ a1.toInt = 5 ∨ (a1.toInt < 0 ∨ 5 < a1.toInt) := by omega
  rcases h3 with h3 | h3 | h3 | h3 | h3 | h3 | h3
  · skip
    refine PW.sw1 (0) h3 q_274_6 (by decide) (by decide) rfl rfl ?_
    refine PW.aload_n q_274_44 rfl ?_
    refine PW.gR 296 q_274_45 (Or.inl t_ft_274_33) gF_40_6 kd_294 IM2.1 (by decide) rfl ?_
    refine PW.cI q_274_48 (by decide) fun c4 hc4 => ?_
    refine PW.aI q_274_49 gA_42 kd_296 IM2.1 (by decide) gB_42_0_0 (by decide) (by omega) (by omega) fun x5 fx5 hx5 kx5 => ?_
    have tb6 : (o_a (M 296) 0).toInt = x5.toInt := by have w := fx5; rw [show c4.toInt.toNat = 0 from by omega, (UM2.1 _ (g_ne kd_296 kd_294 (by decide)))] at w; rw [w]
    refine PW.rI q_274_50 rfl (by decide) (by decide) ?_
    exact hK x5 M2 IM2 FM2 ⟨(gKl.refl.put UM2 rfl), (by omega)⟩
  · skip
    refine PW.sw1 (1) h3 q_274_6 (by decide) (by decide) rfl rfl ?_
    refine PW.aload_n q_274_51 rfl ?_
    refine PW.gR 296 q_274_52 (Or.inl t_ft_274_33) gF_40_6 kd_294 IM2.1 (by decide) rfl ?_
    refine PW.cI q_274_55 (by decide) fun c7 hc7 => ?_
    refine PW.aI q_274_56 gA_42 kd_296 IM2.1 (by decide) gB_42_1_1 (by decide) (by omega) (by omega) fun x8 fx8 hx8 kx8 => ?_
    have tb9 : (o_a (M 296) 1).toInt = x8.toInt := by have w := fx8; rw [show c7.toInt.toNat = 1 from by omega, (UM2.1 _ (g_ne kd_296 kd_294 (by decide)))] at w; rw [w]
    refine PW.rI q_274_57 rfl (by decide) (by decide) ?_
    exact hK x8 M2 IM2 FM2 ⟨(gKl.refl.put UM2 rfl), (by omega)⟩
  · skip
    refine PW.sw1 (2) h3 q_274_6 (by decide) (by decide) rfl rfl ?_
    refine PW.aload_n q_274_58 rfl ?_
    refine PW.gR 296 q_274_59 (Or.inl t_ft_274_33) gF_40_6 kd_294 IM2.1 (by decide) rfl ?_
    refine PW.cI q_274_62 (by decide) fun c10 hc10 => ?_
    refine PW.aH q_274_63 gA_42 kd_296 IM2.1 (by decide) (by omega) (by omega) fun x11 fx11 => ?_
    have tb12 : (o_a (M 296) 2).toInt = x11.toInt := by have w := fx11; rw [show c10.toInt.toNat = 2 from by omega, (UM2.1 _ (g_ne kd_296 kd_294 (by decide)))] at w; rw [w]
    refine PW.rI q_274_64 rfl (by decide) (by decide) ?_
    exact hK x11 M2 IM2 FM2 ⟨(gKl.refl.put UM2 rfl), (by omega)⟩
  · skip
    refine PW.sw1 (3) h3 q_274_6 (by decide) (by decide) rfl rfl ?_
    refine PW.aload_n q_274_65 rfl ?_
    refine PW.gR 296 q_274_66 (Or.inl t_ft_274_33) gF_40_6 kd_294 IM2.1 (by decide) rfl ?_
    refine PW.cI q_274_69 (by decide) fun c13 hc13 => ?_
    refine PW.aH q_274_70 gA_42 kd_296 IM2.1 (by decide) (by omega) (by omega) fun x14 fx14 => ?_
    have tb15 : (o_a (M 296) 3).toInt = x14.toInt := by have w := fx14; rw [show c13.toInt.toNat = 3 from by omega, (UM2.1 _ (g_ne kd_296 kd_294 (by decide)))] at w; rw [w]
    refine PW.rI q_274_71 rfl (by decide) (by decide) ?_
    exact hK x14 M2 IM2 FM2 ⟨(gKl.refl.put UM2 rfl), (by omega)⟩
  · skip
    refine PW.sw1 (4) h3 q_274_6 (by decide) (by decide) rfl rfl ?_
    refine PW.aload_n q_274_72 rfl ?_
    refine PW.gR 296 q_274_73 (Or.inl t_ft_274_33) gF_40_6 kd_294 IM2.1 (by decide) rfl ?_
    refine PW.cI q_274_76 (by decide) fun c16 hc16 => ?_
    refine PW.aH q_274_77 gA_42 kd_296 IM2.1 (by decide) (by omega) (by omega) fun x17 fx17 => ?_
    have tb18 : (o_a (M 296) 4).toInt = x17.toInt := by have w := fx17; rw [show c16.toInt.toNat = 4 from by omega, (UM2.1 _ (g_ne kd_296 kd_294 (by decide)))] at w; rw [w]
    refine PW.jz_ne q_274_78 rfl (fun h19 => ?_) (fun h19 => ?_)
    · skip
      refine PW.aload_n q_274_85 rfl ?_
      refine PW.gR 296 q_274_86 (Or.inl t_ft_274_33) gF_40_6 kd_294 IM2.1 (by decide) rfl ?_
      refine PW.cI q_274_89 (by decide) fun c20 hc20 => ?_
      refine PW.aH q_274_90 gA_42 kd_296 IM2.1 (by decide) (by omega) (by omega) fun x21 fx21 => ?_
      have tb22 : (o_a (M 296) 4).toInt = x21.toInt := by have w := fx21; rw [show c20.toInt.toNat = 4 from by omega, (UM2.1 _ (g_ne kd_296 kd_294 (by decide)))] at w; rw [w]
      refine PW.rI q_274_91 rfl (by decide) (by decide) ?_
      exact hK x21 M2 IM2 FM2 ⟨(gKl.refl.put UM2 rfl), (by omega)⟩
    · skip
      refine PW.cI q_274_81 (by decide) fun c23 hc23 => ?_
      refine PW.goto q_274_82 rfl ?_
      refine PW.rI q_274_91 rfl (by decide) (by decide) ?_
      exact hK c23 M2 IM2 FM2 ⟨(gKl.refl.put UM2 rfl), (by omega)⟩
  · skip
    refine PW.sw1 (5) h3 q_274_6 (by decide) (by decide) rfl rfl ?_
    refine PW.aload_n q_274_92 rfl ?_
    refine PW.gI q_274_93 (Or.inl t_ft_274_7) gF_40_2 kd_294 IM2.1 (by decide) fun x24 fx24 hx24 kx24 => ?_
    have ix24 := o_i_of fx24
    have tl25 := (UM2.i (c := 294) (k := 2) (Or.inr (by decide)))
    refine PW.rI q_274_96 rfl (by decide) (by decide) ?_
    exact hK x24 M2 IM2 FM2 ⟨(gKl.refl.put UM2 rfl), (by omega)⟩
  · skip
    refine PW.tswO q_274_6 h3 rfl ?_
    refine PW.cI q_274_97 (by decide) fun c26 hc26 => ?_
    refine PW.rI q_274_98 rfl (by decide) (by decide) ?_
    exact hK c26 M2 IM2 FM2 ⟨(gKl.refl.put UM2 rfl), (by omega)⟩
