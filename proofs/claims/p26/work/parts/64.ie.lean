theorem c_X12_rounds_vx (G : pG) (Kr : pK) (M : pM) (I : Iv gTT M) (a1 : Int32) (hl_a1 : 0 ≤ a1.toInt) (hh_a1 : a1.toInt ≤ 1) (hp_0 : 2 ≤ (o_a (M 296) 0).toInt) (hK : ∀ (M1 : pM), Iv gTT M1 → Fr [40, 49] M M1 → (o_i (M1 294) 25 = ((d_rn (o_a (M 296) (29 + a1.toInt).toNat).toInt (o_a (M 296) 0).toInt.toNat : Nat) : Int)) → ((gLq M1 M) ∧ gHq M1 M) → Kr.1 none 311 M1) : PW G false 3 238 (p_mc 238) (p_msl 238) Kr 0 (lv_args 0 [.ref 294, .int a1]) [] 311 M 0 0 := by
  have F : Fr [40, 49] M M := Fr.refl
  refine PW.cI q_238_0 (by decide) fun c1 hc1 => ?_
  refine PW.istore_n q_238_1 (by decide) ?_
  have L238_2_2 : ∀ (n : Nat) (ML238_2_2 : pM) (v3 : Int32), Iv (gTT) ML238_2_2 → Fr [40, 49] M ML238_2_2 → 0 ≤ v3.toInt → v3.toInt ≤ 6 → gsb ML238_2_2 v3.toInt → (gLq ML238_2_2 M ∧ gHq ML238_2_2 M) → (6 - v3.toInt).toNat = n → PW G false 3 238 (p_mc 238) (p_msl 238) Kr 2 [(0, .ref 294), (1, .int a1), (2, .int v3)] [] 311 ML238_2_2 0 0 := by
    intro n
    induction n using Nat.strongRecOn with
    | ind n ih_L238_2_2 =>
    intro ML238_2_2 v3 IML238_2_2 FML238_2_2 hbL238_2_20 hbL238_2_21 hbL238_2_22 hbL238_2_23 hmL238_2_2
    refine PW.iload_n q_238_2 rfl ?_
    refine PW.cB q_238_3 (by decide) fun c4 hc4 => ?_
    refine PW.jc_ge q_238_5 rfl (fun h5 => ?_) (fun h5 => ?_)
    · skip
      refine PW.aload_n q_238_34 rfl ?_
      refine PW.gR 296 q_238_35 (Or.inl t_ft_238_33) gF_40_6 kd_294 IML238_2_2.1 (by decide) rfl ?_
      refine PW.cB q_238_38 (by decide) fun c6 hc6 => ?_
      refine PW.iload_n q_238_40 rfl ?_
      refine PW.addN q_238_41 (by omega) (by omega) fun x7 hx7 => ?_
      refine PW.aI q_238_42 gA_42 kd_296 IML238_2_2.1 (by decide) gB_42_86_87 (by decide) (by omega) (by omega) fun x8 fx8 hx8 kx8 => ?_
      refine PW.istore_n q_238_43 (by decide) ?_
      refine PW.cS q_238_44 (by decide) fun c9 hc9 => ?_
      refine PW.istore_n q_238_47 (by decide) ?_
      refine PW.cI q_238_48 (by decide) fun c10 hc10 => ?_
      refine PW.istore q_238_49 (by decide) ?_
      have L238_51_11 : ∀ (n : Nat) (ML238_51_11 : pM) (v12 v13 v14 : Int32), Iv (gTT) ML238_51_11 → Fr [40, 49] M ML238_51_11 → 0 ≤ v12.toInt → v12.toInt ≤ 5 → 10000 ≤ v13.toInt → v13.toInt ≤ 10014 → 0 ≤ v14.toInt → v14.toInt ≤ 14 → gX1 (o_a (M 296)) (o_a (ML238_51_11 303)) (o_a (M 296) (29 + a1.toInt).toNat).toInt v12.toInt v14.toInt → v13.toInt = 10000 + v14.toInt → (gLq ML238_51_11 M ∧ gHq ML238_51_11 M) → (14 - v14.toInt).toNat = n → PW G false 3 238 (p_mc 238) (p_msl 238) Kr 51 [(0, .ref 294), (1, .int a1), (2, .int v12), (3, .int v13), (4, .int v14)] [] 311 ML238_51_11 0 0 := by
        intro n
        induction n using Nat.strongRecOn with
        | ind n ih_L238_51_11 =>
        intro ML238_51_11 v12 v13 v14 IML238_51_11 FML238_51_11 hbL238_51_110 hbL238_51_111 hbL238_51_112 hbL238_51_113 hbL238_51_114 hbL238_51_115 hbL238_51_116 hbL238_51_117 hbL238_51_118 hmL238_51_11
        refine PW.iload q_238_51 rfl ?_
        refine PW.cB q_238_53 (by decide) fun c15 hc15 => ?_
        refine PW.jc_ge q_238_55 rfl (fun h16 => ?_) (fun h16 => ?_)
        · skip
          have hX := gX2.start hbL238_51_116 (by omega)
          refine PW.iload_n q_238_89 rfl ?_
          refine PW.istore q_238_90 (by decide) ?_
          refine PW.aload_n q_238_92 rfl ?_
          refine PW.cI q_238_93 (by decide) fun c17 hc17 => ?_
          refine PW.pI q_238_94 (Or.inl t_ft_238_331) gF_40_25 gP_40_25 kd_294 Stab0 IML238_51_11 (by decide) rfl (n_lo _) (n_hi _) fun M18 IM18 fM18 UM18 => ?_
          have FM18 := Fr.pu FML238_51_11 UM18.1 kd_294 (rfl : List.contains [40, 49] 40 = true)
          have tr19 := o_i_of fM18
          refine PW.aload_n q_238_97 rfl ?_
          refine PW.cI q_238_98 (by decide) fun c20 hc20 => ?_
          refine PW.pI q_238_99 (Or.inl t_ft_238_334) gF_40_26 gP_40_26 kd_294 Stab0 IM18 (by decide) rfl (n_lo _) (n_hi _) fun M21 IM21 fM21 UM21 => ?_
          have FM21 := Fr.pu FM18 UM21.1 kd_294 (rfl : List.contains [40, 49] 40 = true)
          have tr22 := UM21.i (c := 294) (k := 25) (Or.inr (by decide))
          have L238_102_23 : ∀ (n : Nat) (ML238_102_23 : pM) (v24 v25 : Int32), Iv (gTT) ML238_102_23 → Fr [40, 49] M ML238_102_23 → 0 ≤ v24.toInt → v24.toInt ≤ 5 → 10014 ≤ v25.toInt → v25.toInt ≤ 10020 → gX2 (o_a (M 296)) (o_a (ML238_102_23 303)) (o_a (M 296) (29 + a1.toInt).toNat).toInt v24.toInt v12.toInt (o_i (ML238_102_23 294) 25) → v25.toInt = 10014 + o_i (ML238_102_23 294) 25 → 0 ≤ o_i (ML238_102_23 294) 25 → o_i (ML238_102_23 294) 25 ≤ 6 → (gLq ML238_102_23 M ∧ gHq ML238_102_23 M) → (10021 - v25.toInt).toNat = n → PW G false 3 238 (p_mc 238) (p_msl 238) Kr 102 [(0, .ref 294), (1, .int a1), (2, .int v24), (3, .int v25), (4, .int v12)] [] 311 ML238_102_23 0 0 := by
            intro n
            induction n using Nat.strongRecOn with
            | ind n ih_L238_102_23 =>
            intro ML238_102_23 v24 v25 IML238_102_23 FML238_102_23 hbL238_102_230 hbL238_102_231 hbL238_102_232 hbL238_102_233 hbL238_102_234 hbL238_102_235 hbL238_102_236 hbL238_102_237 hbL238_102_238 hmL238_102_23
            refine PW.aload_n q_238_102 rfl ?_
            refine PW.gI q_238_103 (Or.inl t_ft_238_331) gF_40_25 kd_294 IML238_102_23.1 (by decide) fun x26 fx26 hx26 kx26 => ?_
            have trx26 := o_i_of fx26
            clear hx26 kx26
            refine PW.jz_eq q_238_106 rfl (fun h27 => ?_) (fun h27 => ?_)
            · skip
              refine PW.aload_n q_238_115 rfl ?_
              refine PW.aload_n q_238_116 rfl ?_
              refine PW.gR 296 q_238_117 (Or.inl t_ft_238_33) gF_40_6 kd_294 IML238_102_23.1 (by decide) rfl ?_
              refine PW.cB q_238_120 (by decide) fun c28 hc28 => ?_
              refine PW.iload_n q_238_122 rfl ?_
              refine PW.addN q_238_123 (by omega) (by omega) fun x29 hx29 => ?_
              refine PW.aH q_238_124 gA_42 kd_296 IML238_102_23.1 (by decide) (by omega) (by omega) fun x30 fx30 => ?_
              have tl31 : (o_a (M 296) (29 + a1.toInt).toNat).toInt = x30.toInt := by rw [← Fr.at FML238_102_23 kd_296 rfl, show (29 + a1.toInt).toNat = x29.toInt.toNat from by omega, fx30]
              refine PW.iload_n q_238_125 rfl ?_
              refine PW.cV (as := [_, _]) (rest := []) q_238_126 t_mv_238_328 kd_294 IML238_102_23.1 (by decide) rfl (by decide) rfl rfl (Nat.le_of_ble_eq_true rfl) (Nat.le_of_ble_eq_true rfl) (by decide) (by decide) ?_
              refine PW.up (by decide) (c_X12_stepOf_v (gTT) (Stab0) G _ ML238_102_23 IML238_102_23 x30 v24 (by omega) (by omega) (by rw [Fr.at FML238_102_23 kd_296 rfl]; exact hp_0) fun x33 M32 IM32 GM32 hx33 kx33 PM32 TM32 => ?_)
              have FM32 := Fr.trans FML238_102_23 GM32 (rfl)
              have tr34 : o_i (M32 294) 25 = o_i (ML238_102_23 294) 25 := by rw [Fr.at GM32 kd_294 (by decide)]
              have hg35 : gst (o_a (M 296)) (o_a (ML238_102_23 303)) (o_a (M 296) (29 + a1.toInt).toNat).toInt v24.toInt x33.toInt := by have w := PM32; rw [Fr.at FML238_102_23 kd_296 rfl, ← tl31] at w; exact w
              refine PW.istore_n q_238_129 (by decide) ?_
              refine PW.aload_n q_238_130 rfl ?_
              refine PW.gR 303 q_238_131 (Or.inl t_ft_238_56) gF_40_24 kd_294 IM32.1 (by decide) rfl ?_
              refine PW.iload_n q_238_134 rfl ?_
              refine PW.iload_n q_238_135 rfl ?_
              refine PW.wI q_238_136 gA_49 kd_303 Stab0 IM32 (by decide) rfl gC_49_0_5 (by decide) (by omega) (by omega) (n_lo _) (n_hi _) fun M36 IM36 fM36 UM36 => ?_
              have FM36 := Fr.pu FM32 UM36.1 kd_303 (rfl : List.contains [40, 49] 49 = true)
              have tr37 : o_i (M36 294) 25 = o_i (M32 294) 25 := by rw [UM36.1 294 (g_ne kd_294 kd_303 (by decide))]
              refine PW.incN q_238_137 rfl (by decide) (by decide) (by omega) (by omega) fun x38 hx38 => ?_
              refine PW.aload_n q_238_140 rfl ?_
              refine PW.dup q_238_141 rfl ?_
              refine PW.gE q_238_142 (Or.inl t_ft_238_331) gF_40_25 kd_294 IM36.1 (by decide) ((congrArg (fun e => o_f e 25) (UM36.1 _ (g_ne kd_294 kd_303 (by decide)))).trans ((congrArg (fun e => o_f e 25) (Fr.at GM32 kd_294 (by decide))).trans fx26)) ?_
              have tr39 := o_i_of ((congrArg (fun e => o_f e 25) (UM36.1 _ (g_ne kd_294 kd_303 (by decide)))).trans ((congrArg (fun e => o_f e 25) (Fr.at GM32 kd_294 (by decide))).trans fx26))
              refine PW.cI q_238_145 (by decide) fun c40 hc40 => ?_
              refine PW.addN q_238_146 (by have := n_lo x26; have := n_hi x26; omega) (by have := n_lo x26; have := n_hi x26; omega) fun x41 hx41 => ?_
              refine PW.pI q_238_147 (Or.inl t_ft_238_331) gF_40_25 gP_40_25 kd_294 Stab0 IM36 (by decide) rfl (n_lo _) (n_hi _) fun M42 IM42 fM42 UM42 => ?_
              have FM42 := Fr.pu FM36 UM42.1 kd_294 (rfl : List.contains [40, 49] 40 = true)
              have tr43 := o_i_of fM42
              refine PW.aload_n q_238_150 rfl ?_
              refine PW.dup q_238_151 rfl ?_
              refine PW.gI q_238_152 (Or.inl t_ft_238_334) gF_40_26 kd_294 IM42.1 (by decide) fun x44 fx44 hx44 kx44 => ?_
              clear hx44 kx44
              refine PW.cI q_238_155 (by decide) fun c45 hc45 => ?_
              refine PW.iload_n q_238_156 rfl ?_
              refine PW.shlH q_238_157 fun x46 => ?_
              refine PW.orH q_238_158 fun x47 => ?_
              refine PW.pI q_238_159 (Or.inl t_ft_238_334) gF_40_26 gP_40_26 kd_294 Stab0 IM42 (by decide) rfl (n_lo _) (n_hi _) fun M48 IM48 fM48 UM48 => ?_
              have FM48 := Fr.pu FM42 UM48.1 kd_294 (rfl : List.contains [40, 49] 40 = true)
              have tr49 := UM48.i (c := 294) (k := 25) (Or.inr (by decide))
              refine PW.goto q_238_162 rfl ?_
              obtain ⟨hn1, hB1⟩ := gX2.step (rm := o_i (ML238_102_23 294) 25) (rm' := o_i (M48 294) 25) hbL238_102_234 hp_0 (g_wk6 I.1).2 (by omega) hg35 fM36 rfl (fun z hz => by rw [UM36.2 z hz, Fr.at GM32 kd_303 rfl]) (by omega) (by omega)
              refine PW.lvS (lk1 rfl (lk1 rfl (lk1 rfl (lk1 rfl (lk1 rfl lk0))))) (ih_L238_102_23 _ ?_ M48 x33 x38 IM48 FM48 (by omega) (by omega) (by omega) (by omega) (by rw [show o_a (M48 303) = o_a (M36 303) from by rw [((UM48.1 _ (g_ne kd_303 kd_294 (by decide))).trans (UM42.1 _ (g_ne kd_303 kd_294 (by decide))))]]; exact hB1) (by omega) (by omega) (by omega) ⟨((UM48.i (c := 294) (k := 2) (Or.inr (by decide))).trans ((UM42.i (c := 294) (k := 2) (Or.inr (by decide))).trans ((congrArg (fun e => o_i e 2) (UM36.1 294 (by decide))).trans ((congrArg (fun e => o_i e 2) (Fr.at GM32 kd_294 rfl)).trans hbL238_102_238.1)))), ((((hbL238_102_238.2.cg (Fr.at GM32 kd_296 rfl)).cg (UM36.1 296 (by decide))).cg (UM42.1 296 (by decide))).cg (UM48.1 296 (by decide)))⟩ rfl)
              omega
            · skip
              refine PW.iload_n q_238_109 rfl ?_
              refine PW.iload q_238_110 rfl ?_
              refine PW.jc_eq q_238_112 rfl (fun h50 => ?_) (fun h50 => ?_)
              · skip
                refine PW.vret q_238_165 rfl (by decide) (by decide) ?_
                exact hK ML238_102_23 IML238_102_23 FML238_102_23 (gX2.fin hbL238_102_234 hp_0 (g_wk6 I.1).2 (by omega) (by omega)) ⟨hbL238_102_238.1, hbL238_102_238.2⟩
              · skip
                refine PW.aload_n q_238_115 rfl ?_
                refine PW.aload_n q_238_116 rfl ?_
                refine PW.gR 296 q_238_117 (Or.inl t_ft_238_33) gF_40_6 kd_294 IML238_102_23.1 (by decide) rfl ?_
                refine PW.cB q_238_120 (by decide) fun c51 hc51 => ?_
                refine PW.iload_n q_238_122 rfl ?_
                refine PW.addN q_238_123 (by omega) (by omega) fun x52 hx52 => ?_
                refine PW.aH q_238_124 gA_42 kd_296 IML238_102_23.1 (by decide) (by omega) (by omega) fun x53 fx53 => ?_
                have tl54 : (o_a (M 296) (29 + a1.toInt).toNat).toInt = x53.toInt := by rw [← Fr.at FML238_102_23 kd_296 rfl, show (29 + a1.toInt).toNat = x52.toInt.toNat from by omega, fx53]
                refine PW.iload_n q_238_125 rfl ?_
                refine PW.cV (as := [_, _]) (rest := []) q_238_126 t_mv_238_328 kd_294 IML238_102_23.1 (by decide) rfl (by decide) rfl rfl (Nat.le_of_ble_eq_true rfl) (Nat.le_of_ble_eq_true rfl) (by decide) (by decide) ?_
                refine PW.up (by decide) (c_X12_stepOf_v (gTT) (Stab0) G _ ML238_102_23 IML238_102_23 x53 v24 (by omega) (by omega) (by rw [Fr.at FML238_102_23 kd_296 rfl]; exact hp_0) fun x56 M55 IM55 GM55 hx56 kx56 PM55 TM55 => ?_)
                have FM55 := Fr.trans FML238_102_23 GM55 (rfl)
                have tr57 : o_i (M55 294) 25 = o_i (ML238_102_23 294) 25 := by rw [Fr.at GM55 kd_294 (by decide)]
                have hg58 : gst (o_a (M 296)) (o_a (ML238_102_23 303)) (o_a (M 296) (29 + a1.toInt).toNat).toInt v24.toInt x56.toInt := by have w := PM55; rw [Fr.at FML238_102_23 kd_296 rfl, ← tl54] at w; exact w
                refine PW.istore_n q_238_129 (by decide) ?_
                refine PW.aload_n q_238_130 rfl ?_
                refine PW.gR 303 q_238_131 (Or.inl t_ft_238_56) gF_40_24 kd_294 IM55.1 (by decide) rfl ?_
                refine PW.iload_n q_238_134 rfl ?_
                refine PW.iload_n q_238_135 rfl ?_
                refine PW.wI q_238_136 gA_49 kd_303 Stab0 IM55 (by decide) rfl gC_49_0_5 (by decide) (by omega) (by omega) (n_lo _) (n_hi _) fun M59 IM59 fM59 UM59 => ?_
                have FM59 := Fr.pu FM55 UM59.1 kd_303 (rfl : List.contains [40, 49] 49 = true)
                have tr60 : o_i (M59 294) 25 = o_i (M55 294) 25 := by rw [UM59.1 294 (g_ne kd_294 kd_303 (by decide))]
                refine PW.incN q_238_137 rfl (by decide) (by decide) (by omega) (by omega) fun x61 hx61 => ?_
                refine PW.aload_n q_238_140 rfl ?_
                refine PW.dup q_238_141 rfl ?_
                refine PW.gE q_238_142 (Or.inl t_ft_238_331) gF_40_25 kd_294 IM59.1 (by decide) ((congrArg (fun e => o_f e 25) (UM59.1 _ (g_ne kd_294 kd_303 (by decide)))).trans ((congrArg (fun e => o_f e 25) (Fr.at GM55 kd_294 (by decide))).trans fx26)) ?_
                have tr62 := o_i_of ((congrArg (fun e => o_f e 25) (UM59.1 _ (g_ne kd_294 kd_303 (by decide)))).trans ((congrArg (fun e => o_f e 25) (Fr.at GM55 kd_294 (by decide))).trans fx26))
                refine PW.cI q_238_145 (by decide) fun c63 hc63 => ?_
                refine PW.addN q_238_146 (by have := n_lo x26; have := n_hi x26; omega) (by have := n_lo x26; have := n_hi x26; omega) fun x64 hx64 => ?_
                refine PW.pI q_238_147 (Or.inl t_ft_238_331) gF_40_25 gP_40_25 kd_294 Stab0 IM59 (by decide) rfl (n_lo _) (n_hi _) fun M65 IM65 fM65 UM65 => ?_
                have FM65 := Fr.pu FM59 UM65.1 kd_294 (rfl : List.contains [40, 49] 40 = true)
                have tr66 := o_i_of fM65
                refine PW.aload_n q_238_150 rfl ?_
                refine PW.dup q_238_151 rfl ?_
                refine PW.gI q_238_152 (Or.inl t_ft_238_334) gF_40_26 kd_294 IM65.1 (by decide) fun x67 fx67 hx67 kx67 => ?_
                clear hx67 kx67
                refine PW.cI q_238_155 (by decide) fun c68 hc68 => ?_
                refine PW.iload_n q_238_156 rfl ?_
                refine PW.shlH q_238_157 fun x69 => ?_
                refine PW.orH q_238_158 fun x70 => ?_
                refine PW.pI q_238_159 (Or.inl t_ft_238_334) gF_40_26 gP_40_26 kd_294 Stab0 IM65 (by decide) rfl (n_lo _) (n_hi _) fun M71 IM71 fM71 UM71 => ?_
                have FM71 := Fr.pu FM65 UM71.1 kd_294 (rfl : List.contains [40, 49] 40 = true)
                have tr72 := UM71.i (c := 294) (k := 25) (Or.inr (by decide))
                refine PW.goto q_238_162 rfl ?_
                obtain ⟨hn1, hB1⟩ := gX2.step (rm := o_i (ML238_102_23 294) 25) (rm' := o_i (M71 294) 25) hbL238_102_234 hp_0 (g_wk6 I.1).2 (by omega) hg58 fM59 rfl (fun z hz => by rw [UM59.2 z hz, Fr.at GM55 kd_303 rfl]) (by omega) (by omega)
                refine PW.lvS (lk1 rfl (lk1 rfl (lk1 rfl (lk1 rfl (lk1 rfl lk0))))) (ih_L238_102_23 _ ?_ M71 x56 x61 IM71 FM71 (by omega) (by omega) (by omega) (by omega) (by rw [show o_a (M71 303) = o_a (M59 303) from by rw [((UM71.1 _ (g_ne kd_303 kd_294 (by decide))).trans (UM65.1 _ (g_ne kd_303 kd_294 (by decide))))]]; exact hB1) (by omega) (by omega) (by omega) ⟨((UM71.i (c := 294) (k := 2) (Or.inr (by decide))).trans ((UM65.i (c := 294) (k := 2) (Or.inr (by decide))).trans ((congrArg (fun e => o_i e 2) (UM59.1 294 (by decide))).trans ((congrArg (fun e => o_i e 2) (Fr.at GM55 kd_294 rfl)).trans hbL238_102_238.1)))), ((((hbL238_102_238.2.cg (Fr.at GM55 kd_296 rfl)).cg (UM59.1 296 (by decide))).cg (UM65.1 296 (by decide))).cg (UM71.1 296 (by decide)))⟩ rfl)
                omega
          exact PW.lvS (lk1 rfl (lk1 rfl (lk1 rfl (lk1 rfl (lk1 rfl lk0))))) (L238_102_23 _ M21 v12 v13 IM21 FM21 (by omega) (by omega) (by omega) (by omega) (by rw [show o_a (M21 303) = o_a (ML238_51_11 303) from by rw [((UM21.1 _ (g_ne kd_303 kd_294 (by decide))).trans (UM18.1 _ (g_ne kd_303 kd_294 (by decide))))]]; exact hX _ (by omega)) (by omega) (by omega) (by omega) ⟨((UM21.i (c := 294) (k := 2) (Or.inr (by decide))).trans ((UM18.i (c := 294) (k := 2) (Or.inr (by decide))).trans hbL238_51_118.1)), ((hbL238_51_118.2.cg (UM18.1 296 (by decide))).cg (UM21.1 296 (by decide)))⟩ rfl)
        · skip
          refine PW.aload_n q_238_58 rfl ?_
          refine PW.aload_n q_238_59 rfl ?_
          refine PW.gR 296 q_238_60 (Or.inl t_ft_238_33) gF_40_6 kd_294 IML238_51_11.1 (by decide) rfl ?_
          refine PW.cB q_238_63 (by decide) fun c73 hc73 => ?_
          refine PW.iload_n q_238_65 rfl ?_
          refine PW.addN q_238_66 (by omega) (by omega) fun x74 hx74 => ?_
          refine PW.aH q_238_67 gA_42 kd_296 IML238_51_11.1 (by decide) (by omega) (by omega) fun x75 fx75 => ?_
          have tl76 : (o_a (M 296) (29 + a1.toInt).toNat).toInt = x75.toInt := by rw [← Fr.at FML238_51_11 kd_296 rfl, show (29 + a1.toInt).toNat = x74.toInt.toNat from by omega, fx75]
          refine PW.iload_n q_238_68 rfl ?_
          refine PW.cV (as := [_, _]) (rest := []) q_238_69 t_mv_238_328 kd_294 IML238_51_11.1 (by decide) rfl (by decide) rfl rfl (Nat.le_of_ble_eq_true rfl) (Nat.le_of_ble_eq_true rfl) (by decide) (by decide) ?_
          refine PW.up (by decide) (c_X12_stepOf_v (gTT) (Stab0) G _ ML238_51_11 IML238_51_11 x75 v12 (by omega) (by omega) (by rw [Fr.at FML238_51_11 kd_296 rfl]; exact hp_0) fun x78 M77 IM77 GM77 hx78 kx78 PM77 TM77 => ?_)
          have FM77 := Fr.trans FML238_51_11 GM77 (rfl)
          have tr79 : o_i (M77 294) 25 = o_i (ML238_51_11 294) 25 := by rw [Fr.at GM77 kd_294 (by decide)]
          have hg80 : gst (o_a (M 296)) (o_a (ML238_51_11 303)) (o_a (M 296) (29 + a1.toInt).toNat).toInt v12.toInt x78.toInt := by have w := PM77; rw [Fr.at FML238_51_11 kd_296 rfl, ← tl76] at w; exact w
          refine PW.istore_n q_238_72 (by decide) ?_
          refine PW.aload_n q_238_73 rfl ?_
          refine PW.gR 303 q_238_74 (Or.inl t_ft_238_56) gF_40_24 kd_294 IM77.1 (by decide) rfl ?_
          refine PW.iload_n q_238_77 rfl ?_
          refine PW.iload_n q_238_78 rfl ?_
          refine PW.wI q_238_79 gA_49 kd_303 Stab0 IM77 (by decide) rfl gC_49_0_5 (by decide) (by omega) (by omega) (n_lo _) (n_hi _) fun M81 IM81 fM81 UM81 => ?_
          have FM81 := Fr.pu FM77 UM81.1 kd_303 (rfl : List.contains [40, 49] 49 = true)
          have tr82 : o_i (M81 294) 25 = o_i (M77 294) 25 := by rw [UM81.1 294 (g_ne kd_294 kd_303 (by decide))]
          refine PW.incN q_238_80 rfl (by decide) (by decide) (by omega) (by omega) fun x83 hx83 => ?_
          refine PW.incN q_238_83 rfl (by decide) (by decide) (by omega) (by omega) fun x84 hx84 => ?_
          refine PW.goto q_238_86 rfl ?_
          refine PW.lvS (lk1 rfl (lk1 rfl (lk1 rfl (lk1 rfl (lk1 rfl lk0))))) (ih_L238_51_11 _ ?_ M81 x78 x83 x84 IM81 FM81 (by omega) (by omega) (by omega) (by omega) (by omega) (by omega) (gX1.step hbL238_51_116 hp_0 (g_wk6 I.1).2 hg80 fM81 rfl (fun z hz => by rw [UM81.2 z hz, Fr.at GM77 kd_303 rfl]) (by omega) (by omega)) (by omega) ⟨((congrArg (fun e => o_i e 2) (UM81.1 294 (by decide))).trans ((congrArg (fun e => o_i e 2) (Fr.at GM77 kd_294 rfl)).trans hbL238_51_118.1)), ((hbL238_51_118.2.cg (Fr.at GM77 kd_296 rfl)).cg (UM81.1 296 (by decide)))⟩ rfl)
          omega
      exact PW.lvS (lk1 rfl (lk1 rfl (lk1 rfl (lk1 rfl (lk1 rfl lk0))))) (L238_51_11 _ ML238_2_2 x8 c9 c10 IML238_2_2 FML238_2_2 (by omega) (by omega) (by omega) (by omega) (by omega) (by omega) (gX1.zero (by omega) (fun w hw => hbL238_2_22 w (by omega))) (by omega) ⟨hbL238_2_23.1, hbL238_2_23.2⟩ rfl)
    · skip
      refine PW.aload_n q_238_8 rfl ?_
      refine PW.gR 303 q_238_9 (Or.inl t_ft_238_56) gF_40_24 kd_294 IML238_2_2.1 (by decide) rfl ?_
      refine PW.iload_n q_238_12 rfl ?_
      refine PW.aload_n q_238_13 rfl ?_
      refine PW.gR 296 q_238_14 (Or.inl t_ft_238_33) gF_40_6 kd_294 IML238_2_2.1 (by decide) rfl ?_
      refine PW.cB q_238_17 (by decide) fun c85 hc85 => ?_
      refine PW.cB q_238_19 (by decide) fun c86 hc86 => ?_
      refine PW.iload_n q_238_21 rfl ?_
      refine PW.mulN q_238_22 (6) (by omega) a1 (fun h => n_eq.mpr (by omega)) (fun h => n_eq.mpr (by omega)) (by omega) (by omega) fun x87 hx87 => ?_
      refine PW.addN q_238_23 (by omega) (by omega) fun x88 hx88 => ?_
      refine PW.iload_n q_238_24 rfl ?_
      refine PW.addN q_238_25 (by omega) (by omega) fun x89 hx89 => ?_
      refine PW.aI q_238_26 gA_42 kd_296 IML238_2_2.1 (by decide) gB_42_88_99 (by decide) (by omega) (by omega) fun x90 fx90 hx90 kx90 => ?_
      refine PW.wI q_238_27 gA_49 kd_303 Stab0 IML238_2_2 (by decide) rfl gC_49_0_5 (by decide) (by omega) (by omega) (n_lo _) (n_hi _) fun M91 IM91 fM91 UM91 => ?_
      have FM91 := Fr.pu FML238_2_2 UM91.1 kd_303 (rfl : List.contains [40, 49] 49 = true)
      have tr92 : o_i (M91 294) 25 = o_i (ML238_2_2 294) 25 := by rw [UM91.1 294 (g_ne kd_294 kd_303 (by decide))]
      refine PW.incN q_238_28 rfl (by decide) (by decide) (by omega) (by omega) fun x93 hx93 => ?_
      refine PW.goto q_238_31 rfl ?_
      refine PW.lvS (lk1 rfl (lk1 rfl (lk1 rfl lk0))) (ih_L238_2_2 _ ?_ M91 x93 IM91 FM91 (by omega) (by omega) (gsb.step hbL238_2_22 UM91 fM91 (by omega) (by omega) (by omega) (by omega)) ⟨((congrArg (fun e => o_i e 2) (UM91.1 294 (by decide))).trans hbL238_2_23.1), (hbL238_2_23.2.cg (UM91.1 296 (by decide)))⟩ rfl)
      omega
  exact PW.lvS (lk1 rfl (lk1 rfl (lk1 rfl lk0))) (L238_2_2 _ M c1 I F (by omega) (by omega) (gsb.zero (by omega)) ⟨rfl, gHq.refl⟩ rfl)
theorem c_X12_round_vx (G : pG) (Kr : pK) (M : pM) (I : Iv gTT M) (a1 : Int32) (hK : ∀ (x : Int32) (M1 : pM), Iv gTT M1 → Fr [40, 49] M M1 → ((0 ≤ a1.toInt ∧ a1.toInt < (o_a (M 296) 1).toInt ∧ 2 ≤ (o_a (M 296) 0).toInt ∧ x.toInt = ((d_rn (o_a (M 296) (29 + a1.toInt).toNat).toInt (o_a (M 296) 0).toInt.toNat : Nat) : Int)) ∨ ((a1.toInt < 0 ∨ (o_a (M 296) 1).toInt ≤ a1.toInt ∨ (o_a (M 296) 0).toInt < 2) ∧ x.toInt = -1)) → ((gLq M1 M) ∧ gHq M1 M) → Kr.1 (some (.int x)) 311 M1) : PW G false 4 239 (p_mc 239) (p_msl 239) Kr 0 (lv_args 0 [.ref 294, .int a1]) [] 311 M 0 0 := by
  have F : Fr [40, 49] M M := Fr.refl
  refine PW.aload_n q_239_0 rfl ?_
  refine PW.cI q_239_1 (by decide) fun c1 hc1 => ?_
  refine PW.pI q_239_2 (Or.inl t_ft_239_1) gF_40_0 gP_40_0 kd_294 Stab0 I (by decide) rfl (n_lo _) (n_hi _) fun M2 IM2 fM2 UM2 => ?_
  have FM2 := Fr.pu F UM2.1 kd_294 (rfl : List.contains [40, 49] 40 = true)
  have ty3 : (o_a (M2 296) 0).toInt = (o_a (M 296) 0).toInt := by rw [UM2.1 296 (g_ne kd_296 kd_294 (by decide))]
  have ty4 : (o_a (M2 296) 1).toInt = (o_a (M 296) 1).toInt := by rw [UM2.1 296 (g_ne kd_296 kd_294 (by decide))]
  have tr5 := UM2.i (c := 294) (k := 25) (Or.inr (by decide))
  refine PW.aload_n q_239_5 rfl ?_
  refine PW.iload_n q_239_6 rfl ?_
  refine PW.cV (as := [_]) (rest := []) q_239_7 t_mv_239_251 kd_294 IM2.1 (by decide) rfl (by decide) rfl rfl (Nat.le_of_ble_eq_true rfl) (Nat.le_of_ble_eq_true rfl) (by decide) (by decide) ?_
  refine PW.iload_n q_196_0 rfl ?_
  refine PW.cI q_196_1 (by decide) fun c6 hc6 => ?_
  refine PW.aload_n q_196_2 rfl ?_
  refine PW.gR 296 q_196_3 (Or.inl t_ft_196_33) gF_40_6 kd_294 IM2.1 (by decide) rfl ?_
  refine PW.cI q_196_6 (by decide) fun c7 hc7 => ?_
  refine PW.aI q_196_7 gA_42 kd_296 IM2.1 (by decide) gB_42_1_1 (by decide) (by omega) (by omega) fun x8 fx8 hx8 kx8 => ?_
  have ty9 : (o_a (M2 296) 1).toInt = x8.toInt := by have e : c7.toInt.toNat = 1 := (by omega); rw [e] at fx8; rw [fx8]
  refine PW.cI q_196_8 (by decide) fun c10 hc10 => ?_
  refine PW.subN q_196_9 (by omega) (by omega) fun x11 hx11 => ?_
  refine PW.callS (as := [_, _, _]) (rest := []) q_196_10 t_ms_196_176 (by decide) rfl (Nat.le_of_ble_eq_true rfl) (Nat.le_of_ble_eq_true rfl) (by decide) (by decide) ?_
  refine PW.iload_n q_166_0 rfl ?_
  refine PW.iload_n q_166_1 rfl ?_
  refine PW.jc_lt q_166_2 rfl (fun h12 => ?_) (fun h12 => ?_)
  · skip
    refine PW.cI q_166_14 (by decide) fun c13 hc13 => ?_
    refine PW.rZ q_166_15 rfl (by omega) (by omega) (by decide) (by decide) ?_
    refine PW.rZ q_196_13 rfl (by omega) (by omega) (by decide) (by decide) ?_
    refine PW.jz_eq q_239_10 rfl (fun h14 => ?_) (fun h14 => False.elim (by omega))
    refine PW.cI q_239_23 (by decide) fun c15 hc15 => ?_
    refine PW.rI q_239_24 rfl (by decide) (by decide) ?_
    exact hK c15 M2 IM2 FM2 (Or.inr ⟨by omega, by omega⟩) ⟨(UM2.i (c := 294) (k := 2) (Or.inr (by decide))), (gHq.refl.cg (UM2.1 296 (by decide)))⟩
  · skip
    refine PW.iload_n q_166_5 rfl ?_
    refine PW.iload_n q_166_6 rfl ?_
    refine PW.jc_gt q_166_7 rfl (fun h16 => ?_) (fun h16 => ?_)
    · skip
      refine PW.cI q_166_14 (by decide) fun c17 hc17 => ?_
      refine PW.rZ q_166_15 rfl (by omega) (by omega) (by decide) (by decide) ?_
      refine PW.rZ q_196_13 rfl (by omega) (by omega) (by decide) (by decide) ?_
      refine PW.jz_eq q_239_10 rfl (fun h18 => ?_) (fun h18 => False.elim (by omega))
      refine PW.cI q_239_23 (by decide) fun c19 hc19 => ?_
      refine PW.rI q_239_24 rfl (by decide) (by decide) ?_
      exact hK c19 M2 IM2 FM2 (Or.inr ⟨by omega, by omega⟩) ⟨(UM2.i (c := 294) (k := 2) (Or.inr (by decide))), (gHq.refl.cg (UM2.1 296 (by decide)))⟩
    · skip
      refine PW.cI q_166_10 (by decide) fun c20 hc20 => ?_
      refine PW.goto q_166_11 rfl ?_
      refine PW.rZ q_166_15 rfl (by omega) (by omega) (by decide) (by decide) ?_
      refine PW.rZ q_196_13 rfl (by omega) (by omega) (by decide) (by decide) ?_
      refine PW.jz_eq q_239_10 rfl (fun h21 => False.elim (by omega)) (fun h21 => ?_)
      refine PW.aload_n q_239_13 rfl ?_
      refine PW.gR 296 q_239_14 (Or.inl t_ft_239_33) gF_40_6 kd_294 IM2.1 (by decide) rfl ?_
      refine PW.cI q_239_17 (by decide) fun c22 hc22 => ?_
      refine PW.aI q_239_18 gA_42 kd_296 IM2.1 (by decide) gB_42_0_0 (by decide) (by omega) (by omega) fun x23 fx23 hx23 kx23 => ?_
      have ty24 : (o_a (M2 296) 0).toInt = x23.toInt := by have e : c22.toInt.toNat = 0 := (by omega); rw [e] at fx23; rw [fx23]
      refine PW.cI q_239_19 (by decide) fun c25 hc25 => ?_
      refine PW.jc_ge q_239_20 rfl (fun h26 => ?_) (fun h26 => ?_)
      · skip
        refine PW.aload_n q_239_25 rfl ?_
        refine PW.iload_n q_239_26 rfl ?_
        refine PW.cV (as := [_]) (rest := []) q_239_27 t_mv_239_337 kd_294 IM2.1 (by decide) rfl (by decide) rfl rfl (Nat.le_of_ble_eq_true rfl) (Nat.le_of_ble_eq_true rfl) (by decide) (by decide) ?_
        refine PW.up (by decide) (c_X12_rounds_vx G _ M2 IM2 a1 (by omega) (by omega) (by rw [(UM2.1 _ (g_ne kd_296 kd_294 (by decide)))]; omega) fun M27 IM27 GM27 PM27 TM27 => ?_)
        have FM27 := Fr.trans FM2 GM27 (rfl)
        have ty28 : (o_a (M27 296) 0).toInt = (o_a (M2 296) 0).toInt := by rw [Fr.at GM27 kd_296 (by decide)]
        have ty29 : (o_a (M27 296) 1).toInt = (o_a (M2 296) 1).toInt := by rw [Fr.at GM27 kd_296 (by decide)]
        refine PW.aload_n q_239_30 rfl ?_
        refine PW.gI q_239_31 (Or.inl t_ft_239_331) gF_40_25 kd_294 IM27.1 (by decide) fun x30 fx30 hx30 kx30 => ?_
        have trx30 := o_i_of fx30
        clear hx30 kx30
        refine PW.rI q_239_34 rfl (by decide) (by decide) ?_
        have w := PM27
        rw [(UM2.1 _ (g_ne kd_296 kd_294 (by decide)))] at w
        exact hK x30 M27 IM27 FM27 (Or.inl ⟨by omega, by omega, by omega, by omega⟩) ⟨(TM27.1.trans (UM2.i (c := 294) (k := 2) (Or.inr (by decide)))), ((gHq.refl.cg (UM2.1 296 (by decide))).cg (Fr.at GM27 kd_296 rfl))⟩
      · skip
        refine PW.cI q_239_23 (by decide) fun c31 hc31 => ?_
        refine PW.rI q_239_24 rfl (by decide) (by decide) ?_
        exact hK c31 M2 IM2 FM2 (Or.inr ⟨by omega, by omega⟩) ⟨(UM2.i (c := 294) (k := 2) (Or.inr (by decide))), (gHq.refl.cg (UM2.1 296 (by decide)))⟩
