theorem c_X3_copyFrom_vk (G : pG) (Kr : pK) (M : pM) (I : Iv gTS M)  (hK : ∀ (M1 : pM), Iv gTS M1 → Fr [4, 27, 28, 29, 30, 31, 32, 33, 34, 35, 36] M M1 → (M1 256 = M 256) → Kr.1 none 311 M1) : PW G false 0 21 (p_mc 21) (p_msl 21) Kr 0 (lv_args 0 [.ref 4, .ref 256]) [] 311 M 0 0 := by
  have F : Fr [4, 27, 28, 29, 30, 31, 32, 33, 34, 35, 36] M M := Fr.refl
  refine PW.aload_n q_21_0 rfl ?_
  refine PW.aload_n q_21_1 rfl ?_
  refine PW.gI q_21_2 (Or.inl t_ft_21_47) gF_4_0 kd_256 I.1 (by decide) fun x1 fx1 hx1 kx1 => ?_
  have ix1 := o_i_of fx1
  clear hx1 kx1
  refine PW.pI q_21_5 (Or.inl t_ft_21_47) gF_4_0 gP_4_0 kd_4 StabS I (by decide) rfl (n_lo _) (n_hi _) fun M2 IM2 fM2 UM2 => ?_
  have FM2 := Fr.pu F UM2.1 kd_4 (rfl : List.contains [4, 27, 28, 29, 30, 31, 32, 33, 34, 35, 36] 4 = true)
  refine PW.aload_n q_21_8 rfl ?_
  refine PW.aload_n q_21_9 rfl ?_
  refine PW.gI q_21_10 (Or.inl t_ft_21_51) gF_4_1 kd_256 IM2.1 (by decide) fun x3 fx3 hx3 kx3 => ?_
  have ix3 := o_i_of fx3
  clear hx3 kx3
  refine PW.pI q_21_13 (Or.inl t_ft_21_51) gF_4_1 gP_4_1 kd_4 StabS IM2 (by decide) rfl (n_lo _) (n_hi _) fun M4 IM4 fM4 UM4 => ?_
  have FM4 := Fr.pu FM2 UM4.1 kd_4 (rfl : List.contains [4, 27, 28, 29, 30, 31, 32, 33, 34, 35, 36] 4 = true)
  refine PW.aload_n q_21_16 rfl ?_
  refine PW.aload_n q_21_17 rfl ?_
  refine PW.gI q_21_18 (Or.inl t_ft_21_54) gF_4_2 kd_256 IM4.1 (by decide) fun x5 fx5 hx5 kx5 => ?_
  have ix5 := o_i_of fx5
  clear hx5 kx5
  refine PW.pI q_21_21 (Or.inl t_ft_21_54) gF_4_2 gP_4_2 kd_4 StabS IM4 (by decide) rfl (n_lo _) (n_hi _) fun M6 IM6 fM6 UM6 => ?_
  have FM6 := Fr.pu FM4 UM6.1 kd_4 (rfl : List.contains [4, 27, 28, 29, 30, 31, 32, 33, 34, 35, 36] 4 = true)
  refine PW.aload_n q_21_24 rfl ?_
  refine PW.aload_n q_21_25 rfl ?_
  refine PW.gI q_21_26 (Or.inl t_ft_21_57) gF_4_3 kd_256 IM6.1 (by decide) fun x7 fx7 hx7 kx7 => ?_
  have ix7 := o_i_of fx7
  clear hx7 kx7
  refine PW.pI q_21_29 (Or.inl t_ft_21_57) gF_4_3 gP_4_3 kd_4 StabS IM6 (by decide) rfl (n_lo _) (n_hi _) fun M8 IM8 fM8 UM8 => ?_
  have FM8 := Fr.pu FM6 UM8.1 kd_4 (rfl : List.contains [4, 27, 28, 29, 30, 31, 32, 33, 34, 35, 36] 4 = true)
  refine PW.aload_n q_21_32 rfl ?_
  refine PW.aload_n q_21_33 rfl ?_
  refine PW.gI q_21_34 (Or.inl t_ft_21_60) gF_4_4 kd_256 IM8.1 (by decide) fun x9 fx9 hx9 kx9 => ?_
  have ix9 := o_i_of fx9
  refine PW.pI q_21_37 (Or.inl t_ft_21_60) gF_4_4 gP_4_4 kd_4 StabS IM8 (by decide) rfl (by omega) (by omega) fun M10 IM10 fM10 UM10 => ?_
  have FM10 := Fr.pu FM8 UM10.1 kd_4 (rfl : List.contains [4, 27, 28, 29, 30, 31, 32, 33, 34, 35, 36] 4 = true)
  refine PW.aload_n q_21_40 rfl ?_
  refine PW.aload_n q_21_41 rfl ?_
  refine PW.gI q_21_42 (Or.inl t_ft_21_64) gF_4_5 kd_256 IM10.1 (by decide) fun x11 fx11 hx11 kx11 => ?_
  have ix11 := o_i_of fx11
  refine PW.pI q_21_45 (Or.inl t_ft_21_64) gF_4_5 gP_4_5 kd_4 StabS IM10 (by decide) rfl (by omega) (by omega) fun M12 IM12 fM12 UM12 => ?_
  have FM12 := Fr.pu FM10 UM12.1 kd_4 (rfl : List.contains [4, 27, 28, 29, 30, 31, 32, 33, 34, 35, 36] 4 = true)
  refine PW.aload_n q_21_48 rfl ?_
  refine PW.aload_n q_21_49 rfl ?_
  refine PW.gI q_21_50 (Or.inl t_ft_21_67) gF_4_6 kd_256 IM12.1 (by decide) fun x13 fx13 hx13 kx13 => ?_
  have ix13 := o_i_of fx13
  refine PW.pI q_21_53 (Or.inl t_ft_21_67) gF_4_6 gP_4_6 kd_4 StabS IM12 (by decide) rfl (by omega) (by omega) fun M14 IM14 fM14 UM14 => ?_
  have FM14 := Fr.pu FM12 UM14.1 kd_4 (rfl : List.contains [4, 27, 28, 29, 30, 31, 32, 33, 34, 35, 36] 4 = true)
  refine PW.aload_n q_21_56 rfl ?_
  refine PW.aload_n q_21_57 rfl ?_
  refine PW.gI q_21_58 (Or.inl t_ft_21_70) gF_4_7 kd_256 IM14.1 (by decide) fun x15 fx15 hx15 kx15 => ?_
  have ix15 := o_i_of fx15
  refine PW.pB q_21_61 (Or.inl t_ft_21_70) gF_4_7 gP_4_7 kd_4 IM14.1 (by decide) (by omega) (by omega) fun M16 JM16 fM16 UM16 => ?_
  have IM16 : Iv gTS M16 := ⟨JM16, UM16.TT kd_4 rfl rfl IM14.2.1, gS1.oth IM14.2.2 (UM16.1 256 (by decide)) (UM16.1 262 (by decide))⟩
  have FM16 := Fr.pu FM14 UM16.1 kd_4 (rfl : List.contains [4, 27, 28, 29, 30, 31, 32, 33, 34, 35, 36] 4 = true)
  refine PW.cI q_21_64 (by decide) fun c17 hc17 => ?_
  refine PW.istore_n q_21_65 (by decide) ?_
  have L21_66_18 : ∀ (n : Nat) (ML21_66_18 : pM) (v19 : Int32), Iv (gTS) ML21_66_18 → Fr [4, 27, 28, 29, 30, 31, 32, 33, 34, 35, 36] M ML21_66_18 → 0 ≤ v19.toInt → v19.toInt ≤ 6 → ML21_66_18 256 = M 256 → (6 - v19.toInt).toNat = n → PW G false 0 21 (p_mc 21) (p_msl 21) Kr 66 [(0, .ref 4), (1, .ref 256), (2, .int v19)] [] 311 ML21_66_18 0 0 := by
    intro n
    induction n using Nat.strongRecOn with
    | ind n ih_L21_66_18 =>
    intro ML21_66_18 v19 IML21_66_18 FML21_66_18 hbL21_66_180 hbL21_66_181 hbL21_66_182 hmL21_66_18
    refine PW.iload_n q_21_66 rfl ?_
    refine PW.cB q_21_67 (by decide) fun c20 hc20 => ?_
    refine PW.jc_ge q_21_69 rfl (fun h21 => ?_) (fun h21 => ?_)
    · skip
      refine PW.cI q_21_126 (by decide) fun c22 hc22 => ?_
      refine PW.istore_n q_21_127 (by decide) ?_
      have L21_128_23 : ∀ (n : Nat) (ML21_128_23 : pM) (v24 : Int32), Iv (gTS) ML21_128_23 → Fr [4, 27, 28, 29, 30, 31, 32, 33, 34, 35, 36] M ML21_128_23 → 0 ≤ v24.toInt → v24.toInt ≤ 2 → ML21_128_23 256 = M 256 → (2 - v24.toInt).toNat = n → PW G false 0 21 (p_mc 21) (p_msl 21) Kr 128 [(0, .ref 4), (1, .ref 256), (2, .int v24)] [] 311 ML21_128_23 0 0 := by
        intro n
        induction n using Nat.strongRecOn with
        | ind n ih_L21_128_23 =>
        intro ML21_128_23 v24 IML21_128_23 FML21_128_23 hbL21_128_230 hbL21_128_231 hbL21_128_232 hmL21_128_23
        refine PW.iload_n q_21_128 rfl ?_
        refine PW.cI q_21_129 (by decide) fun c25 hc25 => ?_
        refine PW.jc_ge q_21_130 rfl (fun h26 => ?_) (fun h26 => ?_)
        · skip
          refine PW.vret q_21_211 rfl (by decide) (by decide) ?_
          exact hK ML21_128_23 IML21_128_23 FML21_128_23 hbL21_128_232
        · skip
          refine PW.aload_n q_21_133 rfl ?_
          refine PW.gR 9 q_21_134 (Or.inl t_ft_21_26) gF_4_12 kd_4 IML21_128_23.1 (by decide) rfl ?_
          refine PW.iload_n q_21_137 rfl ?_
          refine PW.aload_n q_21_138 rfl ?_
          refine PW.gR 261 q_21_139 (Or.inl t_ft_21_26) gF_4_12 kd_256 IML21_128_23.1 (by decide) rfl ?_
          refine PW.iload_n q_21_142 rfl ?_
          refine PW.aL q_21_143 rfl kd_261 IML21_128_23.1 (by decide) (by omega) (by omega) fun l27 fl27 => ?_
          refine PW.wLX q_21_144 rfl kd_9 StabS IML21_128_23 (by decide) rfl (by omega) (by omega) fun M28 IM28 fM28 UM28 => ?_
          have FM28 := Fr.pu FML21_128_23 UM28.1 kd_9 (rfl : List.contains [4, 27, 28, 29, 30, 31, 32, 33, 34, 35, 36] 31 = true)
          refine PW.aload_n q_21_145 rfl ?_
          refine PW.gR 10 q_21_146 (Or.inl t_ft_21_29) gF_4_13 kd_4 IM28.1 (by decide) rfl ?_
          refine PW.iload_n q_21_149 rfl ?_
          refine PW.aload_n q_21_150 rfl ?_
          refine PW.gR 262 q_21_151 (Or.inl t_ft_21_29) gF_4_13 kd_256 IM28.1 (by decide) rfl ?_
          refine PW.iload_n q_21_154 rfl ?_
          refine PW.aI q_21_155 gA_32 kd_262 IM28.1 (by decide) gB_32_0_1 (by decide) (by omega) (by omega) fun x29 fx29 hx29 kx29 => ?_
          refine PW.wB q_21_156 gA_32 kd_10 IM28.1 (by decide) (by omega) (by omega) ⟨by show (-1 : Int) ≤ _; omega, by show _ ≤ (5 : Int); omega⟩ fun M30 JM30 fM30 UM30 => ?_
          have IM30 : Iv gTS M30 := ⟨JM30, gAT UM30.1 kd_10 (by decide) rfl IM28.2.1, gS1.oth IM28.2.2 (UM30.1 256 (by decide)) (UM30.1 262 (by decide))⟩
          have FM30 := Fr.pu FM28 UM30.1 kd_10 (rfl : List.contains [4, 27, 28, 29, 30, 31, 32, 33, 34, 35, 36] 32 = true)
          refine PW.aload_n q_21_157 rfl ?_
          refine PW.gR 11 q_21_158 (Or.inl t_ft_21_32) gF_4_14 kd_4 IM30.1 (by decide) rfl ?_
          refine PW.iload_n q_21_161 rfl ?_
          refine PW.aload_n q_21_162 rfl ?_
          refine PW.gR 263 q_21_163 (Or.inl t_ft_21_32) gF_4_14 kd_256 IM30.1 (by decide) rfl ?_
          refine PW.iload_n q_21_166 rfl ?_
          refine PW.aH q_21_167 gA_33 kd_263 IM30.1 (by decide) (by omega) (by omega) fun x31 fx31 => ?_
          refine PW.wI q_21_168 gA_33 kd_11 StabS IM30 (by decide) rfl gC_33_0_1 (by decide) (by omega) (by omega) (n_lo _) (n_hi _) fun M32 IM32 fM32 UM32 => ?_
          have FM32 := Fr.pu FM30 UM32.1 kd_11 (rfl : List.contains [4, 27, 28, 29, 30, 31, 32, 33, 34, 35, 36] 33 = true)
          refine PW.aload_n q_21_169 rfl ?_
          refine PW.gR 12 q_21_170 (Or.inl t_ft_21_35) gF_4_15 kd_4 IM32.1 (by decide) rfl ?_
          refine PW.iload_n q_21_173 rfl ?_
          refine PW.aload_n q_21_174 rfl ?_
          refine PW.gR 264 q_21_175 (Or.inl t_ft_21_35) gF_4_15 kd_256 IM32.1 (by decide) rfl ?_
          refine PW.iload_n q_21_178 rfl ?_
          refine PW.aH q_21_179 gA_34 kd_264 IM32.1 (by decide) (by omega) (by omega) fun x33 fx33 => ?_
          refine PW.wI q_21_180 gA_34 kd_12 StabS IM32 (by decide) rfl gC_34_0_1 (by decide) (by omega) (by omega) (n_lo _) (n_hi _) fun M34 IM34 fM34 UM34 => ?_
          have FM34 := Fr.pu FM32 UM34.1 kd_12 (rfl : List.contains [4, 27, 28, 29, 30, 31, 32, 33, 34, 35, 36] 34 = true)
          refine PW.aload_n q_21_181 rfl ?_
          refine PW.gR 13 q_21_182 (Or.inl t_ft_21_38) gF_4_16 kd_4 IM34.1 (by decide) rfl ?_
          refine PW.iload_n q_21_185 rfl ?_
          refine PW.aload_n q_21_186 rfl ?_
          refine PW.gR 265 q_21_187 (Or.inl t_ft_21_38) gF_4_16 kd_256 IM34.1 (by decide) rfl ?_
          refine PW.iload_n q_21_190 rfl ?_
          refine PW.aH q_21_191 gA_35 kd_265 IM34.1 (by decide) (by omega) (by omega) fun x35 fx35 => ?_
          refine PW.wI q_21_192 gA_35 kd_13 StabS IM34 (by decide) rfl gC_35_0_1 (by decide) (by omega) (by omega) (n_lo _) (n_hi _) fun M36 IM36 fM36 UM36 => ?_
          have FM36 := Fr.pu FM34 UM36.1 kd_13 (rfl : List.contains [4, 27, 28, 29, 30, 31, 32, 33, 34, 35, 36] 35 = true)
          refine PW.aload_n q_21_193 rfl ?_
          refine PW.gR 14 q_21_194 (Or.inl t_ft_21_41) gF_4_17 kd_4 IM36.1 (by decide) rfl ?_
          refine PW.iload_n q_21_197 rfl ?_
          refine PW.aload_n q_21_198 rfl ?_
          refine PW.gR 266 q_21_199 (Or.inl t_ft_21_41) gF_4_17 kd_256 IM36.1 (by decide) rfl ?_
          refine PW.iload_n q_21_202 rfl ?_
          refine PW.aH q_21_203 gA_36 kd_266 IM36.1 (by decide) (by omega) (by omega) fun x37 fx37 => ?_
          refine PW.wI q_21_204 gA_36 kd_14 StabS IM36 (by decide) rfl gC_36_0_1 (by decide) (by omega) (by omega) (n_lo _) (n_hi _) fun M38 IM38 fM38 UM38 => ?_
          have FM38 := Fr.pu FM36 UM38.1 kd_14 (rfl : List.contains [4, 27, 28, 29, 30, 31, 32, 33, 34, 35, 36] 36 = true)
          refine PW.incN q_21_205 rfl (by decide) (by decide) (by omega) (by omega) fun x39 hx39 => ?_
          refine PW.goto q_21_208 rfl ?_
          refine PW.lvS (lk1 rfl (lk1 rfl (lk1 rfl lk0))) (ih_L21_128_23 _ ?_ M38 x39 IM38 FM38 (by omega) (by omega) (((UM38.1 _ (g_ne kd_256 kd_14 (by decide))).trans ((UM36.1 _ (g_ne kd_256 kd_13 (by decide))).trans ((UM34.1 _ (g_ne kd_256 kd_12 (by decide))).trans ((UM32.1 _ (g_ne kd_256 kd_11 (by decide))).trans ((UM30.1 _ (g_ne kd_256 kd_10 (by decide))).trans (UM28.1 _ (g_ne kd_256 kd_9 (by decide)))))))).trans hbL21_128_232) rfl)
          omega
      exact PW.lvS (lk1 rfl (lk1 rfl (lk1 rfl lk0))) (L21_128_23 _ ML21_66_18 c22 IML21_66_18 FML21_66_18 (by omega) (by omega) hbL21_66_182 rfl)
    · skip
      refine PW.aload_n q_21_72 rfl ?_
      refine PW.gR 5 q_21_73 (Or.inl t_ft_21_9) gF_4_8 kd_4 IML21_66_18.1 (by decide) rfl ?_
      refine PW.iload_n q_21_76 rfl ?_
      refine PW.aload_n q_21_77 rfl ?_
      refine PW.gR 257 q_21_78 (Or.inl t_ft_21_9) gF_4_8 kd_256 IML21_66_18.1 (by decide) rfl ?_
      refine PW.iload_n q_21_81 rfl ?_
      refine PW.aL q_21_82 rfl kd_257 IML21_66_18.1 (by decide) (by omega) (by omega) fun l40 fl40 => ?_
      refine PW.wLX q_21_83 rfl kd_5 StabS IML21_66_18 (by decide) rfl (by omega) (by omega) fun M41 IM41 fM41 UM41 => ?_
      have FM41 := Fr.pu FML21_66_18 UM41.1 kd_5 (rfl : List.contains [4, 27, 28, 29, 30, 31, 32, 33, 34, 35, 36] 27 = true)
      refine PW.aload_n q_21_84 rfl ?_
      refine PW.gR 6 q_21_85 (Or.inl t_ft_21_15) gF_4_9 kd_4 IM41.1 (by decide) rfl ?_
      refine PW.iload_n q_21_88 rfl ?_
      refine PW.aload_n q_21_89 rfl ?_
      refine PW.gR 258 q_21_90 (Or.inl t_ft_21_15) gF_4_9 kd_256 IM41.1 (by decide) rfl ?_
      refine PW.iload_n q_21_93 rfl ?_
      refine PW.aH q_21_94 gA_28 kd_258 IM41.1 (by decide) (by omega) (by omega) fun x42 fx42 => ?_
      refine PW.wI q_21_95 gA_28 kd_6 StabS IM41 (by decide) rfl gC_28_0_5 (by decide) (by omega) (by omega) (n_lo _) (n_hi _) fun M43 IM43 fM43 UM43 => ?_
      have FM43 := Fr.pu FM41 UM43.1 kd_6 (rfl : List.contains [4, 27, 28, 29, 30, 31, 32, 33, 34, 35, 36] 28 = true)
      refine PW.aload_n q_21_96 rfl ?_
      refine PW.gR 7 q_21_97 (Or.inl t_ft_21_19) gF_4_10 kd_4 IM43.1 (by decide) rfl ?_
      refine PW.iload_n q_21_100 rfl ?_
      refine PW.aload_n q_21_101 rfl ?_
      refine PW.gR 259 q_21_102 (Or.inl t_ft_21_19) gF_4_10 kd_256 IM43.1 (by decide) rfl ?_
      refine PW.iload_n q_21_105 rfl ?_
      refine PW.aH q_21_106 gA_29 kd_259 IM43.1 (by decide) (by omega) (by omega) fun x44 fx44 => ?_
      refine PW.wI q_21_107 gA_29 kd_7 StabS IM43 (by decide) rfl gC_29_0_5 (by decide) (by omega) (by omega) (n_lo _) (n_hi _) fun M45 IM45 fM45 UM45 => ?_
      have FM45 := Fr.pu FM43 UM45.1 kd_7 (rfl : List.contains [4, 27, 28, 29, 30, 31, 32, 33, 34, 35, 36] 29 = true)
      refine PW.aload_n q_21_108 rfl ?_
      refine PW.gR 8 q_21_109 (Or.inl t_ft_21_22) gF_4_11 kd_4 IM45.1 (by decide) rfl ?_
      refine PW.iload_n q_21_112 rfl ?_
      refine PW.aload_n q_21_113 rfl ?_
      refine PW.gR 260 q_21_114 (Or.inl t_ft_21_22) gF_4_11 kd_256 IM45.1 (by decide) rfl ?_
      refine PW.iload_n q_21_117 rfl ?_
      refine PW.aZ q_21_118 gA_30 kd_260 IM45.1 (by decide) gB_30_0_5 (by omega) (by omega) fun x46 fx46 hx46 kx46 => ?_
      refine PW.wZ q_21_119 gA_30 kd_8 StabS IM45 (by decide) rfl gC_30_0_5 (by omega) (by omega) (by omega) (by omega) fun M47 IM47 fM47 UM47 => ?_
      have FM47 := Fr.pu FM45 UM47.1 kd_8 (rfl : List.contains [4, 27, 28, 29, 30, 31, 32, 33, 34, 35, 36] 30 = true)
      refine PW.incN q_21_120 rfl (by decide) (by decide) (by omega) (by omega) fun x48 hx48 => ?_
      refine PW.goto q_21_123 rfl ?_
      refine PW.lvS (lk1 rfl (lk1 rfl (lk1 rfl lk0))) (ih_L21_66_18 _ ?_ M47 x48 IM47 FM47 (by omega) (by omega) (((UM47.1 _ (g_ne kd_256 kd_8 (by decide))).trans ((UM45.1 _ (g_ne kd_256 kd_7 (by decide))).trans ((UM43.1 _ (g_ne kd_256 kd_6 (by decide))).trans (UM41.1 _ (g_ne kd_256 kd_5 (by decide)))))).trans hbL21_66_182) rfl)
      omega
  exact PW.lvS (lk1 rfl (lk1 rfl (lk1 rfl lk0))) (L21_66_18 _ M16 c17 IM16 FM16 (by omega) (by omega) ((UM16.1 _ (by decide)).trans ((UM14.1 _ (by decide)).trans ((UM12.1 _ (by decide)).trans ((UM10.1 _ (by decide)).trans ((UM8.1 _ (by decide)).trans ((UM6.1 _ (by decide)).trans ((UM4.1 _ (by decide)).trans (UM2.1 _ (by decide))))))))) rfl)
theorem c_X11_beach_vk (G : pG) (Kr : pK) (M : pM) (I : Iv gTT M) (y : k_X) (hp_0 : k_tp y M) (hp_1 : y.2.2 = 900) (hK : ∀ (x : Int32) (M1 : pM), Iv gTT M1 → Fr [0, 1, 4, 5, 7, 9, 10, 13, 14, 21, 27, 28, 29, 30, 31, 32, 33, 34, 35, 36] M M1 → (x.toInt = k_beach y ∧ o_i (M1 1) 1 = 0) → Kr.1 (some (.int x)) 311 M1) : PW G false 7 102 (p_mc 102) (p_msl 102) Kr 0 (lv_args 0 [.ref 0]) [] 311 M 0 0 := by
  have F : Fr [0, 1, 4, 5, 7, 9, 10, 13, 14, 21, 27, 28, 29, 30, 31, 32, 33, 34, 35, 36] M M := Fr.refl
  refine PW.aload_n q_102_0 rfl ?_
  refine PW.gR 256 q_102_1 (Or.inl t_ft_102_41) gF_0_5 kd_0 I.1 (by decide) rfl ?_
  refine PW.aload_n q_102_4 rfl ?_
  refine PW.gR 1 q_102_5 (Or.inl t_ft_102_10) gF_0_0 kd_0 I.1 (by decide) rfl ?_
  refine PW.cV (as := [_]) (rest := []) q_102_8 t_mv_102_81 kd_256 I.1 (by decide) rfl (by decide) rfl rfl (Nat.le_of_ble_eq_true rfl) (Nat.le_of_ble_eq_true rfl) (by decide) (by decide) ?_
  refine PW.up (by decide) (c_X3_read_vk G _ M I y hp_0 hp_1 fun x2 M1 IM1 GM1 hx2 kx2 PM1 => ?_)
  have FM1 := Fr.trans F GM1 (rfl)
  rcases PM1 with ⟨PaM1, PbM1, PtM1, PqM1⟩ | ⟨PaM1, PbM1, PfM1, PgM1⟩
  · skip
    refine PW.istore_n q_102_11 (by decide) ?_
    refine PW.aload_n q_102_12 rfl ?_
    refine PW.gR 1 q_102_13 (Or.inl t_ft_102_10) gF_0_0 kd_0 IM1.1 (by decide) rfl ?_
    refine PW.cI q_102_16 (by decide) fun c3 hc3 => ?_
    refine PW.pI q_102_17 (Or.inr t_fN_102_73) gF_1_1 gP_1_1 kd_1 StabS IM1 (by decide) rfl (by omega) (by omega) fun M4 IM4 fM4 UM4 => ?_
    have FM4 := Fr.pu FM1 UM4.1 kd_1 (rfl : List.contains [0, 1, 4, 5, 7, 9, 10, 13, 14, 21, 27, 28, 29, 30, 31, 32, 33, 34, 35, 36] 1 = true)
    refine PW.aload_n q_102_20 rfl ?_
    refine PW.aload_n q_102_21 rfl ?_
    refine PW.gR 1 q_102_22 (Or.inl t_ft_102_10) gF_0_0 kd_0 IM4.1 (by decide) rfl ?_
    refine PW.gI q_102_25 (Or.inr t_fN_102_85) gF_1_10 kd_1 IM4.1 (by decide) fun x5 fx5 hx5 kx5 => ?_
    have ix5 := o_i_of fx5
    clear hx5 kx5
    refine PW.pI q_102_28 (Or.inl t_ft_102_88) gF_0_10 gP_0_10 kd_0 StabS IM4 (by decide) rfl (n_lo _) (n_hi _) fun M6 IM6 fM6 UM6 => ?_
    have FM6 := Fr.pu FM4 UM6.1 kd_0 (rfl : List.contains [0, 1, 4, 5, 7, 9, 10, 13, 14, 21, 27, 28, 29, 30, 31, 32, 33, 34, 35, 36] 0 = true)
    refine PW.iload_n q_102_31 rfl ?_
    refine PW.jz_ne q_102_32 rfl (fun h7 => ?_) (fun h7 => False.elim (by omega))
    refine PW.aload_n q_102_45 rfl ?_
    refine PW.gR 3 q_102_46 (Or.inl t_ft_102_19) gF_0_1 kd_0 IM6.1 (by decide) rfl ?_
    refine PW.gR 4 q_102_49 (Or.inr t_fN_102_94) gF_3_0 kd_3 IM6.1 (by decide) rfl ?_
    refine PW.aload_n q_102_52 rfl ?_
    refine PW.gR 256 q_102_53 (Or.inl t_ft_102_41) gF_0_5 kd_0 IM6.1 (by decide) rfl ?_
    refine PW.cV (as := [_]) (rest := []) q_102_56 t_mv_102_97 kd_4 IM6.1 (by decide) rfl (by decide) rfl rfl (Nat.le_of_ble_eq_true rfl) (Nat.le_of_ble_eq_true rfl) (by decide) (by decide) ?_
    refine PW.up (by decide) (c_X3_copyFrom_vk G _ M6 IM6  fun M8 IM8 GM8 PM8 => ?_)
    have FM8 := Fr.trans FM6 GM8 (rfl)
    have PeM8 := PM8
    refine PW.aload_n q_102_59 rfl ?_
    refine PW.gR 3 q_102_60 (Or.inl t_ft_102_19) gF_0_1 kd_0 IM8.1 (by decide) rfl ?_
    refine PW.gR 15 q_102_63 (Or.inr t_fN_102_101) gF_3_1 kd_3 IM8.1 (by decide) rfl ?_
    refine PW.aload_n q_102_66 rfl ?_
    refine PW.gR 256 q_102_67 (Or.inl t_ft_102_41) gF_0_5 kd_0 IM8.1 (by decide) rfl ?_
    refine PW.cV (as := [_]) (rest := []) q_102_70 t_mv_102_104 kd_15 IM8.1 (by decide) rfl (by decide) rfl rfl (Nat.le_of_ble_eq_true rfl) (Nat.le_of_ble_eq_true rfl) (by decide) (by decide) ?_
    refine PW.up (by decide) (c_X5_begin G _ M8 ⟨IM8.1, IM8.2.1⟩ 15 kd_15 256 kd_256 IM8.2.2 fun M9 IM9 GM9 => ?_)
    have FM9 := Fr.trans FM8 GM9 (rfl)
    refine PW.aload_n q_102_73 rfl ?_
    refine PW.gR 3 q_102_74 (Or.inl t_ft_102_19) gF_0_1 kd_0 IM9.1 (by decide) rfl ?_
    refine PW.gR 33 q_102_77 (Or.inr t_fN_102_107) gF_3_2 kd_3 IM9.1 (by decide) rfl ?_
    refine PW.cV (as := []) (rest := []) q_102_80 t_mv_102_110 kd_33 IM9.1 (by decide) rfl (by decide) rfl rfl (Nat.le_of_ble_eq_true rfl) (Nat.le_of_ble_eq_true rfl) (by decide) (by decide) ?_
    refine PW.up (by decide) (c_X4_forget (gTT) (Stab0) G _ M9 IM9 33 kd_33 fun M10 IM10 GM10 => ?_)
    have FM10 := Fr.trans FM9 GM10 (rfl)
    refine PW.aload_n q_102_83 rfl ?_
    refine PW.gR 110 q_102_84 (Or.inl t_ft_102_34) gF_0_4 kd_0 IM10.1 (by decide) rfl ?_
    refine PW.cV (as := []) (rest := []) q_102_87 t_mv_102_113 kd_110 IM10.1 (by decide) rfl (by decide) rfl rfl (Nat.le_of_ble_eq_true rfl) (Nat.le_of_ble_eq_true rfl) (by decide) (by decide) ?_
    refine PW.up (by decide) (c_X1_forget (gTT) (Stab0) G _ M10 IM10  fun M11 IM11 GM11 => ?_)
    have FM11 := Fr.trans FM10 GM11 (rfl)
    refine PW.aload_n q_102_90 rfl ?_
    refine PW.gR 256 q_102_91 (Or.inl t_ft_102_41) gF_0_5 kd_0 IM11.1 (by decide) rfl ?_
    refine PW.gI q_102_94 (Or.inr t_fN_102_114) gF_4_0 kd_256 IM11.1 (by decide) fun x12 fx12 hx12 kx12 => ?_
    have ix12 := o_i_of fx12
    clear hx12 kx12
    refine PW.rI q_102_97 rfl (by decide) (by decide) ?_
    have g0 : o_i (M11 256) 0 = o_i (M1 256) 0 := congrArg (fun e => o_i e 0) ((Fr.at GM11 kd_256 (by decide)).trans ((Fr.at GM10 kd_256 (by decide)).trans ((Fr.at GM9 kd_256 (by decide)).trans (PeM8.trans ((UM6.1 256 (by decide)).trans (UM4.1 256 (by decide)))))))
    have g1 := PqM1.1
    exact hK x12 M11 IM11 FM11 ⟨by unfold k_beach; rw [if_pos PbM1]; omega, (by have w := (o_i_of ((congrArg (fun e => o_f e 1) (Fr.at GM11 kd_1 (by decide))).trans ((congrArg (fun e => o_f e 1) (Fr.at GM10 kd_1 (by decide))).trans ((congrArg (fun e => o_f e 1) (Fr.at GM9 kd_1 (by decide))).trans ((congrArg (fun e => o_f e 1) (Fr.at GM8 kd_1 (by decide))).trans ((UM6.f (Or.inl (g_ne kd_1 kd_0 (by decide)))).trans fM4)))))); omega)⟩
  · skip
    refine PW.istore_n q_102_11 (by decide) ?_
    refine PW.aload_n q_102_12 rfl ?_
    refine PW.gR 1 q_102_13 (Or.inl t_ft_102_10) gF_0_0 kd_0 IM1.1 (by decide) rfl ?_
    refine PW.cI q_102_16 (by decide) fun c13 hc13 => ?_
    refine PW.pI q_102_17 (Or.inr t_fN_102_73) gF_1_1 gP_1_1 kd_1 StabS IM1 (by decide) rfl (by omega) (by omega) fun M14 IM14 fM14 UM14 => ?_
    have FM14 := Fr.pu FM1 UM14.1 kd_1 (rfl : List.contains [0, 1, 4, 5, 7, 9, 10, 13, 14, 21, 27, 28, 29, 30, 31, 32, 33, 34, 35, 36] 1 = true)
    refine PW.aload_n q_102_20 rfl ?_
    refine PW.aload_n q_102_21 rfl ?_
    refine PW.gR 1 q_102_22 (Or.inl t_ft_102_10) gF_0_0 kd_0 IM14.1 (by decide) rfl ?_
    refine PW.gI q_102_25 (Or.inr t_fN_102_85) gF_1_10 kd_1 IM14.1 (by decide) fun x15 fx15 hx15 kx15 => ?_
    have ix15 := o_i_of fx15
    clear hx15 kx15
    refine PW.pI q_102_28 (Or.inl t_ft_102_88) gF_0_10 gP_0_10 kd_0 StabS IM14 (by decide) rfl (n_lo _) (n_hi _) fun M16 IM16 fM16 UM16 => ?_
    have FM16 := Fr.pu FM14 UM16.1 kd_0 (rfl : List.contains [0, 1, 4, 5, 7, 9, 10, 13, 14, 21, 27, 28, 29, 30, 31, 32, 33, 34, 35, 36] 0 = true)
    refine PW.iload_n q_102_31 rfl ?_
    refine PW.jz_ne q_102_32 rfl (fun h17 => False.elim (by omega)) (fun h17 => ?_)
    refine PW.cI q_102_35 (by decide) fun c18 hc18 => ?_
    refine PW.aload_n q_102_36 rfl ?_
    refine PW.gR 1 q_102_37 (Or.inl t_ft_102_10) gF_0_0 kd_0 IM16.1 (by decide) rfl ?_
    refine PW.gI q_102_40 (Or.inr t_fN_102_91) gF_1_11 kd_1 IM16.1 (by decide) fun x19 fx19 hx19 kx19 => ?_
    have ix19 := o_i_of fx19
    clear hx19 kx19
    refine PW.subN q_102_43 (by have := n_lo x19; have := n_hi x19; omega) (by have := n_lo x19; have := n_hi x19; omega) fun x20 hx20 => ?_
    refine PW.rI q_102_44 rfl (by decide) (by decide) ?_
    have g11 : o_i (M16 1) 11 = o_i (M1 1) 11 := ((congrArg (fun e => o_i e 11) (UM16.1 1 (by decide))).trans (UM14.i (c := 1) (k := 11) (Or.inr (by decide))))
    exact hK x20 M16 ⟨IM16.1, IM16.2.1⟩ FM16 ⟨by unfold k_beach; rw [if_neg PbM1]; omega, (by have w := (o_i_of ((UM16.f (Or.inl (g_ne kd_1 kd_0 (by decide)))).trans fM14)); omega)⟩
