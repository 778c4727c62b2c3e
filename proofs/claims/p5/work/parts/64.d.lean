theorem c_X3_copyFrom_vk40_4 (G : pG) (Kr : pK) (M : pM) (I : Iv gTT M)  (hK : ∀ (M1 : pM), Iv gTT M1 → Fr [4, 27, 28, 29, 30, 31, 32, 33, 34, 35, 36] M M1 → (g5f (M1 40) (M 4) ∧ M1 4 = M 4 ∧ M1 75 = M 75 ∧ M1 256 = M 256 ∧ M1 5 = M 5 ∧ M1 76 = M 76 ∧ M1 257 = M 257 ∧ ∀ j : Nat, j < 6 → o_l (M1 41) j = o_l (M 5) j) → Kr.1 none 311 M1) : PW G false 0 21 (p_mc 21) (p_msl 21) Kr 0 (lv_args 0 [.ref 40, .ref 4]) [] 311 M 0 0 := by
  have F : Fr [4, 27, 28, 29, 30, 31, 32, 33, 34, 35, 36] M M := Fr.refl
  obtain ⟨w4_1, fw4_1, hw4_1, kw4_1⟩ := gF_4_1.int kd_4 I.1 (by decide)
  have iw4_1 := o_i_of fw4_1
  have jw4_1 : w4_1.toInt = o_i (M 4) 1 := by have w := (rfl : o_i (M 4) 1 = o_i (M 4) 1); omega
  obtain ⟨w4_2, fw4_2, hw4_2, kw4_2⟩ := gF_4_2.int kd_4 I.1 (by decide)
  have iw4_2 := o_i_of fw4_2
  have jw4_2 : w4_2.toInt = o_i (M 4) 2 := by have w := (rfl : o_i (M 4) 2 = o_i (M 4) 2); omega
  obtain ⟨w4_3, fw4_3, hw4_3, kw4_3⟩ := gF_4_3.int kd_4 I.1 (by decide)
  have iw4_3 := o_i_of fw4_3
  have jw4_3 : w4_3.toInt = o_i (M 4) 3 := by have w := (rfl : o_i (M 4) 3 = o_i (M 4) 3); omega
  obtain ⟨w4_6, fw4_6, hw4_6, kw4_6⟩ := gF_4_6.int kd_4 I.1 (by decide)
  have iw4_6 := o_i_of fw4_6
  have jw4_6 : w4_6.toInt = o_i (M 4) 6 := by have w := (rfl : o_i (M 4) 6 = o_i (M 4) 6); omega
  obtain ⟨w4_7, fw4_7, hw4_7, kw4_7⟩ := gF_4_7.int kd_4 I.1 (by decide)
  have iw4_7 := o_i_of fw4_7
  have jw4_7 : w4_7.toInt = o_i (M 4) 7 := by have w := (rfl : o_i (M 4) 7 = o_i (M 4) 7); omega
  refine PW.aload_n q_21_0 rfl ?_
  refine PW.aload_n q_21_1 rfl ?_
  refine PW.gI q_21_2 (Or.inl t_ft_21_47) gF_4_0 kd_4 I.1 (by decide) fun x1 fx1 hx1 kx1 => ?_
  have ix1 := o_i_of fx1
  clear hx1 kx1
  refine PW.pI q_21_5 (Or.inl t_ft_21_47) gF_4_0 gP_4_0 kd_40 Stab0 I (by decide) rfl (n_lo _) (n_hi _) fun M2 IM2 fM2 UM2 => ?_
  have FM2 := Fr.pu F UM2.1 kd_40 (rfl : List.contains [4, 27, 28, 29, 30, 31, 32, 33, 34, 35, 36] 4 = true)
  refine PW.aload_n q_21_8 rfl ?_
  refine PW.aload_n q_21_9 rfl ?_
  refine PW.gE q_21_10 (Or.inl t_ft_21_51) gF_4_1 kd_4 IM2.1 (by decide) ((UM2.f (Or.inl (by decide))).trans fw4_1) ?_
  refine PW.pI q_21_13 (Or.inl t_ft_21_51) gF_4_1 gP_4_1 kd_40 Stab0 IM2 (by decide) rfl (n_lo _) (n_hi _) fun M3 IM3 fM3 UM3 => ?_
  have FM3 := Fr.pu FM2 UM3.1 kd_40 (rfl : List.contains [4, 27, 28, 29, 30, 31, 32, 33, 34, 35, 36] 4 = true)
  refine PW.aload_n q_21_16 rfl ?_
  refine PW.aload_n q_21_17 rfl ?_
  refine PW.gE q_21_18 (Or.inl t_ft_21_54) gF_4_2 kd_4 IM3.1 (by decide) ((UM3.f (Or.inl (by decide))).trans ((UM2.f (Or.inl (by decide))).trans fw4_2)) ?_
  refine PW.pI q_21_21 (Or.inl t_ft_21_54) gF_4_2 gP_4_2 kd_40 Stab0 IM3 (by decide) rfl (n_lo _) (n_hi _) fun M4 IM4 fM4 UM4 => ?_
  have FM4 := Fr.pu FM3 UM4.1 kd_40 (rfl : List.contains [4, 27, 28, 29, 30, 31, 32, 33, 34, 35, 36] 4 = true)
  refine PW.aload_n q_21_24 rfl ?_
  refine PW.aload_n q_21_25 rfl ?_
  refine PW.gE q_21_26 (Or.inl t_ft_21_57) gF_4_3 kd_4 IM4.1 (by decide) ((UM4.f (Or.inl (by decide))).trans ((UM3.f (Or.inl (by decide))).trans ((UM2.f (Or.inl (by decide))).trans fw4_3))) ?_
  refine PW.pI q_21_29 (Or.inl t_ft_21_57) gF_4_3 gP_4_3 kd_40 Stab0 IM4 (by decide) rfl (n_lo _) (n_hi _) fun M5 IM5 fM5 UM5 => ?_
  have FM5 := Fr.pu FM4 UM5.1 kd_40 (rfl : List.contains [4, 27, 28, 29, 30, 31, 32, 33, 34, 35, 36] 4 = true)
  refine PW.aload_n q_21_32 rfl ?_
  refine PW.aload_n q_21_33 rfl ?_
  refine PW.gI q_21_34 (Or.inl t_ft_21_60) gF_4_4 kd_4 IM5.1 (by decide) fun x6 fx6 hx6 kx6 => ?_
  have ix6 := o_i_of fx6
  refine PW.pI q_21_37 (Or.inl t_ft_21_60) gF_4_4 gP_4_4 kd_40 Stab0 IM5 (by decide) rfl (by omega) (by omega) fun M7 IM7 fM7 UM7 => ?_
  have FM7 := Fr.pu FM5 UM7.1 kd_40 (rfl : List.contains [4, 27, 28, 29, 30, 31, 32, 33, 34, 35, 36] 4 = true)
  refine PW.aload_n q_21_40 rfl ?_
  refine PW.aload_n q_21_41 rfl ?_
  refine PW.gI q_21_42 (Or.inl t_ft_21_64) gF_4_5 kd_4 IM7.1 (by decide) fun x8 fx8 hx8 kx8 => ?_
  have ix8 := o_i_of fx8
  refine PW.pI q_21_45 (Or.inl t_ft_21_64) gF_4_5 gP_4_5 kd_40 Stab0 IM7 (by decide) rfl (by omega) (by omega) fun M9 IM9 fM9 UM9 => ?_
  have FM9 := Fr.pu FM7 UM9.1 kd_40 (rfl : List.contains [4, 27, 28, 29, 30, 31, 32, 33, 34, 35, 36] 4 = true)
  refine PW.aload_n q_21_48 rfl ?_
  refine PW.aload_n q_21_49 rfl ?_
  refine PW.gE q_21_50 (Or.inl t_ft_21_67) gF_4_6 kd_4 IM9.1 (by decide) ((UM9.f (Or.inl (by decide))).trans ((UM7.f (Or.inl (by decide))).trans ((UM5.f (Or.inl (by decide))).trans ((UM4.f (Or.inl (by decide))).trans ((UM3.f (Or.inl (by decide))).trans ((UM2.f (Or.inl (by decide))).trans fw4_6)))))) ?_
  refine PW.pI q_21_53 (Or.inl t_ft_21_67) gF_4_6 gP_4_6 kd_40 Stab0 IM9 (by decide) rfl (by omega) (by omega) fun M10 IM10 fM10 UM10 => ?_
  have FM10 := Fr.pu FM9 UM10.1 kd_40 (rfl : List.contains [4, 27, 28, 29, 30, 31, 32, 33, 34, 35, 36] 4 = true)
  refine PW.aload_n q_21_56 rfl ?_
  refine PW.aload_n q_21_57 rfl ?_
  refine PW.gE q_21_58 (Or.inl t_ft_21_70) gF_4_7 kd_4 IM10.1 (by decide) ((UM10.f (Or.inl (by decide))).trans ((UM9.f (Or.inl (by decide))).trans ((UM7.f (Or.inl (by decide))).trans ((UM5.f (Or.inl (by decide))).trans ((UM4.f (Or.inl (by decide))).trans ((UM3.f (Or.inl (by decide))).trans ((UM2.f (Or.inl (by decide))).trans fw4_7))))))) ?_
  refine PW.pT q_21_61 (Or.inl t_ft_21_70) gF_4_7 gP_4_7 kd_40 IM10 (by decide) rfl (by omega) (by omega) fun M11 IM11 fM11 UM11 => ?_
  have FM11 := Fr.pu FM10 UM11.1 kd_40 (rfl : List.contains [4, 27, 28, 29, 30, 31, 32, 33, 34, 35, 36] 4 = true)
  refine PW.cI q_21_64 (by decide) fun c12 hc12 => ?_
  refine PW.istore_n q_21_65 (by decide) ?_
  have L21_66_13 : ∀ (n : Nat) (ML21_66_13 : pM) (v14 : Int32), Iv (gTT) ML21_66_13 → Fr [4, 27, 28, 29, 30, 31, 32, 33, 34, 35, 36] M ML21_66_13 → 0 ≤ v14.toInt → v14.toInt ≤ 6 → g5f (ML21_66_13 40) (M 4) → ML21_66_13 4 = M 4 → ML21_66_13 75 = M 75 → ML21_66_13 256 = M 256 → ML21_66_13 5 = M 5 → ML21_66_13 76 = M 76 → ML21_66_13 257 = M 257 → (∀ j : Nat, (j : Int) < v14.toInt → o_l (ML21_66_13 41) j = o_l (M 5) j) → (6 - v14.toInt).toNat = n → PW G false 0 21 (p_mc 21) (p_msl 21) Kr 66 [(0, .ref 40), (1, .ref 4), (2, .int v14)] [] 311 ML21_66_13 0 0 := by
    intro n
    induction n using Nat.strongRecOn with
    | ind n ih_L21_66_13 =>
    intro ML21_66_13 v14 IML21_66_13 FML21_66_13 hbL21_66_130 hbL21_66_131 hbL21_66_132 hbL21_66_133 hbL21_66_134 hbL21_66_135 hbL21_66_136 hbL21_66_137 hbL21_66_138 hbL21_66_139 hmL21_66_13
    refine PW.iload_n q_21_66 rfl ?_
    refine PW.cB q_21_67 (by decide) fun c15 hc15 => ?_
    refine PW.jc_ge q_21_69 rfl (fun h16 => ?_) (fun h16 => ?_)
    · skip
      refine PW.cI q_21_126 (by decide) fun c17 hc17 => ?_
      refine PW.istore_n q_21_127 (by decide) ?_
      have L21_128_18 : ∀ (n : Nat) (ML21_128_18 : pM) (v19 : Int32), Iv (gTT) ML21_128_18 → Fr [4, 27, 28, 29, 30, 31, 32, 33, 34, 35, 36] M ML21_128_18 → 0 ≤ v19.toInt → v19.toInt ≤ 2 → g5f (ML21_128_18 40) (M 4) → ML21_128_18 4 = M 4 → ML21_128_18 75 = M 75 → ML21_128_18 256 = M 256 → ML21_128_18 5 = M 5 → ML21_128_18 76 = M 76 → ML21_128_18 257 = M 257 → (∀ j : Nat, j < 6 → o_l (ML21_128_18 41) j = o_l (M 5) j) → (2 - v19.toInt).toNat = n → PW G false 0 21 (p_mc 21) (p_msl 21) Kr 128 [(0, .ref 40), (1, .ref 4), (2, .int v19)] [] 311 ML21_128_18 0 0 := by
        intro n
        induction n using Nat.strongRecOn with
        | ind n ih_L21_128_18 =>
        intro ML21_128_18 v19 IML21_128_18 FML21_128_18 hbL21_128_180 hbL21_128_181 hbL21_128_182 hbL21_128_183 hbL21_128_184 hbL21_128_185 hbL21_128_186 hbL21_128_187 hbL21_128_188 hbL21_128_189 hmL21_128_18
        refine PW.iload_n q_21_128 rfl ?_
        refine PW.cI q_21_129 (by decide) fun c20 hc20 => ?_
        refine PW.jc_ge q_21_130 rfl (fun h21 => ?_) (fun h21 => ?_)
        · skip
          refine PW.vret q_21_211 rfl (by decide) (by decide) ?_
          exact hK ML21_128_18 IML21_128_18 FML21_128_18 ⟨hbL21_128_182, hbL21_128_183, hbL21_128_184, hbL21_128_185, hbL21_128_186, hbL21_128_187, hbL21_128_188, hbL21_128_189⟩
        · skip
          refine PW.aload_n q_21_133 rfl ?_
          refine PW.gR 45 q_21_134 (Or.inl t_ft_21_26) gF_4_12 kd_40 IML21_128_18.1 (by decide) rfl ?_
          refine PW.iload_n q_21_137 rfl ?_
          refine PW.aload_n q_21_138 rfl ?_
          refine PW.gR 9 q_21_139 (Or.inl t_ft_21_26) gF_4_12 kd_4 IML21_128_18.1 (by decide) rfl ?_
          refine PW.iload_n q_21_142 rfl ?_
          refine PW.aL q_21_143 rfl kd_9 IML21_128_18.1 (by decide) (by omega) (by omega) fun l22 fl22 => ?_
          refine PW.wLX q_21_144 rfl kd_45 Stab0 IML21_128_18 (by decide) rfl (by omega) (by omega) fun M23 IM23 fM23 UM23 => ?_
          have FM23 := Fr.pu FML21_128_18 UM23.1 kd_45 (rfl : List.contains [4, 27, 28, 29, 30, 31, 32, 33, 34, 35, 36] 31 = true)
          refine PW.aload_n q_21_145 rfl ?_
          refine PW.gR 46 q_21_146 (Or.inl t_ft_21_29) gF_4_13 kd_40 IM23.1 (by decide) rfl ?_
          refine PW.iload_n q_21_149 rfl ?_
          refine PW.aload_n q_21_150 rfl ?_
          refine PW.gR 10 q_21_151 (Or.inl t_ft_21_29) gF_4_13 kd_4 IM23.1 (by decide) rfl ?_
          refine PW.iload_n q_21_154 rfl ?_
          refine PW.aI q_21_155 gA_32 kd_10 IM23.1 (by decide) gB_32_0_1 (by decide) (by omega) (by omega) fun x24 fx24 hx24 kx24 => ?_
          refine PW.wT q_21_156 gA_32 kd_46 IM23 (by decide) rfl gC_32_0_1 (by decide) (by omega) (by omega) (by omega) (by omega) fun M25 IM25 fM25 UM25 => ?_
          have FM25 := Fr.pu FM23 UM25.1 kd_46 (rfl : List.contains [4, 27, 28, 29, 30, 31, 32, 33, 34, 35, 36] 32 = true)
          refine PW.aload_n q_21_157 rfl ?_
          refine PW.gR 47 q_21_158 (Or.inl t_ft_21_32) gF_4_14 kd_40 IM25.1 (by decide) rfl ?_
          refine PW.iload_n q_21_161 rfl ?_
          refine PW.aload_n q_21_162 rfl ?_
          refine PW.gR 11 q_21_163 (Or.inl t_ft_21_32) gF_4_14 kd_4 IM25.1 (by decide) rfl ?_
          refine PW.iload_n q_21_166 rfl ?_
          refine PW.aH q_21_167 gA_33 kd_11 IM25.1 (by decide) (by omega) (by omega) fun x26 fx26 => ?_
          refine PW.wI q_21_168 gA_33 kd_47 Stab0 IM25 (by decide) rfl gC_33_0_1 (by decide) (by omega) (by omega) (n_lo _) (n_hi _) fun M27 IM27 fM27 UM27 => ?_
          have FM27 := Fr.pu FM25 UM27.1 kd_47 (rfl : List.contains [4, 27, 28, 29, 30, 31, 32, 33, 34, 35, 36] 33 = true)
          refine PW.aload_n q_21_169 rfl ?_
          refine PW.gR 48 q_21_170 (Or.inl t_ft_21_35) gF_4_15 kd_40 IM27.1 (by decide) rfl ?_
          refine PW.iload_n q_21_173 rfl ?_
          refine PW.aload_n q_21_174 rfl ?_
          refine PW.gR 12 q_21_175 (Or.inl t_ft_21_35) gF_4_15 kd_4 IM27.1 (by decide) rfl ?_
          refine PW.iload_n q_21_178 rfl ?_
          refine PW.aH q_21_179 gA_34 kd_12 IM27.1 (by decide) (by omega) (by omega) fun x28 fx28 => ?_
          refine PW.wI q_21_180 gA_34 kd_48 Stab0 IM27 (by decide) rfl gC_34_0_1 (by decide) (by omega) (by omega) (n_lo _) (n_hi _) fun M29 IM29 fM29 UM29 => ?_
          have FM29 := Fr.pu FM27 UM29.1 kd_48 (rfl : List.contains [4, 27, 28, 29, 30, 31, 32, 33, 34, 35, 36] 34 = true)
          refine PW.aload_n q_21_181 rfl ?_
          refine PW.gR 49 q_21_182 (Or.inl t_ft_21_38) gF_4_16 kd_40 IM29.1 (by decide) rfl ?_
          refine PW.iload_n q_21_185 rfl ?_
          refine PW.aload_n q_21_186 rfl ?_
          refine PW.gR 13 q_21_187 (Or.inl t_ft_21_38) gF_4_16 kd_4 IM29.1 (by decide) rfl ?_
          refine PW.iload_n q_21_190 rfl ?_
          refine PW.aH q_21_191 gA_35 kd_13 IM29.1 (by decide) (by omega) (by omega) fun x30 fx30 => ?_
          refine PW.wI q_21_192 gA_35 kd_49 Stab0 IM29 (by decide) rfl gC_35_0_1 (by decide) (by omega) (by omega) (n_lo _) (n_hi _) fun M31 IM31 fM31 UM31 => ?_
          have FM31 := Fr.pu FM29 UM31.1 kd_49 (rfl : List.contains [4, 27, 28, 29, 30, 31, 32, 33, 34, 35, 36] 35 = true)
          refine PW.aload_n q_21_193 rfl ?_
          refine PW.gR 50 q_21_194 (Or.inl t_ft_21_41) gF_4_17 kd_40 IM31.1 (by decide) rfl ?_
          refine PW.iload_n q_21_197 rfl ?_
          refine PW.aload_n q_21_198 rfl ?_
          refine PW.gR 14 q_21_199 (Or.inl t_ft_21_41) gF_4_17 kd_4 IM31.1 (by decide) rfl ?_
          refine PW.iload_n q_21_202 rfl ?_
          refine PW.aH q_21_203 gA_36 kd_14 IM31.1 (by decide) (by omega) (by omega) fun x32 fx32 => ?_
          refine PW.wI q_21_204 gA_36 kd_50 Stab0 IM31 (by decide) rfl gC_36_0_1 (by decide) (by omega) (by omega) (n_lo _) (n_hi _) fun M33 IM33 fM33 UM33 => ?_
          have FM33 := Fr.pu FM31 UM33.1 kd_50 (rfl : List.contains [4, 27, 28, 29, 30, 31, 32, 33, 34, 35, 36] 36 = true)
          refine PW.incN q_21_205 rfl (by decide) (by decide) (by omega) (by omega) fun x34 hx34 => ?_
          refine PW.goto q_21_208 rfl ?_
          refine PW.lvS (lk1 rfl (lk1 rfl (lk1 rfl lk0))) (ih_L21_128_18 _ ?_ M33 x34 IM33 FM33 (by omega) (by omega) (by rw [((UM33.1 _ (g_ne kd_40 kd_50 (by decide))).trans ((UM31.1 _ (g_ne kd_40 kd_49 (by decide))).trans ((UM29.1 _ (g_ne kd_40 kd_48 (by decide))).trans ((UM27.1 _ (g_ne kd_40 kd_47 (by decide))).trans ((UM25.1 _ (g_ne kd_40 kd_46 (by decide))).trans (UM23.1 _ (g_ne kd_40 kd_45 (by decide))))))))]; exact hbL21_128_182) (((UM33.1 _ (g_ne kd_4 kd_50 (by decide))).trans ((UM31.1 _ (g_ne kd_4 kd_49 (by decide))).trans ((UM29.1 _ (g_ne kd_4 kd_48 (by decide))).trans ((UM27.1 _ (g_ne kd_4 kd_47 (by decide))).trans ((UM25.1 _ (g_ne kd_4 kd_46 (by decide))).trans (UM23.1 _ (g_ne kd_4 kd_45 (by decide)))))))).trans hbL21_128_183) (((UM33.1 _ (g_ne kd_75 kd_50 (by decide))).trans ((UM31.1 _ (g_ne kd_75 kd_49 (by decide))).trans ((UM29.1 _ (g_ne kd_75 kd_48 (by decide))).trans ((UM27.1 _ (g_ne kd_75 kd_47 (by decide))).trans ((UM25.1 _ (g_ne kd_75 kd_46 (by decide))).trans (UM23.1 _ (g_ne kd_75 kd_45 (by decide)))))))).trans hbL21_128_184) (((UM33.1 _ (g_ne kd_256 kd_50 (by decide))).trans ((UM31.1 _ (g_ne kd_256 kd_49 (by decide))).trans ((UM29.1 _ (g_ne kd_256 kd_48 (by decide))).trans ((UM27.1 _ (g_ne kd_256 kd_47 (by decide))).trans ((UM25.1 _ (g_ne kd_256 kd_46 (by decide))).trans (UM23.1 _ (g_ne kd_256 kd_45 (by decide)))))))).trans hbL21_128_185) (((UM33.1 _ (g_ne kd_5 kd_50 (by decide))).trans ((UM31.1 _ (g_ne kd_5 kd_49 (by decide))).trans ((UM29.1 _ (g_ne kd_5 kd_48 (by decide))).trans ((UM27.1 _ (g_ne kd_5 kd_47 (by decide))).trans ((UM25.1 _ (g_ne kd_5 kd_46 (by decide))).trans (UM23.1 _ (g_ne kd_5 kd_45 (by decide)))))))).trans hbL21_128_186) (((UM33.1 _ (g_ne kd_76 kd_50 (by decide))).trans ((UM31.1 _ (g_ne kd_76 kd_49 (by decide))).trans ((UM29.1 _ (g_ne kd_76 kd_48 (by decide))).trans ((UM27.1 _ (g_ne kd_76 kd_47 (by decide))).trans ((UM25.1 _ (g_ne kd_76 kd_46 (by decide))).trans (UM23.1 _ (g_ne kd_76 kd_45 (by decide)))))))).trans hbL21_128_187) (((UM33.1 _ (g_ne kd_257 kd_50 (by decide))).trans ((UM31.1 _ (g_ne kd_257 kd_49 (by decide))).trans ((UM29.1 _ (g_ne kd_257 kd_48 (by decide))).trans ((UM27.1 _ (g_ne kd_257 kd_47 (by decide))).trans ((UM25.1 _ (g_ne kd_257 kd_46 (by decide))).trans (UM23.1 _ (g_ne kd_257 kd_45 (by decide)))))))).trans hbL21_128_188) (fun j hj => by rw [((UM33.1 _ (g_ne kd_41 kd_50 (by decide))).trans ((UM31.1 _ (g_ne kd_41 kd_49 (by decide))).trans ((UM29.1 _ (g_ne kd_41 kd_48 (by decide))).trans ((UM27.1 _ (g_ne kd_41 kd_47 (by decide))).trans ((UM25.1 _ (g_ne kd_41 kd_46 (by decide))).trans (UM23.1 _ (g_ne kd_41 kd_45 (by decide))))))))]; exact hbL21_128_189 j hj) rfl)
          omega
      exact PW.lvS (lk1 rfl (lk1 rfl (lk1 rfl lk0))) (L21_128_18 _ ML21_66_13 c17 IML21_66_13 FML21_66_13 (by omega) (by omega) hbL21_66_132 hbL21_66_133 hbL21_66_134 hbL21_66_135 hbL21_66_136 hbL21_66_137 hbL21_66_138 (fun j hj => hbL21_66_139 j (by omega)) rfl)
    · skip
      refine PW.aload_n q_21_72 rfl ?_
      refine PW.gR 41 q_21_73 (Or.inl t_ft_21_9) gF_4_8 kd_40 IML21_66_13.1 (by decide) rfl ?_
      refine PW.iload_n q_21_76 rfl ?_
      refine PW.aload_n q_21_77 rfl ?_
      refine PW.gR 5 q_21_78 (Or.inl t_ft_21_9) gF_4_8 kd_4 IML21_66_13.1 (by decide) rfl ?_
      refine PW.iload_n q_21_81 rfl ?_
      refine PW.aL q_21_82 rfl kd_5 IML21_66_13.1 (by decide) (by omega) (by omega) fun l35 fl35 => ?_
      refine PW.wLX q_21_83 rfl kd_41 Stab0 IML21_66_13 (by decide) rfl (by omega) (by omega) fun M36 IM36 fM36 UM36 => ?_
      have FM36 := Fr.pu FML21_66_13 UM36.1 kd_41 (rfl : List.contains [4, 27, 28, 29, 30, 31, 32, 33, 34, 35, 36] 27 = true)
      refine PW.aload_n q_21_84 rfl ?_
      refine PW.gR 42 q_21_85 (Or.inl t_ft_21_15) gF_4_9 kd_40 IM36.1 (by decide) rfl ?_
      refine PW.iload_n q_21_88 rfl ?_
      refine PW.aload_n q_21_89 rfl ?_
      refine PW.gR 6 q_21_90 (Or.inl t_ft_21_15) gF_4_9 kd_4 IM36.1 (by decide) rfl ?_
      refine PW.iload_n q_21_93 rfl ?_
      refine PW.aH q_21_94 gA_28 kd_6 IM36.1 (by decide) (by omega) (by omega) fun x37 fx37 => ?_
      refine PW.wI q_21_95 gA_28 kd_42 Stab0 IM36 (by decide) rfl gC_28_0_5 (by decide) (by omega) (by omega) (n_lo _) (n_hi _) fun M38 IM38 fM38 UM38 => ?_
      have FM38 := Fr.pu FM36 UM38.1 kd_42 (rfl : List.contains [4, 27, 28, 29, 30, 31, 32, 33, 34, 35, 36] 28 = true)
      refine PW.aload_n q_21_96 rfl ?_
      refine PW.gR 43 q_21_97 (Or.inl t_ft_21_19) gF_4_10 kd_40 IM38.1 (by decide) rfl ?_
      refine PW.iload_n q_21_100 rfl ?_
      refine PW.aload_n q_21_101 rfl ?_
      refine PW.gR 7 q_21_102 (Or.inl t_ft_21_19) gF_4_10 kd_4 IM38.1 (by decide) rfl ?_
      refine PW.iload_n q_21_105 rfl ?_
      refine PW.aH q_21_106 gA_29 kd_7 IM38.1 (by decide) (by omega) (by omega) fun x39 fx39 => ?_
      refine PW.wI q_21_107 gA_29 kd_43 Stab0 IM38 (by decide) rfl gC_29_0_5 (by decide) (by omega) (by omega) (n_lo _) (n_hi _) fun M40 IM40 fM40 UM40 => ?_
      have FM40 := Fr.pu FM38 UM40.1 kd_43 (rfl : List.contains [4, 27, 28, 29, 30, 31, 32, 33, 34, 35, 36] 29 = true)
      refine PW.aload_n q_21_108 rfl ?_
      refine PW.gR 44 q_21_109 (Or.inl t_ft_21_22) gF_4_11 kd_40 IM40.1 (by decide) rfl ?_
      refine PW.iload_n q_21_112 rfl ?_
      refine PW.aload_n q_21_113 rfl ?_
      refine PW.gR 8 q_21_114 (Or.inl t_ft_21_22) gF_4_11 kd_4 IM40.1 (by decide) rfl ?_
      refine PW.iload_n q_21_117 rfl ?_
      refine PW.aZ q_21_118 gA_30 kd_8 IM40.1 (by decide) gB_30_0_5 (by omega) (by omega) fun x41 fx41 hx41 kx41 => ?_
      refine PW.wZ q_21_119 gA_30 kd_44 Stab0 IM40 (by decide) rfl gC_30_0_5 (by omega) (by omega) (by omega) (by omega) fun M42 IM42 fM42 UM42 => ?_
      have FM42 := Fr.pu FM40 UM42.1 kd_44 (rfl : List.contains [4, 27, 28, 29, 30, 31, 32, 33, 34, 35, 36] 30 = true)
      refine PW.incN q_21_120 rfl (by decide) (by decide) (by omega) (by omega) fun x43 hx43 => ?_
      refine PW.goto q_21_123 rfl ?_
      refine PW.lvS (lk1 rfl (lk1 rfl (lk1 rfl lk0))) (ih_L21_66_13 _ ?_ M42 x43 IM42 FM42 (by omega) (by omega) (by rw [((UM42.1 _ (g_ne kd_40 kd_44 (by decide))).trans ((UM40.1 _ (g_ne kd_40 kd_43 (by decide))).trans ((UM38.1 _ (g_ne kd_40 kd_42 (by decide))).trans (UM36.1 _ (g_ne kd_40 kd_41 (by decide))))))]; exact hbL21_66_132) (((UM42.1 _ (g_ne kd_4 kd_44 (by decide))).trans ((UM40.1 _ (g_ne kd_4 kd_43 (by decide))).trans ((UM38.1 _ (g_ne kd_4 kd_42 (by decide))).trans (UM36.1 _ (g_ne kd_4 kd_41 (by decide)))))).trans hbL21_66_133) (((UM42.1 _ (g_ne kd_75 kd_44 (by decide))).trans ((UM40.1 _ (g_ne kd_75 kd_43 (by decide))).trans ((UM38.1 _ (g_ne kd_75 kd_42 (by decide))).trans (UM36.1 _ (g_ne kd_75 kd_41 (by decide)))))).trans hbL21_66_134) (((UM42.1 _ (g_ne kd_256 kd_44 (by decide))).trans ((UM40.1 _ (g_ne kd_256 kd_43 (by decide))).trans ((UM38.1 _ (g_ne kd_256 kd_42 (by decide))).trans (UM36.1 _ (g_ne kd_256 kd_41 (by decide)))))).trans hbL21_66_135) (((UM42.1 _ (g_ne kd_5 kd_44 (by decide))).trans ((UM40.1 _ (g_ne kd_5 kd_43 (by decide))).trans ((UM38.1 _ (g_ne kd_5 kd_42 (by decide))).trans (UM36.1 _ (by decide))))).trans hbL21_66_136) (((UM42.1 _ (g_ne kd_76 kd_44 (by decide))).trans ((UM40.1 _ (g_ne kd_76 kd_43 (by decide))).trans ((UM38.1 _ (g_ne kd_76 kd_42 (by decide))).trans (UM36.1 _ (by decide))))).trans hbL21_66_137) (((UM42.1 _ (g_ne kd_257 kd_44 (by decide))).trans ((UM40.1 _ (g_ne kd_257 kd_43 (by decide))).trans ((UM38.1 _ (g_ne kd_257 kd_42 (by decide))).trans (UM36.1 _ (by decide))))).trans hbL21_66_138) (fun j hj => by by_cases q : j = v14.toInt.toNat; (· subst q; rw [((congrArg (fun e => o_l e v14.toInt.toNat) (UM42.1 41 (by decide))).trans ((congrArg (fun e => o_l e v14.toInt.toNat) (UM40.1 41 (by decide))).trans (congrArg (fun e => o_l e v14.toInt.toNat) (UM38.1 41 (by decide)))))]; rw [fM36, ← fl35, hbL21_66_136]); (· rw [((congrArg (fun e => o_l e j) (UM42.1 41 (by decide))).trans ((congrArg (fun e => o_l e j) (UM40.1 41 (by decide))).trans (congrArg (fun e => o_l e j) (UM38.1 41 (by decide)))))]; rw [UM36.2 j q]; exact hbL21_66_139 j (by omega))) rfl)
      omega
  exact PW.lvS (lk1 rfl (lk1 rfl (lk1 rfl lk0))) (L21_66_13 _ M11 c12 IM11 FM11 (by omega) (by omega) ⟨(by have w := (o_i_of ((UM11.f (Or.inr (by decide))).trans ((UM10.f (Or.inr (by decide))).trans ((UM9.f (Or.inr (by decide))).trans ((UM7.f (Or.inr (by decide))).trans ((UM5.f (Or.inr (by decide))).trans ((UM4.f (Or.inr (by decide))).trans fM3))))))); omega), (by have w := (o_i_of ((UM11.f (Or.inr (by decide))).trans ((UM10.f (Or.inr (by decide))).trans ((UM9.f (Or.inr (by decide))).trans ((UM7.f (Or.inr (by decide))).trans ((UM5.f (Or.inr (by decide))).trans fM4)))))); omega), (by have w := (o_i_of ((UM11.f (Or.inr (by decide))).trans ((UM10.f (Or.inr (by decide))).trans ((UM9.f (Or.inr (by decide))).trans ((UM7.f (Or.inr (by decide))).trans fM5))))); omega), (by have w := (o_i_of ((UM11.f (Or.inr (by decide))).trans fM10)); omega), (by have w := (o_i_of fM11); omega)⟩ ((UM11.1 _ (by decide)).trans ((UM10.1 _ (by decide)).trans ((UM9.1 _ (by decide)).trans ((UM7.1 _ (by decide)).trans ((UM5.1 _ (by decide)).trans ((UM4.1 _ (by decide)).trans ((UM3.1 _ (by decide)).trans (UM2.1 _ (by decide))))))))) ((UM11.1 _ (by decide)).trans ((UM10.1 _ (by decide)).trans ((UM9.1 _ (by decide)).trans ((UM7.1 _ (by decide)).trans ((UM5.1 _ (by decide)).trans ((UM4.1 _ (by decide)).trans ((UM3.1 _ (by decide)).trans (UM2.1 _ (by decide))))))))) ((UM11.1 _ (by decide)).trans ((UM10.1 _ (by decide)).trans ((UM9.1 _ (by decide)).trans ((UM7.1 _ (by decide)).trans ((UM5.1 _ (by decide)).trans ((UM4.1 _ (by decide)).trans ((UM3.1 _ (by decide)).trans (UM2.1 _ (by decide))))))))) ((UM11.1 _ (g_ne kd_5 kd_40 (by decide))).trans ((UM10.1 _ (g_ne kd_5 kd_40 (by decide))).trans ((UM9.1 _ (g_ne kd_5 kd_40 (by decide))).trans ((UM7.1 _ (g_ne kd_5 kd_40 (by decide))).trans ((UM5.1 _ (g_ne kd_5 kd_40 (by decide))).trans ((UM4.1 _ (g_ne kd_5 kd_40 (by decide))).trans ((UM3.1 _ (g_ne kd_5 kd_40 (by decide))).trans (UM2.1 _ (g_ne kd_5 kd_40 (by decide)))))))))) ((UM11.1 _ (g_ne kd_76 kd_40 (by decide))).trans ((UM10.1 _ (g_ne kd_76 kd_40 (by decide))).trans ((UM9.1 _ (g_ne kd_76 kd_40 (by decide))).trans ((UM7.1 _ (g_ne kd_76 kd_40 (by decide))).trans ((UM5.1 _ (g_ne kd_76 kd_40 (by decide))).trans ((UM4.1 _ (g_ne kd_76 kd_40 (by decide))).trans ((UM3.1 _ (g_ne kd_76 kd_40 (by decide))).trans (UM2.1 _ (g_ne kd_76 kd_40 (by decide)))))))))) ((UM11.1 _ (g_ne kd_257 kd_40 (by decide))).trans ((UM10.1 _ (g_ne kd_257 kd_40 (by decide))).trans ((UM9.1 _ (g_ne kd_257 kd_40 (by decide))).trans ((UM7.1 _ (g_ne kd_257 kd_40 (by decide))).trans ((UM5.1 _ (g_ne kd_257 kd_40 (by decide))).trans ((UM4.1 _ (g_ne kd_257 kd_40 (by decide))).trans ((UM3.1 _ (g_ne kd_257 kd_40 (by decide))).trans (UM2.1 _ (g_ne kd_257 kd_40 (by decide)))))))))) (fun j hj => by omega) rfl)
theorem c_X3_copyFrom_vk75_4 (G : pG) (Kr : pK) (M : pM) (I : Iv gTT M)  (hK : ∀ (M1 : pM), Iv gTT M1 → Fr [4, 27, 28, 29, 30, 31, 32, 33, 34, 35, 36] M M1 → (g5f (M1 75) (M 4) ∧ M1 4 = M 4 ∧ M1 40 = M 40 ∧ M1 256 = M 256 ∧ M1 5 = M 5 ∧ M1 41 = M 41 ∧ M1 257 = M 257 ∧ ∀ j : Nat, j < 6 → o_l (M1 76) j = o_l (M 5) j) → Kr.1 none 311 M1) : PW G false 0 21 (p_mc 21) (p_msl 21) Kr 0 (lv_args 0 [.ref 75, .ref 4]) [] 311 M 0 0 := by
  have F : Fr [4, 27, 28, 29, 30, 31, 32, 33, 34, 35, 36] M M := Fr.refl
  obtain ⟨w4_1, fw4_1, hw4_1, kw4_1⟩ := gF_4_1.int kd_4 I.1 (by decide)
  have iw4_1 := o_i_of fw4_1
  have jw4_1 : w4_1.toInt = o_i (M 4) 1 := by have w := (rfl : o_i (M 4) 1 = o_i (M 4) 1); omega
  obtain ⟨w4_2, fw4_2, hw4_2, kw4_2⟩ := gF_4_2.int kd_4 I.1 (by decide)
  have iw4_2 := o_i_of fw4_2
  have jw4_2 : w4_2.toInt = o_i (M 4) 2 := by have w := (rfl : o_i (M 4) 2 = o_i (M 4) 2); omega
  obtain ⟨w4_3, fw4_3, hw4_3, kw4_3⟩ := gF_4_3.int kd_4 I.1 (by decide)
  have iw4_3 := o_i_of fw4_3
  have jw4_3 : w4_3.toInt = o_i (M 4) 3 := by have w := (rfl : o_i (M 4) 3 = o_i (M 4) 3); omega
  obtain ⟨w4_6, fw4_6, hw4_6, kw4_6⟩ := gF_4_6.int kd_4 I.1 (by decide)
  have iw4_6 := o_i_of fw4_6
  have jw4_6 : w4_6.toInt = o_i (M 4) 6 := by have w := (rfl : o_i (M 4) 6 = o_i (M 4) 6); omega
  obtain ⟨w4_7, fw4_7, hw4_7, kw4_7⟩ := gF_4_7.int kd_4 I.1 (by decide)
  have iw4_7 := o_i_of fw4_7
  have jw4_7 : w4_7.toInt = o_i (M 4) 7 := by have w := (rfl : o_i (M 4) 7 = o_i (M 4) 7); omega
  refine PW.aload_n q_21_0 rfl ?_
  refine PW.aload_n q_21_1 rfl ?_
  refine PW.gI q_21_2 (Or.inl t_ft_21_47) gF_4_0 kd_4 I.1 (by decide) fun x1 fx1 hx1 kx1 => ?_
  have ix1 := o_i_of fx1
  clear hx1 kx1
  refine PW.pI q_21_5 (Or.inl t_ft_21_47) gF_4_0 gP_4_0 kd_75 Stab0 I (by decide) rfl (n_lo _) (n_hi _) fun M2 IM2 fM2 UM2 => ?_
  have FM2 := Fr.pu F UM2.1 kd_75 (rfl : List.contains [4, 27, 28, 29, 30, 31, 32, 33, 34, 35, 36] 4 = true)
  refine PW.aload_n q_21_8 rfl ?_
  refine PW.aload_n q_21_9 rfl ?_
  refine PW.gE q_21_10 (Or.inl t_ft_21_51) gF_4_1 kd_4 IM2.1 (by decide) ((UM2.f (Or.inl (by decide))).trans fw4_1) ?_
  refine PW.pI q_21_13 (Or.inl t_ft_21_51) gF_4_1 gP_4_1 kd_75 Stab0 IM2 (by decide) rfl (n_lo _) (n_hi _) fun M3 IM3 fM3 UM3 => ?_
  have FM3 := Fr.pu FM2 UM3.1 kd_75 (rfl : List.contains [4, 27, 28, 29, 30, 31, 32, 33, 34, 35, 36] 4 = true)
  refine PW.aload_n q_21_16 rfl ?_
  refine PW.aload_n q_21_17 rfl ?_
  refine PW.gE q_21_18 (Or.inl t_ft_21_54) gF_4_2 kd_4 IM3.1 (by decide) ((UM3.f (Or.inl (by decide))).trans ((UM2.f (Or.inl (by decide))).trans fw4_2)) ?_
  refine PW.pI q_21_21 (Or.inl t_ft_21_54) gF_4_2 gP_4_2 kd_75 Stab0 IM3 (by decide) rfl (n_lo _) (n_hi _) fun M4 IM4 fM4 UM4 => ?_
  have FM4 := Fr.pu FM3 UM4.1 kd_75 (rfl : List.contains [4, 27, 28, 29, 30, 31, 32, 33, 34, 35, 36] 4 = true)
  refine PW.aload_n q_21_24 rfl ?_
  refine PW.aload_n q_21_25 rfl ?_
  refine PW.gE q_21_26 (Or.inl t_ft_21_57) gF_4_3 kd_4 IM4.1 (by decide) ((UM4.f (Or.inl (by decide))).trans ((UM3.f (Or.inl (by decide))).trans ((UM2.f (Or.inl (by decide))).trans fw4_3))) ?_
  refine PW.pI q_21_29 (Or.inl t_ft_21_57) gF_4_3 gP_4_3 kd_75 Stab0 IM4 (by decide) rfl (n_lo _) (n_hi _) fun M5 IM5 fM5 UM5 => ?_
  have FM5 := Fr.pu FM4 UM5.1 kd_75 (rfl : List.contains [4, 27, 28, 29, 30, 31, 32, 33, 34, 35, 36] 4 = true)
  refine PW.aload_n q_21_32 rfl ?_
  refine PW.aload_n q_21_33 rfl ?_
  refine PW.gI q_21_34 (Or.inl t_ft_21_60) gF_4_4 kd_4 IM5.1 (by decide) fun x6 fx6 hx6 kx6 => ?_
  have ix6 := o_i_of fx6
  refine PW.pI q_21_37 (Or.inl t_ft_21_60) gF_4_4 gP_4_4 kd_75 Stab0 IM5 (by decide) rfl (by omega) (by omega) fun M7 IM7 fM7 UM7 => ?_
  have FM7 := Fr.pu FM5 UM7.1 kd_75 (rfl : List.contains [4, 27, 28, 29, 30, 31, 32, 33, 34, 35, 36] 4 = true)
  refine PW.aload_n q_21_40 rfl ?_
  refine PW.aload_n q_21_41 rfl ?_
  refine PW.gI q_21_42 (Or.inl t_ft_21_64) gF_4_5 kd_4 IM7.1 (by decide) fun x8 fx8 hx8 kx8 => ?_
  have ix8 := o_i_of fx8
  refine PW.pI q_21_45 (Or.inl t_ft_21_64) gF_4_5 gP_4_5 kd_75 Stab0 IM7 (by decide) rfl (by omega) (by omega) fun M9 IM9 fM9 UM9 => ?_
  have FM9 := Fr.pu FM7 UM9.1 kd_75 (rfl : List.contains [4, 27, 28, 29, 30, 31, 32, 33, 34, 35, 36] 4 = true)
  refine PW.aload_n q_21_48 rfl ?_
  refine PW.aload_n q_21_49 rfl ?_
  refine PW.gE q_21_50 (Or.inl t_ft_21_67) gF_4_6 kd_4 IM9.1 (by decide) ((UM9.f (Or.inl (by decide))).trans ((UM7.f (Or.inl (by decide))).trans ((UM5.f (Or.inl (by decide))).trans ((UM4.f (Or.inl (by decide))).trans ((UM3.f (Or.inl (by decide))).trans ((UM2.f (Or.inl (by decide))).trans fw4_6)))))) ?_
  refine PW.pI q_21_53 (Or.inl t_ft_21_67) gF_4_6 gP_4_6 kd_75 Stab0 IM9 (by decide) rfl (by omega) (by omega) fun M10 IM10 fM10 UM10 => ?_
  have FM10 := Fr.pu FM9 UM10.1 kd_75 (rfl : List.contains [4, 27, 28, 29, 30, 31, 32, 33, 34, 35, 36] 4 = true)
  refine PW.aload_n q_21_56 rfl ?_
  refine PW.aload_n q_21_57 rfl ?_
  refine PW.gE q_21_58 (Or.inl t_ft_21_70) gF_4_7 kd_4 IM10.1 (by decide) ((UM10.f (Or.inl (by decide))).trans ((UM9.f (Or.inl (by decide))).trans ((UM7.f (Or.inl (by decide))).trans ((UM5.f (Or.inl (by decide))).trans ((UM4.f (Or.inl (by decide))).trans ((UM3.f (Or.inl (by decide))).trans ((UM2.f (Or.inl (by decide))).trans fw4_7))))))) ?_
  refine PW.pT q_21_61 (Or.inl t_ft_21_70) gF_4_7 gP_4_7 kd_75 IM10 (by decide) rfl (by omega) (by omega) fun M11 IM11 fM11 UM11 => ?_
  have FM11 := Fr.pu FM10 UM11.1 kd_75 (rfl : List.contains [4, 27, 28, 29, 30, 31, 32, 33, 34, 35, 36] 4 = true)
  refine PW.cI q_21_64 (by decide) fun c12 hc12 => ?_
  refine PW.istore_n q_21_65 (by decide) ?_
  have L21_66_13 : ∀ (n : Nat) (ML21_66_13 : pM) (v14 : Int32), Iv (gTT) ML21_66_13 → Fr [4, 27, 28, 29, 30, 31, 32, 33, 34, 35, 36] M ML21_66_13 → 0 ≤ v14.toInt → v14.toInt ≤ 6 → g5f (ML21_66_13 75) (M 4) → ML21_66_13 4 = M 4 → ML21_66_13 40 = M 40 → ML21_66_13 256 = M 256 → ML21_66_13 5 = M 5 → ML21_66_13 41 = M 41 → ML21_66_13 257 = M 257 → (∀ j : Nat, (j : Int) < v14.toInt → o_l (ML21_66_13 76) j = o_l (M 5) j) → (6 - v14.toInt).toNat = n → PW G false 0 21 (p_mc 21) (p_msl 21) Kr 66 [(0, .ref 75), (1, .ref 4), (2, .int v14)] [] 311 ML21_66_13 0 0 := by
    intro n
    induction n using Nat.strongRecOn with
    | ind n ih_L21_66_13 =>
    intro ML21_66_13 v14 IML21_66_13 FML21_66_13 hbL21_66_130 hbL21_66_131 hbL21_66_132 hbL21_66_133 hbL21_66_134 hbL21_66_135 hbL21_66_136 hbL21_66_137 hbL21_66_138 hbL21_66_139 hmL21_66_13
    refine PW.iload_n q_21_66 rfl ?_
    refine PW.cB q_21_67 (by decide) fun c15 hc15 => ?_
    refine PW.jc_ge q_21_69 rfl (fun h16 => ?_) (fun h16 => ?_)
    · skip
      refine PW.cI q_21_126 (by decide) fun c17 hc17 => ?_
      refine PW.istore_n q_21_127 (by decide) ?_
      have L21_128_18 : ∀ (n : Nat) (ML21_128_18 : pM) (v19 : Int32), Iv (gTT) ML21_128_18 → Fr [4, 27, 28, 29, 30, 31, 32, 33, 34, 35, 36] M ML21_128_18 → 0 ≤ v19.toInt → v19.toInt ≤ 2 → g5f (ML21_128_18 75) (M 4) → ML21_128_18 4 = M 4 → ML21_128_18 40 = M 40 → ML21_128_18 256 = M 256 → ML21_128_18 5 = M 5 → ML21_128_18 41 = M 41 → ML21_128_18 257 = M 257 → (∀ j : Nat, j < 6 → o_l (ML21_128_18 76) j = o_l (M 5) j) → (2 - v19.toInt).toNat = n → PW G false 0 21 (p_mc 21) (p_msl 21) Kr 128 [(0, .ref 75), (1, .ref 4), (2, .int v19)] [] 311 ML21_128_18 0 0 := by
        intro n
        induction n using Nat.strongRecOn with
        | ind n ih_L21_128_18 =>
        intro ML21_128_18 v19 IML21_128_18 FML21_128_18 hbL21_128_180 hbL21_128_181 hbL21_128_182 hbL21_128_183 hbL21_128_184 hbL21_128_185 hbL21_128_186 hbL21_128_187 hbL21_128_188 hbL21_128_189 hmL21_128_18
        refine PW.iload_n q_21_128 rfl ?_
        refine PW.cI q_21_129 (by decide) fun c20 hc20 => ?_
        refine PW.jc_ge q_21_130 rfl (fun h21 => ?_) (fun h21 => ?_)
        · skip
          refine PW.vret q_21_211 rfl (by decide) (by decide) ?_
          exact hK ML21_128_18 IML21_128_18 FML21_128_18 ⟨hbL21_128_182, hbL21_128_183, hbL21_128_184, hbL21_128_185, hbL21_128_186, hbL21_128_187, hbL21_128_188, hbL21_128_189⟩
        · skip
          refine PW.aload_n q_21_133 rfl ?_
          refine PW.gR 80 q_21_134 (Or.inl t_ft_21_26) gF_4_12 kd_75 IML21_128_18.1 (by decide) rfl ?_
          refine PW.iload_n q_21_137 rfl ?_
          refine PW.aload_n q_21_138 rfl ?_
          refine PW.gR 9 q_21_139 (Or.inl t_ft_21_26) gF_4_12 kd_4 IML21_128_18.1 (by decide) rfl ?_
          refine PW.iload_n q_21_142 rfl ?_
          refine PW.aL q_21_143 rfl kd_9 IML21_128_18.1 (by decide) (by omega) (by omega) fun l22 fl22 => ?_
          refine PW.wLX q_21_144 rfl kd_80 Stab0 IML21_128_18 (by decide) rfl (by omega) (by omega) fun M23 IM23 fM23 UM23 => ?_
          have FM23 := Fr.pu FML21_128_18 UM23.1 kd_80 (rfl : List.contains [4, 27, 28, 29, 30, 31, 32, 33, 34, 35, 36] 31 = true)
          refine PW.aload_n q_21_145 rfl ?_
          refine PW.gR 81 q_21_146 (Or.inl t_ft_21_29) gF_4_13 kd_75 IM23.1 (by decide) rfl ?_
          refine PW.iload_n q_21_149 rfl ?_
          refine PW.aload_n q_21_150 rfl ?_
          refine PW.gR 10 q_21_151 (Or.inl t_ft_21_29) gF_4_13 kd_4 IM23.1 (by decide) rfl ?_
          refine PW.iload_n q_21_154 rfl ?_
          refine PW.aI q_21_155 gA_32 kd_10 IM23.1 (by decide) gB_32_0_1 (by decide) (by omega) (by omega) fun x24 fx24 hx24 kx24 => ?_
          refine PW.wT q_21_156 gA_32 kd_81 IM23 (by decide) rfl gC_32_0_1 (by decide) (by omega) (by omega) (by omega) (by omega) fun M25 IM25 fM25 UM25 => ?_
          have FM25 := Fr.pu FM23 UM25.1 kd_81 (rfl : List.contains [4, 27, 28, 29, 30, 31, 32, 33, 34, 35, 36] 32 = true)
          refine PW.aload_n q_21_157 rfl ?_
          refine PW.gR 82 q_21_158 (Or.inl t_ft_21_32) gF_4_14 kd_75 IM25.1 (by decide) rfl ?_
          refine PW.iload_n q_21_161 rfl ?_
          refine PW.aload_n q_21_162 rfl ?_
          refine PW.gR 11 q_21_163 (Or.inl t_ft_21_32) gF_4_14 kd_4 IM25.1 (by decide) rfl ?_
          refine PW.iload_n q_21_166 rfl ?_
          refine PW.aH q_21_167 gA_33 kd_11 IM25.1 (by decide) (by omega) (by omega) fun x26 fx26 => ?_
          refine PW.wI q_21_168 gA_33 kd_82 Stab0 IM25 (by decide) rfl gC_33_0_1 (by decide) (by omega) (by omega) (n_lo _) (n_hi _) fun M27 IM27 fM27 UM27 => ?_
          have FM27 := Fr.pu FM25 UM27.1 kd_82 (rfl : List.contains [4, 27, 28, 29, 30, 31, 32, 33, 34, 35, 36] 33 = true)
          refine PW.aload_n q_21_169 rfl ?_
          refine PW.gR 83 q_21_170 (Or.inl t_ft_21_35) gF_4_15 kd_75 IM27.1 (by decide) rfl ?_
          refine PW.iload_n q_21_173 rfl ?_
          refine PW.aload_n q_21_174 rfl ?_
          refine PW.gR 12 q_21_175 (Or.inl t_ft_21_35) gF_4_15 kd_4 IM27.1 (by decide) rfl ?_
          refine PW.iload_n q_21_178 rfl ?_
          refine PW.aH q_21_179 gA_34 kd_12 IM27.1 (by decide) (by omega) (by omega) fun x28 fx28 => ?_
          refine PW.wI q_21_180 gA_34 kd_83 Stab0 IM27 (by decide) rfl gC_34_0_1 (by decide) (by omega) (by omega) (n_lo _) (n_hi _) fun M29 IM29 fM29 UM29 => ?_
          have FM29 := Fr.pu FM27 UM29.1 kd_83 (rfl : List.contains [4, 27, 28, 29, 30, 31, 32, 33, 34, 35, 36] 34 = true)
          refine PW.aload_n q_21_181 rfl ?_
          refine PW.gR 84 q_21_182 (Or.inl t_ft_21_38) gF_4_16 kd_75 IM29.1 (by decide) rfl ?_
          refine PW.iload_n q_21_185 rfl ?_
          refine PW.aload_n q_21_186 rfl ?_
          refine PW.gR 13 q_21_187 (Or.inl t_ft_21_38) gF_4_16 kd_4 IM29.1 (by decide) rfl ?_
          refine PW.iload_n q_21_190 rfl ?_
          refine PW.aH q_21_191 gA_35 kd_13 IM29.1 (by decide) (by omega) (by omega) fun x30 fx30 => ?_
          refine PW.wI q_21_192 gA_35 kd_84 Stab0 IM29 (by decide) rfl gC_35_0_1 (by decide) (by omega) (by omega) (n_lo _) (n_hi _) fun M31 IM31 fM31 UM31 => ?_
          have FM31 := Fr.pu FM29 UM31.1 kd_84 (rfl : List.contains [4, 27, 28, 29, 30, 31, 32, 33, 34, 35, 36] 35 = true)
          refine PW.aload_n q_21_193 rfl ?_
          refine PW.gR 85 q_21_194 (Or.inl t_ft_21_41) gF_4_17 kd_75 IM31.1 (by decide) rfl ?_
          refine PW.iload_n q_21_197 rfl ?_
          refine PW.aload_n q_21_198 rfl ?_
          refine PW.gR 14 q_21_199 (Or.inl t_ft_21_41) gF_4_17 kd_4 IM31.1 (by decide) rfl ?_
          refine PW.iload_n q_21_202 rfl ?_
          refine PW.aH q_21_203 gA_36 kd_14 IM31.1 (by decide) (by omega) (by omega) fun x32 fx32 => ?_
          refine PW.wI q_21_204 gA_36 kd_85 Stab0 IM31 (by decide) rfl gC_36_0_1 (by decide) (by omega) (by omega) (n_lo _) (n_hi _) fun M33 IM33 fM33 UM33 => ?_
          have FM33 := Fr.pu FM31 UM33.1 kd_85 (rfl : List.contains [4, 27, 28, 29, 30, 31, 32, 33, 34, 35, 36] 36 = true)
          refine PW.incN q_21_205 rfl (by decide) (by decide) (by omega) (by omega) fun x34 hx34 => ?_
          refine PW.goto q_21_208 rfl ?_
          refine PW.lvS (lk1 rfl (lk1 rfl (lk1 rfl lk0))) (ih_L21_128_18 _ ?_ M33 x34 IM33 FM33 (by omega) (by omega) (by rw [((UM33.1 _ (g_ne kd_75 kd_85 (by decide))).trans ((UM31.1 _ (g_ne kd_75 kd_84 (by decide))).trans ((UM29.1 _ (g_ne kd_75 kd_83 (by decide))).trans ((UM27.1 _ (g_ne kd_75 kd_82 (by decide))).trans ((UM25.1 _ (g_ne kd_75 kd_81 (by decide))).trans (UM23.1 _ (g_ne kd_75 kd_80 (by decide))))))))]; exact hbL21_128_182) (((UM33.1 _ (g_ne kd_4 kd_85 (by decide))).trans ((UM31.1 _ (g_ne kd_4 kd_84 (by decide))).trans ((UM29.1 _ (g_ne kd_4 kd_83 (by decide))).trans ((UM27.1 _ (g_ne kd_4 kd_82 (by decide))).trans ((UM25.1 _ (g_ne kd_4 kd_81 (by decide))).trans (UM23.1 _ (g_ne kd_4 kd_80 (by decide)))))))).trans hbL21_128_183) (((UM33.1 _ (g_ne kd_40 kd_85 (by decide))).trans ((UM31.1 _ (g_ne kd_40 kd_84 (by decide))).trans ((UM29.1 _ (g_ne kd_40 kd_83 (by decide))).trans ((UM27.1 _ (g_ne kd_40 kd_82 (by decide))).trans ((UM25.1 _ (g_ne kd_40 kd_81 (by decide))).trans (UM23.1 _ (g_ne kd_40 kd_80 (by decide)))))))).trans hbL21_128_184) (((UM33.1 _ (g_ne kd_256 kd_85 (by decide))).trans ((UM31.1 _ (g_ne kd_256 kd_84 (by decide))).trans ((UM29.1 _ (g_ne kd_256 kd_83 (by decide))).trans ((UM27.1 _ (g_ne kd_256 kd_82 (by decide))).trans ((UM25.1 _ (g_ne kd_256 kd_81 (by decide))).trans (UM23.1 _ (g_ne kd_256 kd_80 (by decide)))))))).trans hbL21_128_185) (((UM33.1 _ (g_ne kd_5 kd_85 (by decide))).trans ((UM31.1 _ (g_ne kd_5 kd_84 (by decide))).trans ((UM29.1 _ (g_ne kd_5 kd_83 (by decide))).trans ((UM27.1 _ (g_ne kd_5 kd_82 (by decide))).trans ((UM25.1 _ (g_ne kd_5 kd_81 (by decide))).trans (UM23.1 _ (g_ne kd_5 kd_80 (by decide)))))))).trans hbL21_128_186) (((UM33.1 _ (g_ne kd_41 kd_85 (by decide))).trans ((UM31.1 _ (g_ne kd_41 kd_84 (by decide))).trans ((UM29.1 _ (g_ne kd_41 kd_83 (by decide))).trans ((UM27.1 _ (g_ne kd_41 kd_82 (by decide))).trans ((UM25.1 _ (g_ne kd_41 kd_81 (by decide))).trans (UM23.1 _ (g_ne kd_41 kd_80 (by decide)))))))).trans hbL21_128_187) (((UM33.1 _ (g_ne kd_257 kd_85 (by decide))).trans ((UM31.1 _ (g_ne kd_257 kd_84 (by decide))).trans ((UM29.1 _ (g_ne kd_257 kd_83 (by decide))).trans ((UM27.1 _ (g_ne kd_257 kd_82 (by decide))).trans ((UM25.1 _ (g_ne kd_257 kd_81 (by decide))).trans (UM23.1 _ (g_ne kd_257 kd_80 (by decide)))))))).trans hbL21_128_188) (fun j hj => by rw [((UM33.1 _ (g_ne kd_76 kd_85 (by decide))).trans ((UM31.1 _ (g_ne kd_76 kd_84 (by decide))).trans ((UM29.1 _ (g_ne kd_76 kd_83 (by decide))).trans ((UM27.1 _ (g_ne kd_76 kd_82 (by decide))).trans ((UM25.1 _ (g_ne kd_76 kd_81 (by decide))).trans (UM23.1 _ (g_ne kd_76 kd_80 (by decide))))))))]; exact hbL21_128_189 j hj) rfl)
          omega
      exact PW.lvS (lk1 rfl (lk1 rfl (lk1 rfl lk0))) (L21_128_18 _ ML21_66_13 c17 IML21_66_13 FML21_66_13 (by omega) (by omega) hbL21_66_132 hbL21_66_133 hbL21_66_134 hbL21_66_135 hbL21_66_136 hbL21_66_137 hbL21_66_138 (fun j hj => hbL21_66_139 j (by omega)) rfl)
    · skip
      refine PW.aload_n q_21_72 rfl ?_
      refine PW.gR 76 q_21_73 (Or.inl t_ft_21_9) gF_4_8 kd_75 IML21_66_13.1 (by decide) rfl ?_
      refine PW.iload_n q_21_76 rfl ?_
      refine PW.aload_n q_21_77 rfl ?_
      refine PW.gR 5 q_21_78 (Or.inl t_ft_21_9) gF_4_8 kd_4 IML21_66_13.1 (by decide) rfl ?_
      refine PW.iload_n q_21_81 rfl ?_
      refine PW.aL q_21_82 rfl kd_5 IML21_66_13.1 (by decide) (by omega) (by omega) fun l35 fl35 => ?_
      refine PW.wLX q_21_83 rfl kd_76 Stab0 IML21_66_13 (by decide) rfl (by omega) (by omega) fun M36 IM36 fM36 UM36 => ?_
      have FM36 := Fr.pu FML21_66_13 UM36.1 kd_76 (rfl : List.contains [4, 27, 28, 29, 30, 31, 32, 33, 34, 35, 36] 27 = true)
      refine PW.aload_n q_21_84 rfl ?_
      refine PW.gR 77 q_21_85 (Or.inl t_ft_21_15) gF_4_9 kd_75 IM36.1 (by decide) rfl ?_
      refine PW.iload_n q_21_88 rfl ?_
      refine PW.aload_n q_21_89 rfl ?_
      refine PW.gR 6 q_21_90 (Or.inl t_ft_21_15) gF_4_9 kd_4 IM36.1 (by decide) rfl ?_
      refine PW.iload_n q_21_93 rfl ?_
      refine PW.aH q_21_94 gA_28 kd_6 IM36.1 (by decide) (by omega) (by omega) fun x37 fx37 => ?_
      refine PW.wI q_21_95 gA_28 kd_77 Stab0 IM36 (by decide) rfl gC_28_0_5 (by decide) (by omega) (by omega) (n_lo _) (n_hi _) fun M38 IM38 fM38 UM38 => ?_
      have FM38 := Fr.pu FM36 UM38.1 kd_77 (rfl : List.contains [4, 27, 28, 29, 30, 31, 32, 33, 34, 35, 36] 28 = true)
      refine PW.aload_n q_21_96 rfl ?_
      refine PW.gR 78 q_21_97 (Or.inl t_ft_21_19) gF_4_10 kd_75 IM38.1 (by decide) rfl ?_
      refine PW.iload_n q_21_100 rfl ?_
      refine PW.aload_n q_21_101 rfl ?_
      refine PW.gR 7 q_21_102 (Or.inl t_ft_21_19) gF_4_10 kd_4 IM38.1 (by decide) rfl ?_
      refine PW.iload_n q_21_105 rfl ?_
      refine PW.aH q_21_106 gA_29 kd_7 IM38.1 (by decide) (by omega) (by omega) fun x39 fx39 => ?_
      refine PW.wI q_21_107 gA_29 kd_78 Stab0 IM38 (by decide) rfl gC_29_0_5 (by decide) (by omega) (by omega) (n_lo _) (n_hi _) fun M40 IM40 fM40 UM40 => ?_
      have FM40 := Fr.pu FM38 UM40.1 kd_78 (rfl : List.contains [4, 27, 28, 29, 30, 31, 32, 33, 34, 35, 36] 29 = true)
      refine PW.aload_n q_21_108 rfl ?_
      refine PW.gR 79 q_21_109 (Or.inl t_ft_21_22) gF_4_11 kd_75 IM40.1 (by decide) rfl ?_
      refine PW.iload_n q_21_112 rfl ?_
      refine PW.aload_n q_21_113 rfl ?_
      refine PW.gR 8 q_21_114 (Or.inl t_ft_21_22) gF_4_11 kd_4 IM40.1 (by decide) rfl ?_
      refine PW.iload_n q_21_117 rfl ?_
      refine PW.aZ q_21_118 gA_30 kd_8 IM40.1 (by decide) gB_30_0_5 (by omega) (by omega) fun x41 fx41 hx41 kx41 => ?_
      refine PW.wZ q_21_119 gA_30 kd_79 Stab0 IM40 (by decide) rfl gC_30_0_5 (by omega) (by omega) (by omega) (by omega) fun M42 IM42 fM42 UM42 => ?_
      have FM42 := Fr.pu FM40 UM42.1 kd_79 (rfl : List.contains [4, 27, 28, 29, 30, 31, 32, 33, 34, 35, 36] 30 = true)
      refine PW.incN q_21_120 rfl (by decide) (by decide) (by omega) (by omega) fun x43 hx43 => ?_
      refine PW.goto q_21_123 rfl ?_
      refine PW.lvS (lk1 rfl (lk1 rfl (lk1 rfl lk0))) (ih_L21_66_13 _ ?_ M42 x43 IM42 FM42 (by omega) (by omega) (by rw [((UM42.1 _ (g_ne kd_75 kd_79 (by decide))).trans ((UM40.1 _ (g_ne kd_75 kd_78 (by decide))).trans ((UM38.1 _ (g_ne kd_75 kd_77 (by decide))).trans (UM36.1 _ (g_ne kd_75 kd_76 (by decide))))))]; exact hbL21_66_132) (((UM42.1 _ (g_ne kd_4 kd_79 (by decide))).trans ((UM40.1 _ (g_ne kd_4 kd_78 (by decide))).trans ((UM38.1 _ (g_ne kd_4 kd_77 (by decide))).trans (UM36.1 _ (g_ne kd_4 kd_76 (by decide)))))).trans hbL21_66_133) (((UM42.1 _ (g_ne kd_40 kd_79 (by decide))).trans ((UM40.1 _ (g_ne kd_40 kd_78 (by decide))).trans ((UM38.1 _ (g_ne kd_40 kd_77 (by decide))).trans (UM36.1 _ (g_ne kd_40 kd_76 (by decide)))))).trans hbL21_66_134) (((UM42.1 _ (g_ne kd_256 kd_79 (by decide))).trans ((UM40.1 _ (g_ne kd_256 kd_78 (by decide))).trans ((UM38.1 _ (g_ne kd_256 kd_77 (by decide))).trans (UM36.1 _ (g_ne kd_256 kd_76 (by decide)))))).trans hbL21_66_135) (((UM42.1 _ (g_ne kd_5 kd_79 (by decide))).trans ((UM40.1 _ (g_ne kd_5 kd_78 (by decide))).trans ((UM38.1 _ (g_ne kd_5 kd_77 (by decide))).trans (UM36.1 _ (by decide))))).trans hbL21_66_136) (((UM42.1 _ (g_ne kd_41 kd_79 (by decide))).trans ((UM40.1 _ (g_ne kd_41 kd_78 (by decide))).trans ((UM38.1 _ (g_ne kd_41 kd_77 (by decide))).trans (UM36.1 _ (by decide))))).trans hbL21_66_137) (((UM42.1 _ (g_ne kd_257 kd_79 (by decide))).trans ((UM40.1 _ (g_ne kd_257 kd_78 (by decide))).trans ((UM38.1 _ (g_ne kd_257 kd_77 (by decide))).trans (UM36.1 _ (by decide))))).trans hbL21_66_138) (fun j hj => by by_cases q : j = v14.toInt.toNat; (· subst q; rw [((congrArg (fun e => o_l e v14.toInt.toNat) (UM42.1 76 (by decide))).trans ((congrArg (fun e => o_l e v14.toInt.toNat) (UM40.1 76 (by decide))).trans (congrArg (fun e => o_l e v14.toInt.toNat) (UM38.1 76 (by decide)))))]; rw [fM36, ← fl35, hbL21_66_136]); (· rw [((congrArg (fun e => o_l e j) (UM42.1 76 (by decide))).trans ((congrArg (fun e => o_l e j) (UM40.1 76 (by decide))).trans (congrArg (fun e => o_l e j) (UM38.1 76 (by decide)))))]; rw [UM36.2 j q]; exact hbL21_66_139 j (by omega))) rfl)
      omega
  exact PW.lvS (lk1 rfl (lk1 rfl (lk1 rfl lk0))) (L21_66_13 _ M11 c12 IM11 FM11 (by omega) (by omega) ⟨(by have w := (o_i_of ((UM11.f (Or.inr (by decide))).trans ((UM10.f (Or.inr (by decide))).trans ((UM9.f (Or.inr (by decide))).trans ((UM7.f (Or.inr (by decide))).trans ((UM5.f (Or.inr (by decide))).trans ((UM4.f (Or.inr (by decide))).trans fM3))))))); omega), (by have w := (o_i_of ((UM11.f (Or.inr (by decide))).trans ((UM10.f (Or.inr (by decide))).trans ((UM9.f (Or.inr (by decide))).trans ((UM7.f (Or.inr (by decide))).trans ((UM5.f (Or.inr (by decide))).trans fM4)))))); omega), (by have w := (o_i_of ((UM11.f (Or.inr (by decide))).trans ((UM10.f (Or.inr (by decide))).trans ((UM9.f (Or.inr (by decide))).trans ((UM7.f (Or.inr (by decide))).trans fM5))))); omega), (by have w := (o_i_of ((UM11.f (Or.inr (by decide))).trans fM10)); omega), (by have w := (o_i_of fM11); omega)⟩ ((UM11.1 _ (by decide)).trans ((UM10.1 _ (by decide)).trans ((UM9.1 _ (by decide)).trans ((UM7.1 _ (by decide)).trans ((UM5.1 _ (by decide)).trans ((UM4.1 _ (by decide)).trans ((UM3.1 _ (by decide)).trans (UM2.1 _ (by decide))))))))) ((UM11.1 _ (by decide)).trans ((UM10.1 _ (by decide)).trans ((UM9.1 _ (by decide)).trans ((UM7.1 _ (by decide)).trans ((UM5.1 _ (by decide)).trans ((UM4.1 _ (by decide)).trans ((UM3.1 _ (by decide)).trans (UM2.1 _ (by decide))))))))) ((UM11.1 _ (by decide)).trans ((UM10.1 _ (by decide)).trans ((UM9.1 _ (by decide)).trans ((UM7.1 _ (by decide)).trans ((UM5.1 _ (by decide)).trans ((UM4.1 _ (by decide)).trans ((UM3.1 _ (by decide)).trans (UM2.1 _ (by decide))))))))) ((UM11.1 _ (g_ne kd_5 kd_75 (by decide))).trans ((UM10.1 _ (g_ne kd_5 kd_75 (by decide))).trans ((UM9.1 _ (g_ne kd_5 kd_75 (by decide))).trans ((UM7.1 _ (g_ne kd_5 kd_75 (by decide))).trans ((UM5.1 _ (g_ne kd_5 kd_75 (by decide))).trans ((UM4.1 _ (g_ne kd_5 kd_75 (by decide))).trans ((UM3.1 _ (g_ne kd_5 kd_75 (by decide))).trans (UM2.1 _ (g_ne kd_5 kd_75 (by decide)))))))))) ((UM11.1 _ (g_ne kd_41 kd_75 (by decide))).trans ((UM10.1 _ (g_ne kd_41 kd_75 (by decide))).trans ((UM9.1 _ (g_ne kd_41 kd_75 (by decide))).trans ((UM7.1 _ (g_ne kd_41 kd_75 (by decide))).trans ((UM5.1 _ (g_ne kd_41 kd_75 (by decide))).trans ((UM4.1 _ (g_ne kd_41 kd_75 (by decide))).trans ((UM3.1 _ (g_ne kd_41 kd_75 (by decide))).trans (UM2.1 _ (g_ne kd_41 kd_75 (by decide)))))))))) ((UM11.1 _ (g_ne kd_257 kd_75 (by decide))).trans ((UM10.1 _ (g_ne kd_257 kd_75 (by decide))).trans ((UM9.1 _ (g_ne kd_257 kd_75 (by decide))).trans ((UM7.1 _ (g_ne kd_257 kd_75 (by decide))).trans ((UM5.1 _ (g_ne kd_257 kd_75 (by decide))).trans ((UM4.1 _ (g_ne kd_257 kd_75 (by decide))).trans ((UM3.1 _ (g_ne kd_257 kd_75 (by decide))).trans (UM2.1 _ (g_ne kd_257 kd_75 (by decide)))))))))) (fun j hj => by omega) rfl)
theorem c_X3_copyFrom_vk4_40 (G : pG) (Kr : pK) (M : pM) (I : Iv gTT M)  (hK : ∀ (M1 : pM), Iv gTT M1 → Fr [4, 27, 28, 29, 30, 31, 32, 33, 34, 35, 36] M M1 → (g5f (M1 4) (M 40) ∧ M1 40 = M 40 ∧ M1 75 = M 75 ∧ M1 256 = M 256 ∧ M1 41 = M 41 ∧ M1 76 = M 76 ∧ M1 257 = M 257 ∧ ∀ j : Nat, j < 6 → o_l (M1 5) j = o_l (M 41) j) → Kr.1 none 311 M1) : PW G false 0 21 (p_mc 21) (p_msl 21) Kr 0 (lv_args 0 [.ref 4, .ref 40]) [] 311 M 0 0 := by
  have F : Fr [4, 27, 28, 29, 30, 31, 32, 33, 34, 35, 36] M M := Fr.refl
  obtain ⟨w40_1, fw40_1, hw40_1, kw40_1⟩ := gF_4_1.int kd_40 I.1 (by decide)
  have iw40_1 := o_i_of fw40_1
  have jw40_1 : w40_1.toInt = o_i (M 40) 1 := by have w := (rfl : o_i (M 40) 1 = o_i (M 40) 1); omega
  obtain ⟨w40_2, fw40_2, hw40_2, kw40_2⟩ := gF_4_2.int kd_40 I.1 (by decide)
  have iw40_2 := o_i_of fw40_2
  have jw40_2 : w40_2.toInt = o_i (M 40) 2 := by have w := (rfl : o_i (M 40) 2 = o_i (M 40) 2); omega
  obtain ⟨w40_3, fw40_3, hw40_3, kw40_3⟩ := gF_4_3.int kd_40 I.1 (by decide)
  have iw40_3 := o_i_of fw40_3
  have jw40_3 : w40_3.toInt = o_i (M 40) 3 := by have w := (rfl : o_i (M 40) 3 = o_i (M 40) 3); omega
  obtain ⟨w40_6, fw40_6, hw40_6, kw40_6⟩ := gF_4_6.int kd_40 I.1 (by decide)
  have iw40_6 := o_i_of fw40_6
  have jw40_6 : w40_6.toInt = o_i (M 40) 6 := by have w := (rfl : o_i (M 40) 6 = o_i (M 40) 6); omega
  obtain ⟨w40_7, fw40_7, hw40_7, kw40_7⟩ := gF_4_7.int kd_40 I.1 (by decide)
  have iw40_7 := o_i_of fw40_7
  have jw40_7 : w40_7.toInt = o_i (M 40) 7 := by have w := (rfl : o_i (M 40) 7 = o_i (M 40) 7); omega
  refine PW.aload_n q_21_0 rfl ?_
  refine PW.aload_n q_21_1 rfl ?_
  refine PW.gI q_21_2 (Or.inl t_ft_21_47) gF_4_0 kd_40 I.1 (by decide) fun x1 fx1 hx1 kx1 => ?_
  have ix1 := o_i_of fx1
  clear hx1 kx1
  refine PW.pI q_21_5 (Or.inl t_ft_21_47) gF_4_0 gP_4_0 kd_4 Stab0 I (by decide) rfl (n_lo _) (n_hi _) fun M2 IM2 fM2 UM2 => ?_
  have FM2 := Fr.pu F UM2.1 kd_4 (rfl : List.contains [4, 27, 28, 29, 30, 31, 32, 33, 34, 35, 36] 4 = true)
  refine PW.aload_n q_21_8 rfl ?_
  refine PW.aload_n q_21_9 rfl ?_
  refine PW.gE q_21_10 (Or.inl t_ft_21_51) gF_4_1 kd_40 IM2.1 (by decide) ((UM2.f (Or.inl (by decide))).trans fw40_1) ?_
  refine PW.pI q_21_13 (Or.inl t_ft_21_51) gF_4_1 gP_4_1 kd_4 Stab0 IM2 (by decide) rfl (n_lo _) (n_hi _) fun M3 IM3 fM3 UM3 => ?_
  have FM3 := Fr.pu FM2 UM3.1 kd_4 (rfl : List.contains [4, 27, 28, 29, 30, 31, 32, 33, 34, 35, 36] 4 = true)
  refine PW.aload_n q_21_16 rfl ?_
  refine PW.aload_n q_21_17 rfl ?_
  refine PW.gE q_21_18 (Or.inl t_ft_21_54) gF_4_2 kd_40 IM3.1 (by decide) ((UM3.f (Or.inl (by decide))).trans ((UM2.f (Or.inl (by decide))).trans fw40_2)) ?_
  refine PW.pI q_21_21 (Or.inl t_ft_21_54) gF_4_2 gP_4_2 kd_4 Stab0 IM3 (by decide) rfl (n_lo _) (n_hi _) fun M4 IM4 fM4 UM4 => ?_
  have FM4 := Fr.pu FM3 UM4.1 kd_4 (rfl : List.contains [4, 27, 28, 29, 30, 31, 32, 33, 34, 35, 36] 4 = true)
  refine PW.aload_n q_21_24 rfl ?_
  refine PW.aload_n q_21_25 rfl ?_
  refine PW.gE q_21_26 (Or.inl t_ft_21_57) gF_4_3 kd_40 IM4.1 (by decide) ((UM4.f (Or.inl (by decide))).trans ((UM3.f (Or.inl (by decide))).trans ((UM2.f (Or.inl (by decide))).trans fw40_3))) ?_
  refine PW.pI q_21_29 (Or.inl t_ft_21_57) gF_4_3 gP_4_3 kd_4 Stab0 IM4 (by decide) rfl (n_lo _) (n_hi _) fun M5 IM5 fM5 UM5 => ?_
  have FM5 := Fr.pu FM4 UM5.1 kd_4 (rfl : List.contains [4, 27, 28, 29, 30, 31, 32, 33, 34, 35, 36] 4 = true)
  refine PW.aload_n q_21_32 rfl ?_
  refine PW.aload_n q_21_33 rfl ?_
  refine PW.gI q_21_34 (Or.inl t_ft_21_60) gF_4_4 kd_40 IM5.1 (by decide) fun x6 fx6 hx6 kx6 => ?_
  have ix6 := o_i_of fx6
  refine PW.pI q_21_37 (Or.inl t_ft_21_60) gF_4_4 gP_4_4 kd_4 Stab0 IM5 (by decide) rfl (by omega) (by omega) fun M7 IM7 fM7 UM7 => ?_
  have FM7 := Fr.pu FM5 UM7.1 kd_4 (rfl : List.contains [4, 27, 28, 29, 30, 31, 32, 33, 34, 35, 36] 4 = true)
  refine PW.aload_n q_21_40 rfl ?_
  refine PW.aload_n q_21_41 rfl ?_
  refine PW.gI q_21_42 (Or.inl t_ft_21_64) gF_4_5 kd_40 IM7.1 (by decide) fun x8 fx8 hx8 kx8 => ?_
  have ix8 := o_i_of fx8
  refine PW.pI q_21_45 (Or.inl t_ft_21_64) gF_4_5 gP_4_5 kd_4 Stab0 IM7 (by decide) rfl (by omega) (by omega) fun M9 IM9 fM9 UM9 => ?_
  have FM9 := Fr.pu FM7 UM9.1 kd_4 (rfl : List.contains [4, 27, 28, 29, 30, 31, 32, 33, 34, 35, 36] 4 = true)
  refine PW.aload_n q_21_48 rfl ?_
  refine PW.aload_n q_21_49 rfl ?_
  refine PW.gE q_21_50 (Or.inl t_ft_21_67) gF_4_6 kd_40 IM9.1 (by decide) ((UM9.f (Or.inl (by decide))).trans ((UM7.f (Or.inl (by decide))).trans ((UM5.f (Or.inl (by decide))).trans ((UM4.f (Or.inl (by decide))).trans ((UM3.f (Or.inl (by decide))).trans ((UM2.f (Or.inl (by decide))).trans fw40_6)))))) ?_
  refine PW.pI q_21_53 (Or.inl t_ft_21_67) gF_4_6 gP_4_6 kd_4 Stab0 IM9 (by decide) rfl (by omega) (by omega) fun M10 IM10 fM10 UM10 => ?_
  have FM10 := Fr.pu FM9 UM10.1 kd_4 (rfl : List.contains [4, 27, 28, 29, 30, 31, 32, 33, 34, 35, 36] 4 = true)
  refine PW.aload_n q_21_56 rfl ?_
  refine PW.aload_n q_21_57 rfl ?_
  refine PW.gE q_21_58 (Or.inl t_ft_21_70) gF_4_7 kd_40 IM10.1 (by decide) ((UM10.f (Or.inl (by decide))).trans ((UM9.f (Or.inl (by decide))).trans ((UM7.f (Or.inl (by decide))).trans ((UM5.f (Or.inl (by decide))).trans ((UM4.f (Or.inl (by decide))).trans ((UM3.f (Or.inl (by decide))).trans ((UM2.f (Or.inl (by decide))).trans fw40_7))))))) ?_
  refine PW.pT q_21_61 (Or.inl t_ft_21_70) gF_4_7 gP_4_7 kd_4 IM10 (by decide) rfl (by omega) (by omega) fun M11 IM11 fM11 UM11 => ?_
  have FM11 := Fr.pu FM10 UM11.1 kd_4 (rfl : List.contains [4, 27, 28, 29, 30, 31, 32, 33, 34, 35, 36] 4 = true)
  refine PW.cI q_21_64 (by decide) fun c12 hc12 => ?_
  refine PW.istore_n q_21_65 (by decide) ?_
  have L21_66_13 : ∀ (n : Nat) (ML21_66_13 : pM) (v14 : Int32), Iv (gTT) ML21_66_13 → Fr [4, 27, 28, 29, 30, 31, 32, 33, 34, 35, 36] M ML21_66_13 → 0 ≤ v14.toInt → v14.toInt ≤ 6 → g5f (ML21_66_13 4) (M 40) → ML21_66_13 40 = M 40 → ML21_66_13 75 = M 75 → ML21_66_13 256 = M 256 → ML21_66_13 41 = M 41 → ML21_66_13 76 = M 76 → ML21_66_13 257 = M 257 → (∀ j : Nat, (j : Int) < v14.toInt → o_l (ML21_66_13 5) j = o_l (M 41) j) → (6 - v14.toInt).toNat = n → PW G false 0 21 (p_mc 21) (p_msl 21) Kr 66 [(0, .ref 4), (1, .ref 40), (2, .int v14)] [] 311 ML21_66_13 0 0 := by
    intro n
    induction n using Nat.strongRecOn with
    | ind n ih_L21_66_13 =>
    intro ML21_66_13 v14 IML21_66_13 FML21_66_13 hbL21_66_130 hbL21_66_131 hbL21_66_132 hbL21_66_133 hbL21_66_134 hbL21_66_135 hbL21_66_136 hbL21_66_137 hbL21_66_138 hbL21_66_139 hmL21_66_13
    refine PW.iload_n q_21_66 rfl ?_
    refine PW.cB q_21_67 (by decide) fun c15 hc15 => ?_
    refine PW.jc_ge q_21_69 rfl (fun h16 => ?_) (fun h16 => ?_)
    · skip
      refine PW.cI q_21_126 (by decide) fun c17 hc17 => ?_
      refine PW.istore_n q_21_127 (by decide) ?_
      have L21_128_18 : ∀ (n : Nat) (ML21_128_18 : pM) (v19 : Int32), Iv (gTT) ML21_128_18 → Fr [4, 27, 28, 29, 30, 31, 32, 33, 34, 35, 36] M ML21_128_18 → 0 ≤ v19.toInt → v19.toInt ≤ 2 → g5f (ML21_128_18 4) (M 40) → ML21_128_18 40 = M 40 → ML21_128_18 75 = M 75 → ML21_128_18 256 = M 256 → ML21_128_18 41 = M 41 → ML21_128_18 76 = M 76 → ML21_128_18 257 = M 257 → (∀ j : Nat, j < 6 → o_l (ML21_128_18 5) j = o_l (M 41) j) → (2 - v19.toInt).toNat = n → PW G false 0 21 (p_mc 21) (p_msl 21) Kr 128 [(0, .ref 4), (1, .ref 40), (2, .int v19)] [] 311 ML21_128_18 0 0 := by
        intro n
        induction n using Nat.strongRecOn with
        | ind n ih_L21_128_18 =>
        intro ML21_128_18 v19 IML21_128_18 FML21_128_18 hbL21_128_180 hbL21_128_181 hbL21_128_182 hbL21_128_183 hbL21_128_184 hbL21_128_185 hbL21_128_186 hbL21_128_187 hbL21_128_188 hbL21_128_189 hmL21_128_18
        refine PW.iload_n q_21_128 rfl ?_
        refine PW.cI q_21_129 (by decide) fun c20 hc20 => ?_
        refine PW.jc_ge q_21_130 rfl (fun h21 => ?_) (fun h21 => ?_)
        · skip
          refine PW.vret q_21_211 rfl (by decide) (by decide) ?_
          exact hK ML21_128_18 IML21_128_18 FML21_128_18 ⟨hbL21_128_182, hbL21_128_183, hbL21_128_184, hbL21_128_185, hbL21_128_186, hbL21_128_187, hbL21_128_188, hbL21_128_189⟩
        · skip
          refine PW.aload_n q_21_133 rfl ?_
          refine PW.gR 9 q_21_134 (Or.inl t_ft_21_26) gF_4_12 kd_4 IML21_128_18.1 (by decide) rfl ?_
          refine PW.iload_n q_21_137 rfl ?_
          refine PW.aload_n q_21_138 rfl ?_
          refine PW.gR 45 q_21_139 (Or.inl t_ft_21_26) gF_4_12 kd_40 IML21_128_18.1 (by decide) rfl ?_
          refine PW.iload_n q_21_142 rfl ?_
          refine PW.aL q_21_143 rfl kd_45 IML21_128_18.1 (by decide) (by omega) (by omega) fun l22 fl22 => ?_
          refine PW.wLX q_21_144 rfl kd_9 Stab0 IML21_128_18 (by decide) rfl (by omega) (by omega) fun M23 IM23 fM23 UM23 => ?_
          have FM23 := Fr.pu FML21_128_18 UM23.1 kd_9 (rfl : List.contains [4, 27, 28, 29, 30, 31, 32, 33, 34, 35, 36] 31 = true)
          refine PW.aload_n q_21_145 rfl ?_
          refine PW.gR 10 q_21_146 (Or.inl t_ft_21_29) gF_4_13 kd_4 IM23.1 (by decide) rfl ?_
          refine PW.iload_n q_21_149 rfl ?_
          refine PW.aload_n q_21_150 rfl ?_
          refine PW.gR 46 q_21_151 (Or.inl t_ft_21_29) gF_4_13 kd_40 IM23.1 (by decide) rfl ?_
          refine PW.iload_n q_21_154 rfl ?_
          refine PW.aI q_21_155 gA_32 kd_46 IM23.1 (by decide) gB_32_0_1 (by decide) (by omega) (by omega) fun x24 fx24 hx24 kx24 => ?_
          refine PW.wT q_21_156 gA_32 kd_10 IM23 (by decide) rfl gC_32_0_1 (by decide) (by omega) (by omega) (by omega) (by omega) fun M25 IM25 fM25 UM25 => ?_
          have FM25 := Fr.pu FM23 UM25.1 kd_10 (rfl : List.contains [4, 27, 28, 29, 30, 31, 32, 33, 34, 35, 36] 32 = true)
          refine PW.aload_n q_21_157 rfl ?_
          refine PW.gR 11 q_21_158 (Or.inl t_ft_21_32) gF_4_14 kd_4 IM25.1 (by decide) rfl ?_
          refine PW.iload_n q_21_161 rfl ?_
          refine PW.aload_n q_21_162 rfl ?_
          refine PW.gR 47 q_21_163 (Or.inl t_ft_21_32) gF_4_14 kd_40 IM25.1 (by decide) rfl ?_
          refine PW.iload_n q_21_166 rfl ?_
          refine PW.aH q_21_167 gA_33 kd_47 IM25.1 (by decide) (by omega) (by omega) fun x26 fx26 => ?_
          refine PW.wI q_21_168 gA_33 kd_11 Stab0 IM25 (by decide) rfl gC_33_0_1 (by decide) (by omega) (by omega) (n_lo _) (n_hi _) fun M27 IM27 fM27 UM27 => ?_
          have FM27 := Fr.pu FM25 UM27.1 kd_11 (rfl : List.contains [4, 27, 28, 29, 30, 31, 32, 33, 34, 35, 36] 33 = true)
          refine PW.aload_n q_21_169 rfl ?_
          refine PW.gR 12 q_21_170 (Or.inl t_ft_21_35) gF_4_15 kd_4 IM27.1 (by decide) rfl ?_
          refine PW.iload_n q_21_173 rfl ?_
          refine PW.aload_n q_21_174 rfl ?_
          refine PW.gR 48 q_21_175 (Or.inl t_ft_21_35) gF_4_15 kd_40 IM27.1 (by decide) rfl ?_
          refine PW.iload_n q_21_178 rfl ?_
          refine PW.aH q_21_179 gA_34 kd_48 IM27.1 (by decide) (by omega) (by omega) fun x28 fx28 => ?_
          refine PW.wI q_21_180 gA_34 kd_12 Stab0 IM27 (by decide) rfl gC_34_0_1 (by decide) (by omega) (by omega) (n_lo _) (n_hi _) fun M29 IM29 fM29 UM29 => ?_
          have FM29 := Fr.pu FM27 UM29.1 kd_12 (rfl : List.contains [4, 27, 28, 29, 30, 31, 32, 33, 34, 35, 36] 34 = true)
          refine PW.aload_n q_21_181 rfl ?_
          refine PW.gR 13 q_21_182 (Or.inl t_ft_21_38) gF_4_16 kd_4 IM29.1 (by decide) rfl ?_
          refine PW.iload_n q_21_185 rfl ?_
          refine PW.aload_n q_21_186 rfl ?_
          refine PW.gR 49 q_21_187 (Or.inl t_ft_21_38) gF_4_16 kd_40 IM29.1 (by decide) rfl ?_
          refine PW.iload_n q_21_190 rfl ?_
          refine PW.aH q_21_191 gA_35 kd_49 IM29.1 (by decide) (by omega) (by omega) fun x30 fx30 => ?_
          refine PW.wI q_21_192 gA_35 kd_13 Stab0 IM29 (by decide) rfl gC_35_0_1 (by decide) (by omega) (by omega) (n_lo _) (n_hi _) fun M31 IM31 fM31 UM31 => ?_
          have FM31 := Fr.pu FM29 UM31.1 kd_13 (rfl : List.contains [4, 27, 28, 29, 30, 31, 32, 33, 34, 35, 36] 35 = true)
          refine PW.aload_n q_21_193 rfl ?_
          refine PW.gR 14 q_21_194 (Or.inl t_ft_21_41) gF_4_17 kd_4 IM31.1 (by decide) rfl ?_
          refine PW.iload_n q_21_197 rfl ?_
          refine PW.aload_n q_21_198 rfl ?_
          refine PW.gR 50 q_21_199 (Or.inl t_ft_21_41) gF_4_17 kd_40 IM31.1 (by decide) rfl ?_
          refine PW.iload_n q_21_202 rfl ?_
          refine PW.aH q_21_203 gA_36 kd_50 IM31.1 (by decide) (by omega) (by omega) fun x32 fx32 => ?_
          refine PW.wI q_21_204 gA_36 kd_14 Stab0 IM31 (by decide) rfl gC_36_0_1 (by decide) (by omega) (by omega) (n_lo _) (n_hi _) fun M33 IM33 fM33 UM33 => ?_
          have FM33 := Fr.pu FM31 UM33.1 kd_14 (rfl : List.contains [4, 27, 28, 29, 30, 31, 32, 33, 34, 35, 36] 36 = true)
          refine PW.incN q_21_205 rfl (by decide) (by decide) (by omega) (by omega) fun x34 hx34 => ?_
          refine PW.goto q_21_208 rfl ?_
          refine PW.lvS (lk1 rfl (lk1 rfl (lk1 rfl lk0))) (ih_L21_128_18 _ ?_ M33 x34 IM33 FM33 (by omega) (by omega) (by rw [((UM33.1 _ (g_ne kd_4 kd_14 (by decide))).trans ((UM31.1 _ (g_ne kd_4 kd_13 (by decide))).trans ((UM29.1 _ (g_ne kd_4 kd_12 (by decide))).trans ((UM27.1 _ (g_ne kd_4 kd_11 (by decide))).trans ((UM25.1 _ (g_ne kd_4 kd_10 (by decide))).trans (UM23.1 _ (g_ne kd_4 kd_9 (by decide))))))))]; exact hbL21_128_182) (((UM33.1 _ (g_ne kd_40 kd_14 (by decide))).trans ((UM31.1 _ (g_ne kd_40 kd_13 (by decide))).trans ((UM29.1 _ (g_ne kd_40 kd_12 (by decide))).trans ((UM27.1 _ (g_ne kd_40 kd_11 (by decide))).trans ((UM25.1 _ (g_ne kd_40 kd_10 (by decide))).trans (UM23.1 _ (g_ne kd_40 kd_9 (by decide)))))))).trans hbL21_128_183) (((UM33.1 _ (g_ne kd_75 kd_14 (by decide))).trans ((UM31.1 _ (g_ne kd_75 kd_13 (by decide))).trans ((UM29.1 _ (g_ne kd_75 kd_12 (by decide))).trans ((UM27.1 _ (g_ne kd_75 kd_11 (by decide))).trans ((UM25.1 _ (g_ne kd_75 kd_10 (by decide))).trans (UM23.1 _ (g_ne kd_75 kd_9 (by decide)))))))).trans hbL21_128_184) (((UM33.1 _ (g_ne kd_256 kd_14 (by decide))).trans ((UM31.1 _ (g_ne kd_256 kd_13 (by decide))).trans ((UM29.1 _ (g_ne kd_256 kd_12 (by decide))).trans ((UM27.1 _ (g_ne kd_256 kd_11 (by decide))).trans ((UM25.1 _ (g_ne kd_256 kd_10 (by decide))).trans (UM23.1 _ (g_ne kd_256 kd_9 (by decide)))))))).trans hbL21_128_185) (((UM33.1 _ (g_ne kd_41 kd_14 (by decide))).trans ((UM31.1 _ (g_ne kd_41 kd_13 (by decide))).trans ((UM29.1 _ (g_ne kd_41 kd_12 (by decide))).trans ((UM27.1 _ (g_ne kd_41 kd_11 (by decide))).trans ((UM25.1 _ (g_ne kd_41 kd_10 (by decide))).trans (UM23.1 _ (g_ne kd_41 kd_9 (by decide)))))))).trans hbL21_128_186) (((UM33.1 _ (g_ne kd_76 kd_14 (by decide))).trans ((UM31.1 _ (g_ne kd_76 kd_13 (by decide))).trans ((UM29.1 _ (g_ne kd_76 kd_12 (by decide))).trans ((UM27.1 _ (g_ne kd_76 kd_11 (by decide))).trans ((UM25.1 _ (g_ne kd_76 kd_10 (by decide))).trans (UM23.1 _ (g_ne kd_76 kd_9 (by decide)))))))).trans hbL21_128_187) (((UM33.1 _ (g_ne kd_257 kd_14 (by decide))).trans ((UM31.1 _ (g_ne kd_257 kd_13 (by decide))).trans ((UM29.1 _ (g_ne kd_257 kd_12 (by decide))).trans ((UM27.1 _ (g_ne kd_257 kd_11 (by decide))).trans ((UM25.1 _ (g_ne kd_257 kd_10 (by decide))).trans (UM23.1 _ (g_ne kd_257 kd_9 (by decide)))))))).trans hbL21_128_188) (fun j hj => by rw [((UM33.1 _ (g_ne kd_5 kd_14 (by decide))).trans ((UM31.1 _ (g_ne kd_5 kd_13 (by decide))).trans ((UM29.1 _ (g_ne kd_5 kd_12 (by decide))).trans ((UM27.1 _ (g_ne kd_5 kd_11 (by decide))).trans ((UM25.1 _ (g_ne kd_5 kd_10 (by decide))).trans (UM23.1 _ (g_ne kd_5 kd_9 (by decide))))))))]; exact hbL21_128_189 j hj) rfl)
          omega
      exact PW.lvS (lk1 rfl (lk1 rfl (lk1 rfl lk0))) (L21_128_18 _ ML21_66_13 c17 IML21_66_13 FML21_66_13 (by omega) (by omega) hbL21_66_132 hbL21_66_133 hbL21_66_134 hbL21_66_135 hbL21_66_136 hbL21_66_137 hbL21_66_138 (fun j hj => hbL21_66_139 j (by omega)) rfl)
    · skip
      refine PW.aload_n q_21_72 rfl ?_
      refine PW.gR 5 q_21_73 (Or.inl t_ft_21_9) gF_4_8 kd_4 IML21_66_13.1 (by decide) rfl ?_
      refine PW.iload_n q_21_76 rfl ?_
      refine PW.aload_n q_21_77 rfl ?_
      refine PW.gR 41 q_21_78 (Or.inl t_ft_21_9) gF_4_8 kd_40 IML21_66_13.1 (by decide) rfl ?_
      refine PW.iload_n q_21_81 rfl ?_
      refine PW.aL q_21_82 rfl kd_41 IML21_66_13.1 (by decide) (by omega) (by omega) fun l35 fl35 => ?_
      refine PW.wLX q_21_83 rfl kd_5 Stab0 IML21_66_13 (by decide) rfl (by omega) (by omega) fun M36 IM36 fM36 UM36 => ?_
      have FM36 := Fr.pu FML21_66_13 UM36.1 kd_5 (rfl : List.contains [4, 27, 28, 29, 30, 31, 32, 33, 34, 35, 36] 27 = true)
      refine PW.aload_n q_21_84 rfl ?_
      refine PW.gR 6 q_21_85 (Or.inl t_ft_21_15) gF_4_9 kd_4 IM36.1 (by decide) rfl ?_
      refine PW.iload_n q_21_88 rfl ?_
      refine PW.aload_n q_21_89 rfl ?_
      refine PW.gR 42 q_21_90 (Or.inl t_ft_21_15) gF_4_9 kd_40 IM36.1 (by decide) rfl ?_
      refine PW.iload_n q_21_93 rfl ?_
      refine PW.aH q_21_94 gA_28 kd_42 IM36.1 (by decide) (by omega) (by omega) fun x37 fx37 => ?_
      refine PW.wI q_21_95 gA_28 kd_6 Stab0 IM36 (by decide) rfl gC_28_0_5 (by decide) (by omega) (by omega) (n_lo _) (n_hi _) fun M38 IM38 fM38 UM38 => ?_
      have FM38 := Fr.pu FM36 UM38.1 kd_6 (rfl : List.contains [4, 27, 28, 29, 30, 31, 32, 33, 34, 35, 36] 28 = true)
      refine PW.aload_n q_21_96 rfl ?_
      refine PW.gR 7 q_21_97 (Or.inl t_ft_21_19) gF_4_10 kd_4 IM38.1 (by decide) rfl ?_
      refine PW.iload_n q_21_100 rfl ?_
      refine PW.aload_n q_21_101 rfl ?_
      refine PW.gR 43 q_21_102 (Or.inl t_ft_21_19) gF_4_10 kd_40 IM38.1 (by decide) rfl ?_
      refine PW.iload_n q_21_105 rfl ?_
      refine PW.aH q_21_106 gA_29 kd_43 IM38.1 (by decide) (by omega) (by omega) fun x39 fx39 => ?_
      refine PW.wI q_21_107 gA_29 kd_7 Stab0 IM38 (by decide) rfl gC_29_0_5 (by decide) (by omega) (by omega) (n_lo _) (n_hi _) fun M40 IM40 fM40 UM40 => ?_
      have FM40 := Fr.pu FM38 UM40.1 kd_7 (rfl : List.contains [4, 27, 28, 29, 30, 31, 32, 33, 34, 35, 36] 29 = true)
      refine PW.aload_n q_21_108 rfl ?_
      refine PW.gR 8 q_21_109 (Or.inl t_ft_21_22) gF_4_11 kd_4 IM40.1 (by decide) rfl ?_
      refine PW.iload_n q_21_112 rfl ?_
      refine PW.aload_n q_21_113 rfl ?_
      refine PW.gR 44 q_21_114 (Or.inl t_ft_21_22) gF_4_11 kd_40 IM40.1 (by decide) rfl ?_
      refine PW.iload_n q_21_117 rfl ?_
      refine PW.aZ q_21_118 gA_30 kd_44 IM40.1 (by decide) gB_30_0_5 (by omega) (by omega) fun x41 fx41 hx41 kx41 => ?_
      refine PW.wZ q_21_119 gA_30 kd_8 Stab0 IM40 (by decide) rfl gC_30_0_5 (by omega) (by omega) (by omega) (by omega) fun M42 IM42 fM42 UM42 => ?_
      have FM42 := Fr.pu FM40 UM42.1 kd_8 (rfl : List.contains [4, 27, 28, 29, 30, 31, 32, 33, 34, 35, 36] 30 = true)
      refine PW.incN q_21_120 rfl (by decide) (by decide) (by omega) (by omega) fun x43 hx43 => ?_
      refine PW.goto q_21_123 rfl ?_
      refine PW.lvS (lk1 rfl (lk1 rfl (lk1 rfl lk0))) (ih_L21_66_13 _ ?_ M42 x43 IM42 FM42 (by omega) (by omega) (by rw [((UM42.1 _ (g_ne kd_4 kd_8 (by decide))).trans ((UM40.1 _ (g_ne kd_4 kd_7 (by decide))).trans ((UM38.1 _ (g_ne kd_4 kd_6 (by decide))).trans (UM36.1 _ (g_ne kd_4 kd_5 (by decide))))))]; exact hbL21_66_132) (((UM42.1 _ (g_ne kd_40 kd_8 (by decide))).trans ((UM40.1 _ (g_ne kd_40 kd_7 (by decide))).trans ((UM38.1 _ (g_ne kd_40 kd_6 (by decide))).trans (UM36.1 _ (g_ne kd_40 kd_5 (by decide)))))).trans hbL21_66_133) (((UM42.1 _ (g_ne kd_75 kd_8 (by decide))).trans ((UM40.1 _ (g_ne kd_75 kd_7 (by decide))).trans ((UM38.1 _ (g_ne kd_75 kd_6 (by decide))).trans (UM36.1 _ (g_ne kd_75 kd_5 (by decide)))))).trans hbL21_66_134) (((UM42.1 _ (g_ne kd_256 kd_8 (by decide))).trans ((UM40.1 _ (g_ne kd_256 kd_7 (by decide))).trans ((UM38.1 _ (g_ne kd_256 kd_6 (by decide))).trans (UM36.1 _ (g_ne kd_256 kd_5 (by decide)))))).trans hbL21_66_135) (((UM42.1 _ (g_ne kd_41 kd_8 (by decide))).trans ((UM40.1 _ (g_ne kd_41 kd_7 (by decide))).trans ((UM38.1 _ (g_ne kd_41 kd_6 (by decide))).trans (UM36.1 _ (by decide))))).trans hbL21_66_136) (((UM42.1 _ (g_ne kd_76 kd_8 (by decide))).trans ((UM40.1 _ (g_ne kd_76 kd_7 (by decide))).trans ((UM38.1 _ (g_ne kd_76 kd_6 (by decide))).trans (UM36.1 _ (by decide))))).trans hbL21_66_137) (((UM42.1 _ (g_ne kd_257 kd_8 (by decide))).trans ((UM40.1 _ (g_ne kd_257 kd_7 (by decide))).trans ((UM38.1 _ (g_ne kd_257 kd_6 (by decide))).trans (UM36.1 _ (by decide))))).trans hbL21_66_138) (fun j hj => by by_cases q : j = v14.toInt.toNat; (· subst q; rw [((congrArg (fun e => o_l e v14.toInt.toNat) (UM42.1 5 (by decide))).trans ((congrArg (fun e => o_l e v14.toInt.toNat) (UM40.1 5 (by decide))).trans (congrArg (fun e => o_l e v14.toInt.toNat) (UM38.1 5 (by decide)))))]; rw [fM36, ← fl35, hbL21_66_136]); (· rw [((congrArg (fun e => o_l e j) (UM42.1 5 (by decide))).trans ((congrArg (fun e => o_l e j) (UM40.1 5 (by decide))).trans (congrArg (fun e => o_l e j) (UM38.1 5 (by decide)))))]; rw [UM36.2 j q]; exact hbL21_66_139 j (by omega))) rfl)
      omega
  exact PW.lvS (lk1 rfl (lk1 rfl (lk1 rfl lk0))) (L21_66_13 _ M11 c12 IM11 FM11 (by omega) (by omega) ⟨(by have w := (o_i_of ((UM11.f (Or.inr (by decide))).trans ((UM10.f (Or.inr (by decide))).trans ((UM9.f (Or.inr (by decide))).trans ((UM7.f (Or.inr (by decide))).trans ((UM5.f (Or.inr (by decide))).trans ((UM4.f (Or.inr (by decide))).trans fM3))))))); omega), (by have w := (o_i_of ((UM11.f (Or.inr (by decide))).trans ((UM10.f (Or.inr (by decide))).trans ((UM9.f (Or.inr (by decide))).trans ((UM7.f (Or.inr (by decide))).trans ((UM5.f (Or.inr (by decide))).trans fM4)))))); omega), (by have w := (o_i_of ((UM11.f (Or.inr (by decide))).trans ((UM10.f (Or.inr (by decide))).trans ((UM9.f (Or.inr (by decide))).trans ((UM7.f (Or.inr (by decide))).trans fM5))))); omega), (by have w := (o_i_of ((UM11.f (Or.inr (by decide))).trans fM10)); omega), (by have w := (o_i_of fM11); omega)⟩ ((UM11.1 _ (by decide)).trans ((UM10.1 _ (by decide)).trans ((UM9.1 _ (by decide)).trans ((UM7.1 _ (by decide)).trans ((UM5.1 _ (by decide)).trans ((UM4.1 _ (by decide)).trans ((UM3.1 _ (by decide)).trans (UM2.1 _ (by decide))))))))) ((UM11.1 _ (by decide)).trans ((UM10.1 _ (by decide)).trans ((UM9.1 _ (by decide)).trans ((UM7.1 _ (by decide)).trans ((UM5.1 _ (by decide)).trans ((UM4.1 _ (by decide)).trans ((UM3.1 _ (by decide)).trans (UM2.1 _ (by decide))))))))) ((UM11.1 _ (by decide)).trans ((UM10.1 _ (by decide)).trans ((UM9.1 _ (by decide)).trans ((UM7.1 _ (by decide)).trans ((UM5.1 _ (by decide)).trans ((UM4.1 _ (by decide)).trans ((UM3.1 _ (by decide)).trans (UM2.1 _ (by decide))))))))) ((UM11.1 _ (g_ne kd_41 kd_4 (by decide))).trans ((UM10.1 _ (g_ne kd_41 kd_4 (by decide))).trans ((UM9.1 _ (g_ne kd_41 kd_4 (by decide))).trans ((UM7.1 _ (g_ne kd_41 kd_4 (by decide))).trans ((UM5.1 _ (g_ne kd_41 kd_4 (by decide))).trans ((UM4.1 _ (g_ne kd_41 kd_4 (by decide))).trans ((UM3.1 _ (g_ne kd_41 kd_4 (by decide))).trans (UM2.1 _ (g_ne kd_41 kd_4 (by decide)))))))))) ((UM11.1 _ (g_ne kd_76 kd_4 (by decide))).trans ((UM10.1 _ (g_ne kd_76 kd_4 (by decide))).trans ((UM9.1 _ (g_ne kd_76 kd_4 (by decide))).trans ((UM7.1 _ (g_ne kd_76 kd_4 (by decide))).trans ((UM5.1 _ (g_ne kd_76 kd_4 (by decide))).trans ((UM4.1 _ (g_ne kd_76 kd_4 (by decide))).trans ((UM3.1 _ (g_ne kd_76 kd_4 (by decide))).trans (UM2.1 _ (g_ne kd_76 kd_4 (by decide)))))))))) ((UM11.1 _ (g_ne kd_257 kd_4 (by decide))).trans ((UM10.1 _ (g_ne kd_257 kd_4 (by decide))).trans ((UM9.1 _ (g_ne kd_257 kd_4 (by decide))).trans ((UM7.1 _ (g_ne kd_257 kd_4 (by decide))).trans ((UM5.1 _ (g_ne kd_257 kd_4 (by decide))).trans ((UM4.1 _ (g_ne kd_257 kd_4 (by decide))).trans ((UM3.1 _ (g_ne kd_257 kd_4 (by decide))).trans (UM2.1 _ (g_ne kd_257 kd_4 (by decide)))))))))) (fun j hj => by omega) rfl)
theorem c_X3_copyFrom_vk4_75 (G : pG) (Kr : pK) (M : pM) (I : Iv gTT M)  (hK : ∀ (M1 : pM), Iv gTT M1 → Fr [4, 27, 28, 29, 30, 31, 32, 33, 34, 35, 36] M M1 → (g5f (M1 4) (M 75) ∧ M1 40 = M 40 ∧ M1 75 = M 75 ∧ M1 256 = M 256 ∧ M1 41 = M 41 ∧ M1 76 = M 76 ∧ M1 257 = M 257 ∧ ∀ j : Nat, j < 6 → o_l (M1 5) j = o_l (M 76) j) → Kr.1 none 311 M1) : PW G false 0 21 (p_mc 21) (p_msl 21) Kr 0 (lv_args 0 [.ref 4, .ref 75]) [] 311 M 0 0 := by
  have F : Fr [4, 27, 28, 29, 30, 31, 32, 33, 34, 35, 36] M M := Fr.refl
  obtain ⟨w75_1, fw75_1, hw75_1, kw75_1⟩ := gF_4_1.int kd_75 I.1 (by decide)
  have iw75_1 := o_i_of fw75_1
  have jw75_1 : w75_1.toInt = o_i (M 75) 1 := by have w := (rfl : o_i (M 75) 1 = o_i (M 75) 1); omega
  obtain ⟨w75_2, fw75_2, hw75_2, kw75_2⟩ := gF_4_2.int kd_75 I.1 (by decide)
  have iw75_2 := o_i_of fw75_2
  have jw75_2 : w75_2.toInt = o_i (M 75) 2 := by have w := (rfl : o_i (M 75) 2 = o_i (M 75) 2); omega
  obtain ⟨w75_3, fw75_3, hw75_3, kw75_3⟩ := gF_4_3.int kd_75 I.1 (by decide)
  have iw75_3 := o_i_of fw75_3
  have jw75_3 : w75_3.toInt = o_i (M 75) 3 := by have w := (rfl : o_i (M 75) 3 = o_i (M 75) 3); omega
  obtain ⟨w75_6, fw75_6, hw75_6, kw75_6⟩ := gF_4_6.int kd_75 I.1 (by decide)
  have iw75_6 := o_i_of fw75_6
  have jw75_6 : w75_6.toInt = o_i (M 75) 6 := by have w := (rfl : o_i (M 75) 6 = o_i (M 75) 6); omega
  obtain ⟨w75_7, fw75_7, hw75_7, kw75_7⟩ := gF_4_7.int kd_75 I.1 (by decide)
  have iw75_7 := o_i_of fw75_7
  have jw75_7 : w75_7.toInt = o_i (M 75) 7 := by have w := (rfl : o_i (M 75) 7 = o_i (M 75) 7); omega
  refine PW.aload_n q_21_0 rfl ?_
  refine PW.aload_n q_21_1 rfl ?_
  refine PW.gI q_21_2 (Or.inl t_ft_21_47) gF_4_0 kd_75 I.1 (by decide) fun x1 fx1 hx1 kx1 => ?_
  have ix1 := o_i_of fx1
  clear hx1 kx1
  refine PW.pI q_21_5 (Or.inl t_ft_21_47) gF_4_0 gP_4_0 kd_4 Stab0 I (by decide) rfl (n_lo _) (n_hi _) fun M2 IM2 fM2 UM2 => ?_
  have FM2 := Fr.pu F UM2.1 kd_4 (rfl : List.contains [4, 27, 28, 29, 30, 31, 32, 33, 34, 35, 36] 4 = true)
  refine PW.aload_n q_21_8 rfl ?_
  refine PW.aload_n q_21_9 rfl ?_
  refine PW.gE q_21_10 (Or.inl t_ft_21_51) gF_4_1 kd_75 IM2.1 (by decide) ((UM2.f (Or.inl (by decide))).trans fw75_1) ?_
  refine PW.pI q_21_13 (Or.inl t_ft_21_51) gF_4_1 gP_4_1 kd_4 Stab0 IM2 (by decide) rfl (n_lo _) (n_hi _) fun M3 IM3 fM3 UM3 => ?_
  have FM3 := Fr.pu FM2 UM3.1 kd_4 (rfl : List.contains [4, 27, 28, 29, 30, 31, 32, 33, 34, 35, 36] 4 = true)
  refine PW.aload_n q_21_16 rfl ?_
  refine PW.aload_n q_21_17 rfl ?_
  refine PW.gE q_21_18 (Or.inl t_ft_21_54) gF_4_2 kd_75 IM3.1 (by decide) ((UM3.f (Or.inl (by decide))).trans ((UM2.f (Or.inl (by decide))).trans fw75_2)) ?_
  refine PW.pI q_21_21 (Or.inl t_ft_21_54) gF_4_2 gP_4_2 kd_4 Stab0 IM3 (by decide) rfl (n_lo _) (n_hi _) fun M4 IM4 fM4 UM4 => ?_
  have FM4 := Fr.pu FM3 UM4.1 kd_4 (rfl : List.contains [4, 27, 28, 29, 30, 31, 32, 33, 34, 35, 36] 4 = true)
  refine PW.aload_n q_21_24 rfl ?_
  refine PW.aload_n q_21_25 rfl ?_
  refine PW.gE q_21_26 (Or.inl t_ft_21_57) gF_4_3 kd_75 IM4.1 (by decide) ((UM4.f (Or.inl (by decide))).trans ((UM3.f (Or.inl (by decide))).trans ((UM2.f (Or.inl (by decide))).trans fw75_3))) ?_
  refine PW.pI q_21_29 (Or.inl t_ft_21_57) gF_4_3 gP_4_3 kd_4 Stab0 IM4 (by decide) rfl (n_lo _) (n_hi _) fun M5 IM5 fM5 UM5 => ?_
  have FM5 := Fr.pu FM4 UM5.1 kd_4 (rfl : List.contains [4, 27, 28, 29, 30, 31, 32, 33, 34, 35, 36] 4 = true)
  refine PW.aload_n q_21_32 rfl ?_
  refine PW.aload_n q_21_33 rfl ?_
  refine PW.gI q_21_34 (Or.inl t_ft_21_60) gF_4_4 kd_75 IM5.1 (by decide) fun x6 fx6 hx6 kx6 => ?_
  have ix6 := o_i_of fx6
  refine PW.pI q_21_37 (Or.inl t_ft_21_60) gF_4_4 gP_4_4 kd_4 Stab0 IM5 (by decide) rfl (by omega) (by omega) fun M7 IM7 fM7 UM7 => ?_
  have FM7 := Fr.pu FM5 UM7.1 kd_4 (rfl : List.contains [4, 27, 28, 29, 30, 31, 32, 33, 34, 35, 36] 4 = true)
  refine PW.aload_n q_21_40 rfl ?_
  refine PW.aload_n q_21_41 rfl ?_
  refine PW.gI q_21_42 (Or.inl t_ft_21_64) gF_4_5 kd_75 IM7.1 (by decide) fun x8 fx8 hx8 kx8 => ?_
  have ix8 := o_i_of fx8
  refine PW.pI q_21_45 (Or.inl t_ft_21_64) gF_4_5 gP_4_5 kd_4 Stab0 IM7 (by decide) rfl (by omega) (by omega) fun M9 IM9 fM9 UM9 => ?_
  have FM9 := Fr.pu FM7 UM9.1 kd_4 (rfl : List.contains [4, 27, 28, 29, 30, 31, 32, 33, 34, 35, 36] 4 = true)
  refine PW.aload_n q_21_48 rfl ?_
  refine PW.aload_n q_21_49 rfl ?_
  refine PW.gE q_21_50 (Or.inl t_ft_21_67) gF_4_6 kd_75 IM9.1 (by decide) ((UM9.f (Or.inl (by decide))).trans ((UM7.f (Or.inl (by decide))).trans ((UM5.f (Or.inl (by decide))).trans ((UM4.f (Or.inl (by decide))).trans ((UM3.f (Or.inl (by decide))).trans ((UM2.f (Or.inl (by decide))).trans fw75_6)))))) ?_
  refine PW.pI q_21_53 (Or.inl t_ft_21_67) gF_4_6 gP_4_6 kd_4 Stab0 IM9 (by decide) rfl (by omega) (by omega) fun M10 IM10 fM10 UM10 => ?_
  have FM10 := Fr.pu FM9 UM10.1 kd_4 (rfl : List.contains [4, 27, 28, 29, 30, 31, 32, 33, 34, 35, 36] 4 = true)
  refine PW.aload_n q_21_56 rfl ?_
  refine PW.aload_n q_21_57 rfl ?_
  refine PW.gE q_21_58 (Or.inl t_ft_21_70) gF_4_7 kd_75 IM10.1 (by decide) ((UM10.f (Or.inl (by decide))).trans ((UM9.f (Or.inl (by decide))).trans ((UM7.f (Or.inl (by decide))).trans ((UM5.f (Or.inl (by decide))).trans ((UM4.f (Or.inl (by decide))).trans ((UM3.f (Or.inl (by decide))).trans ((UM2.f (Or.inl (by decide))).trans fw75_7))))))) ?_
  refine PW.pT q_21_61 (Or.inl t_ft_21_70) gF_4_7 gP_4_7 kd_4 IM10 (by decide) rfl (by omega) (by omega) fun M11 IM11 fM11 UM11 => ?_
  have FM11 := Fr.pu FM10 UM11.1 kd_4 (rfl : List.contains [4, 27, 28, 29, 30, 31, 32, 33, 34, 35, 36] 4 = true)
  refine PW.cI q_21_64 (by decide) fun c12 hc12 => ?_
  refine PW.istore_n q_21_65 (by decide) ?_
  have L21_66_13 : ∀ (n : Nat) (ML21_66_13 : pM) (v14 : Int32), Iv (gTT) ML21_66_13 → Fr [4, 27, 28, 29, 30, 31, 32, 33, 34, 35, 36] M ML21_66_13 → 0 ≤ v14.toInt → v14.toInt ≤ 6 → g5f (ML21_66_13 4) (M 75) → ML21_66_13 40 = M 40 → ML21_66_13 75 = M 75 → ML21_66_13 256 = M 256 → ML21_66_13 41 = M 41 → ML21_66_13 76 = M 76 → ML21_66_13 257 = M 257 → (∀ j : Nat, (j : Int) < v14.toInt → o_l (ML21_66_13 5) j = o_l (M 76) j) → (6 - v14.toInt).toNat = n → PW G false 0 21 (p_mc 21) (p_msl 21) Kr 66 [(0, .ref 4), (1, .ref 75), (2, .int v14)] [] 311 ML21_66_13 0 0 := by
    intro n
    induction n using Nat.strongRecOn with
    | ind n ih_L21_66_13 =>
    intro ML21_66_13 v14 IML21_66_13 FML21_66_13 hbL21_66_130 hbL21_66_131 hbL21_66_132 hbL21_66_133 hbL21_66_134 hbL21_66_135 hbL21_66_136 hbL21_66_137 hbL21_66_138 hbL21_66_139 hmL21_66_13
    refine PW.iload_n q_21_66 rfl ?_
    refine PW.cB q_21_67 (by decide) fun c15 hc15 => ?_
    refine PW.jc_ge q_21_69 rfl (fun h16 => ?_) (fun h16 => ?_)
    · skip
      refine PW.cI q_21_126 (by decide) fun c17 hc17 => ?_
      refine PW.istore_n q_21_127 (by decide) ?_
      have L21_128_18 : ∀ (n : Nat) (ML21_128_18 : pM) (v19 : Int32), Iv (gTT) ML21_128_18 → Fr [4, 27, 28, 29, 30, 31, 32, 33, 34, 35, 36] M ML21_128_18 → 0 ≤ v19.toInt → v19.toInt ≤ 2 → g5f (ML21_128_18 4) (M 75) → ML21_128_18 40 = M 40 → ML21_128_18 75 = M 75 → ML21_128_18 256 = M 256 → ML21_128_18 41 = M 41 → ML21_128_18 76 = M 76 → ML21_128_18 257 = M 257 → (∀ j : Nat, j < 6 → o_l (ML21_128_18 5) j = o_l (M 76) j) → (2 - v19.toInt).toNat = n → PW G false 0 21 (p_mc 21) (p_msl 21) Kr 128 [(0, .ref 4), (1, .ref 75), (2, .int v19)] [] 311 ML21_128_18 0 0 := by
        intro n
        induction n using Nat.strongRecOn with
        | ind n ih_L21_128_18 =>
        intro ML21_128_18 v19 IML21_128_18 FML21_128_18 hbL21_128_180 hbL21_128_181 hbL21_128_182 hbL21_128_183 hbL21_128_184 hbL21_128_185 hbL21_128_186 hbL21_128_187 hbL21_128_188 hbL21_128_189 hmL21_128_18
        refine PW.iload_n q_21_128 rfl ?_
        refine PW.cI q_21_129 (by decide) fun c20 hc20 => ?_
        refine PW.jc_ge q_21_130 rfl (fun h21 => ?_) (fun h21 => ?_)
        · skip
          refine PW.vret q_21_211 rfl (by decide) (by decide) ?_
          exact hK ML21_128_18 IML21_128_18 FML21_128_18 ⟨hbL21_128_182, hbL21_128_183, hbL21_128_184, hbL21_128_185, hbL21_128_186, hbL21_128_187, hbL21_128_188, hbL21_128_189⟩
        · skip
          refine PW.aload_n q_21_133 rfl ?_
          refine PW.gR 9 q_21_134 (Or.inl t_ft_21_26) gF_4_12 kd_4 IML21_128_18.1 (by decide) rfl ?_
          refine PW.iload_n q_21_137 rfl ?_
          refine PW.aload_n q_21_138 rfl ?_
          refine PW.gR 80 q_21_139 (Or.inl t_ft_21_26) gF_4_12 kd_75 IML21_128_18.1 (by decide) rfl ?_
          refine PW.iload_n q_21_142 rfl ?_
          refine PW.aL q_21_143 rfl kd_80 IML21_128_18.1 (by decide) (by omega) (by omega) fun l22 fl22 => ?_
          refine PW.wLX q_21_144 rfl kd_9 Stab0 IML21_128_18 (by decide) rfl (by omega) (by omega) fun M23 IM23 fM23 UM23 => ?_
          have FM23 := Fr.pu FML21_128_18 UM23.1 kd_9 (rfl : List.contains [4, 27, 28, 29, 30, 31, 32, 33, 34, 35, 36] 31 = true)
          refine PW.aload_n q_21_145 rfl ?_
          refine PW.gR 10 q_21_146 (Or.inl t_ft_21_29) gF_4_13 kd_4 IM23.1 (by decide) rfl ?_
          refine PW.iload_n q_21_149 rfl ?_
          refine PW.aload_n q_21_150 rfl ?_
          refine PW.gR 81 q_21_151 (Or.inl t_ft_21_29) gF_4_13 kd_75 IM23.1 (by decide) rfl ?_
          refine PW.iload_n q_21_154 rfl ?_
          refine PW.aI q_21_155 gA_32 kd_81 IM23.1 (by decide) gB_32_0_1 (by decide) (by omega) (by omega) fun x24 fx24 hx24 kx24 => ?_
          refine PW.wT q_21_156 gA_32 kd_10 IM23 (by decide) rfl gC_32_0_1 (by decide) (by omega) (by omega) (by omega) (by omega) fun M25 IM25 fM25 UM25 => ?_
          have FM25 := Fr.pu FM23 UM25.1 kd_10 (rfl : List.contains [4, 27, 28, 29, 30, 31, 32, 33, 34, 35, 36] 32 = true)
          refine PW.aload_n q_21_157 rfl ?_
          refine PW.gR 11 q_21_158 (Or.inl t_ft_21_32) gF_4_14 kd_4 IM25.1 (by decide) rfl ?_
          refine PW.iload_n q_21_161 rfl ?_
          refine PW.aload_n q_21_162 rfl ?_
          refine PW.gR 82 q_21_163 (Or.inl t_ft_21_32) gF_4_14 kd_75 IM25.1 (by decide) rfl ?_
          refine PW.iload_n q_21_166 rfl ?_
          refine PW.aH q_21_167 gA_33 kd_82 IM25.1 (by decide) (by omega) (by omega) fun x26 fx26 => ?_
          refine PW.wI q_21_168 gA_33 kd_11 Stab0 IM25 (by decide) rfl gC_33_0_1 (by decide) (by omega) (by omega) (n_lo _) (n_hi _) fun M27 IM27 fM27 UM27 => ?_
          have FM27 := Fr.pu FM25 UM27.1 kd_11 (rfl : List.contains [4, 27, 28, 29, 30, 31, 32, 33, 34, 35, 36] 33 = true)
          refine PW.aload_n q_21_169 rfl ?_
          refine PW.gR 12 q_21_170 (Or.inl t_ft_21_35) gF_4_15 kd_4 IM27.1 (by decide) rfl ?_
          refine PW.iload_n q_21_173 rfl ?_
          refine PW.aload_n q_21_174 rfl ?_
          refine PW.gR 83 q_21_175 (Or.inl t_ft_21_35) gF_4_15 kd_75 IM27.1 (by decide) rfl ?_
          refine PW.iload_n q_21_178 rfl ?_
          refine PW.aH q_21_179 gA_34 kd_83 IM27.1 (by decide) (by omega) (by omega) fun x28 fx28 => ?_
          refine PW.wI q_21_180 gA_34 kd_12 Stab0 IM27 (by decide) rfl gC_34_0_1 (by decide) (by omega) (by omega) (n_lo _) (n_hi _) fun M29 IM29 fM29 UM29 => ?_
          have FM29 := Fr.pu FM27 UM29.1 kd_12 (rfl : List.contains [4, 27, 28, 29, 30, 31, 32, 33, 34, 35, 36] 34 = true)
          refine PW.aload_n q_21_181 rfl ?_
          refine PW.gR 13 q_21_182 (Or.inl t_ft_21_38) gF_4_16 kd_4 IM29.1 (by decide) rfl ?_
          refine PW.iload_n q_21_185 rfl ?_
          refine PW.aload_n q_21_186 rfl ?_
          refine PW.gR 84 q_21_187 (Or.inl t_ft_21_38) gF_4_16 kd_75 IM29.1 (by decide) rfl ?_
          refine PW.iload_n q_21_190 rfl ?_
          refine PW.aH q_21_191 gA_35 kd_84 IM29.1 (by decide) (by omega) (by omega) fun x30 fx30 => ?_
          refine PW.wI q_21_192 gA_35 kd_13 Stab0 IM29 (by decide) rfl gC_35_0_1 (by decide) (by omega) (by omega) (n_lo _) (n_hi _) fun M31 IM31 fM31 UM31 => ?_
          have FM31 := Fr.pu FM29 UM31.1 kd_13 (rfl : List.contains [4, 27, 28, 29, 30, 31, 32, 33, 34, 35, 36] 35 = true)
          refine PW.aload_n q_21_193 rfl ?_
          refine PW.gR 14 q_21_194 (Or.inl t_ft_21_41) gF_4_17 kd_4 IM31.1 (by decide) rfl ?_
          refine PW.iload_n q_21_197 rfl ?_
          refine PW.aload_n q_21_198 rfl ?_
          refine PW.gR 85 q_21_199 (Or.inl t_ft_21_41) gF_4_17 kd_75 IM31.1 (by decide) rfl ?_
          refine PW.iload_n q_21_202 rfl ?_
          refine PW.aH q_21_203 gA_36 kd_85 IM31.1 (by decide) (by omega) (by omega) fun x32 fx32 => ?_
          refine PW.wI q_21_204 gA_36 kd_14 Stab0 IM31 (by decide) rfl gC_36_0_1 (by decide) (by omega) (by omega) (n_lo _) (n_hi _) fun M33 IM33 fM33 UM33 => ?_
          have FM33 := Fr.pu FM31 UM33.1 kd_14 (rfl : List.contains [4, 27, 28, 29, 30, 31, 32, 33, 34, 35, 36] 36 = true)
          refine PW.incN q_21_205 rfl (by decide) (by decide) (by omega) (by omega) fun x34 hx34 => ?_
          refine PW.goto q_21_208 rfl ?_
          refine PW.lvS (lk1 rfl (lk1 rfl (lk1 rfl lk0))) (ih_L21_128_18 _ ?_ M33 x34 IM33 FM33 (by omega) (by omega) (by rw [((UM33.1 _ (g_ne kd_4 kd_14 (by decide))).trans ((UM31.1 _ (g_ne kd_4 kd_13 (by decide))).trans ((UM29.1 _ (g_ne kd_4 kd_12 (by decide))).trans ((UM27.1 _ (g_ne kd_4 kd_11 (by decide))).trans ((UM25.1 _ (g_ne kd_4 kd_10 (by decide))).trans (UM23.1 _ (g_ne kd_4 kd_9 (by decide))))))))]; exact hbL21_128_182) (((UM33.1 _ (g_ne kd_40 kd_14 (by decide))).trans ((UM31.1 _ (g_ne kd_40 kd_13 (by decide))).trans ((UM29.1 _ (g_ne kd_40 kd_12 (by decide))).trans ((UM27.1 _ (g_ne kd_40 kd_11 (by decide))).trans ((UM25.1 _ (g_ne kd_40 kd_10 (by decide))).trans (UM23.1 _ (g_ne kd_40 kd_9 (by decide)))))))).trans hbL21_128_183) (((UM33.1 _ (g_ne kd_75 kd_14 (by decide))).trans ((UM31.1 _ (g_ne kd_75 kd_13 (by decide))).trans ((UM29.1 _ (g_ne kd_75 kd_12 (by decide))).trans ((UM27.1 _ (g_ne kd_75 kd_11 (by decide))).trans ((UM25.1 _ (g_ne kd_75 kd_10 (by decide))).trans (UM23.1 _ (g_ne kd_75 kd_9 (by decide)))))))).trans hbL21_128_184) (((UM33.1 _ (g_ne kd_256 kd_14 (by decide))).trans ((UM31.1 _ (g_ne kd_256 kd_13 (by decide))).trans ((UM29.1 _ (g_ne kd_256 kd_12 (by decide))).trans ((UM27.1 _ (g_ne kd_256 kd_11 (by decide))).trans ((UM25.1 _ (g_ne kd_256 kd_10 (by decide))).trans (UM23.1 _ (g_ne kd_256 kd_9 (by decide)))))))).trans hbL21_128_185) (((UM33.1 _ (g_ne kd_41 kd_14 (by decide))).trans ((UM31.1 _ (g_ne kd_41 kd_13 (by decide))).trans ((UM29.1 _ (g_ne kd_41 kd_12 (by decide))).trans ((UM27.1 _ (g_ne kd_41 kd_11 (by decide))).trans ((UM25.1 _ (g_ne kd_41 kd_10 (by decide))).trans (UM23.1 _ (g_ne kd_41 kd_9 (by decide)))))))).trans hbL21_128_186) (((UM33.1 _ (g_ne kd_76 kd_14 (by decide))).trans ((UM31.1 _ (g_ne kd_76 kd_13 (by decide))).trans ((UM29.1 _ (g_ne kd_76 kd_12 (by decide))).trans ((UM27.1 _ (g_ne kd_76 kd_11 (by decide))).trans ((UM25.1 _ (g_ne kd_76 kd_10 (by decide))).trans (UM23.1 _ (g_ne kd_76 kd_9 (by decide)))))))).trans hbL21_128_187) (((UM33.1 _ (g_ne kd_257 kd_14 (by decide))).trans ((UM31.1 _ (g_ne kd_257 kd_13 (by decide))).trans ((UM29.1 _ (g_ne kd_257 kd_12 (by decide))).trans ((UM27.1 _ (g_ne kd_257 kd_11 (by decide))).trans ((UM25.1 _ (g_ne kd_257 kd_10 (by decide))).trans (UM23.1 _ (g_ne kd_257 kd_9 (by decide)))))))).trans hbL21_128_188) (fun j hj => by rw [((UM33.1 _ (g_ne kd_5 kd_14 (by decide))).trans ((UM31.1 _ (g_ne kd_5 kd_13 (by decide))).trans ((UM29.1 _ (g_ne kd_5 kd_12 (by decide))).trans ((UM27.1 _ (g_ne kd_5 kd_11 (by decide))).trans ((UM25.1 _ (g_ne kd_5 kd_10 (by decide))).trans (UM23.1 _ (g_ne kd_5 kd_9 (by decide))))))))]; exact hbL21_128_189 j hj) rfl)
          omega
      exact PW.lvS (lk1 rfl (lk1 rfl (lk1 rfl lk0))) (L21_128_18 _ ML21_66_13 c17 IML21_66_13 FML21_66_13 (by omega) (by omega) hbL21_66_132 hbL21_66_133 hbL21_66_134 hbL21_66_135 hbL21_66_136 hbL21_66_137 hbL21_66_138 (fun j hj => hbL21_66_139 j (by omega)) rfl)
    · skip
      refine PW.aload_n q_21_72 rfl ?_
      refine PW.gR 5 q_21_73 (Or.inl t_ft_21_9) gF_4_8 kd_4 IML21_66_13.1 (by decide) rfl ?_
      refine PW.iload_n q_21_76 rfl ?_
      refine PW.aload_n q_21_77 rfl ?_
      refine PW.gR 76 q_21_78 (Or.inl t_ft_21_9) gF_4_8 kd_75 IML21_66_13.1 (by decide) rfl ?_
      refine PW.iload_n q_21_81 rfl ?_
      refine PW.aL q_21_82 rfl kd_76 IML21_66_13.1 (by decide) (by omega) (by omega) fun l35 fl35 => ?_
      refine PW.wLX q_21_83 rfl kd_5 Stab0 IML21_66_13 (by decide) rfl (by omega) (by omega) fun M36 IM36 fM36 UM36 => ?_
      have FM36 := Fr.pu FML21_66_13 UM36.1 kd_5 (rfl : List.contains [4, 27, 28, 29, 30, 31, 32, 33, 34, 35, 36] 27 = true)
      refine PW.aload_n q_21_84 rfl ?_
      refine PW.gR 6 q_21_85 (Or.inl t_ft_21_15) gF_4_9 kd_4 IM36.1 (by decide) rfl ?_
      refine PW.iload_n q_21_88 rfl ?_
      refine PW.aload_n q_21_89 rfl ?_
      refine PW.gR 77 q_21_90 (Or.inl t_ft_21_15) gF_4_9 kd_75 IM36.1 (by decide) rfl ?_
      refine PW.iload_n q_21_93 rfl ?_
      refine PW.aH q_21_94 gA_28 kd_77 IM36.1 (by decide) (by omega) (by omega) fun x37 fx37 => ?_
      refine PW.wI q_21_95 gA_28 kd_6 Stab0 IM36 (by decide) rfl gC_28_0_5 (by decide) (by omega) (by omega) (n_lo _) (n_hi _) fun M38 IM38 fM38 UM38 => ?_
      have FM38 := Fr.pu FM36 UM38.1 kd_6 (rfl : List.contains [4, 27, 28, 29, 30, 31, 32, 33, 34, 35, 36] 28 = true)
      refine PW.aload_n q_21_96 rfl ?_
      refine PW.gR 7 q_21_97 (Or.inl t_ft_21_19) gF_4_10 kd_4 IM38.1 (by decide) rfl ?_
      refine PW.iload_n q_21_100 rfl ?_
      refine PW.aload_n q_21_101 rfl ?_
      refine PW.gR 78 q_21_102 (Or.inl t_ft_21_19) gF_4_10 kd_75 IM38.1 (by decide) rfl ?_
      refine PW.iload_n q_21_105 rfl ?_
      refine PW.aH q_21_106 gA_29 kd_78 IM38.1 (by decide) (by omega) (by omega) fun x39 fx39 => ?_
      refine PW.wI q_21_107 gA_29 kd_7 Stab0 IM38 (by decide) rfl gC_29_0_5 (by decide) (by omega) (by omega) (n_lo _) (n_hi _) fun M40 IM40 fM40 UM40 => ?_
      have FM40 := Fr.pu FM38 UM40.1 kd_7 (rfl : List.contains [4, 27, 28, 29, 30, 31, 32, 33, 34, 35, 36] 29 = true)
      refine PW.aload_n q_21_108 rfl ?_
      refine PW.gR 8 q_21_109 (Or.inl t_ft_21_22) gF_4_11 kd_4 IM40.1 (by decide) rfl ?_
      refine PW.iload_n q_21_112 rfl ?_
      refine PW.aload_n q_21_113 rfl ?_
      refine PW.gR 79 q_21_114 (Or.inl t_ft_21_22) gF_4_11 kd_75 IM40.1 (by decide) rfl ?_
      refine PW.iload_n q_21_117 rfl ?_
      refine PW.aZ q_21_118 gA_30 kd_79 IM40.1 (by decide) gB_30_0_5 (by omega) (by omega) fun x41 fx41 hx41 kx41 => ?_
      refine PW.wZ q_21_119 gA_30 kd_8 Stab0 IM40 (by decide) rfl gC_30_0_5 (by omega) (by omega) (by omega) (by omega) fun M42 IM42 fM42 UM42 => ?_
      have FM42 := Fr.pu FM40 UM42.1 kd_8 (rfl : List.contains [4, 27, 28, 29, 30, 31, 32, 33, 34, 35, 36] 30 = true)
      refine PW.incN q_21_120 rfl (by decide) (by decide) (by omega) (by omega) fun x43 hx43 => ?_
      refine PW.goto q_21_123 rfl ?_
      refine PW.lvS (lk1 rfl (lk1 rfl (lk1 rfl lk0))) (ih_L21_66_13 _ ?_ M42 x43 IM42 FM42 (by omega) (by omega) (by rw [((UM42.1 _ (g_ne kd_4 kd_8 (by decide))).trans ((UM40.1 _ (g_ne kd_4 kd_7 (by decide))).trans ((UM38.1 _ (g_ne kd_4 kd_6 (by decide))).trans (UM36.1 _ (g_ne kd_4 kd_5 (by decide))))))]; exact hbL21_66_132) (((UM42.1 _ (g_ne kd_40 kd_8 (by decide))).trans ((UM40.1 _ (g_ne kd_40 kd_7 (by decide))).trans ((UM38.1 _ (g_ne kd_40 kd_6 (by decide))).trans (UM36.1 _ (g_ne kd_40 kd_5 (by decide)))))).trans hbL21_66_133) (((UM42.1 _ (g_ne kd_75 kd_8 (by decide))).trans ((UM40.1 _ (g_ne kd_75 kd_7 (by decide))).trans ((UM38.1 _ (g_ne kd_75 kd_6 (by decide))).trans (UM36.1 _ (g_ne kd_75 kd_5 (by decide)))))).trans hbL21_66_134) (((UM42.1 _ (g_ne kd_256 kd_8 (by decide))).trans ((UM40.1 _ (g_ne kd_256 kd_7 (by decide))).trans ((UM38.1 _ (g_ne kd_256 kd_6 (by decide))).trans (UM36.1 _ (g_ne kd_256 kd_5 (by decide)))))).trans hbL21_66_135) (((UM42.1 _ (g_ne kd_41 kd_8 (by decide))).trans ((UM40.1 _ (g_ne kd_41 kd_7 (by decide))).trans ((UM38.1 _ (g_ne kd_41 kd_6 (by decide))).trans (UM36.1 _ (by decide))))).trans hbL21_66_136) (((UM42.1 _ (g_ne kd_76 kd_8 (by decide))).trans ((UM40.1 _ (g_ne kd_76 kd_7 (by decide))).trans ((UM38.1 _ (g_ne kd_76 kd_6 (by decide))).trans (UM36.1 _ (by decide))))).trans hbL21_66_137) (((UM42.1 _ (g_ne kd_257 kd_8 (by decide))).trans ((UM40.1 _ (g_ne kd_257 kd_7 (by decide))).trans ((UM38.1 _ (g_ne kd_257 kd_6 (by decide))).trans (UM36.1 _ (by decide))))).trans hbL21_66_138) (fun j hj => by by_cases q : j = v14.toInt.toNat; (· subst q; rw [((congrArg (fun e => o_l e v14.toInt.toNat) (UM42.1 5 (by decide))).trans ((congrArg (fun e => o_l e v14.toInt.toNat) (UM40.1 5 (by decide))).trans (congrArg (fun e => o_l e v14.toInt.toNat) (UM38.1 5 (by decide)))))]; rw [fM36, ← fl35, hbL21_66_137]); (· rw [((congrArg (fun e => o_l e j) (UM42.1 5 (by decide))).trans ((congrArg (fun e => o_l e j) (UM40.1 5 (by decide))).trans (congrArg (fun e => o_l e j) (UM38.1 5 (by decide)))))]; rw [UM36.2 j q]; exact hbL21_66_139 j (by omega))) rfl)
      omega
  exact PW.lvS (lk1 rfl (lk1 rfl (lk1 rfl lk0))) (L21_66_13 _ M11 c12 IM11 FM11 (by omega) (by omega) ⟨(by have w := (o_i_of ((UM11.f (Or.inr (by decide))).trans ((UM10.f (Or.inr (by decide))).trans ((UM9.f (Or.inr (by decide))).trans ((UM7.f (Or.inr (by decide))).trans ((UM5.f (Or.inr (by decide))).trans ((UM4.f (Or.inr (by decide))).trans fM3))))))); omega), (by have w := (o_i_of ((UM11.f (Or.inr (by decide))).trans ((UM10.f (Or.inr (by decide))).trans ((UM9.f (Or.inr (by decide))).trans ((UM7.f (Or.inr (by decide))).trans ((UM5.f (Or.inr (by decide))).trans fM4)))))); omega), (by have w := (o_i_of ((UM11.f (Or.inr (by decide))).trans ((UM10.f (Or.inr (by decide))).trans ((UM9.f (Or.inr (by decide))).trans ((UM7.f (Or.inr (by decide))).trans fM5))))); omega), (by have w := (o_i_of ((UM11.f (Or.inr (by decide))).trans fM10)); omega), (by have w := (o_i_of fM11); omega)⟩ ((UM11.1 _ (by decide)).trans ((UM10.1 _ (by decide)).trans ((UM9.1 _ (by decide)).trans ((UM7.1 _ (by decide)).trans ((UM5.1 _ (by decide)).trans ((UM4.1 _ (by decide)).trans ((UM3.1 _ (by decide)).trans (UM2.1 _ (by decide))))))))) ((UM11.1 _ (by decide)).trans ((UM10.1 _ (by decide)).trans ((UM9.1 _ (by decide)).trans ((UM7.1 _ (by decide)).trans ((UM5.1 _ (by decide)).trans ((UM4.1 _ (by decide)).trans ((UM3.1 _ (by decide)).trans (UM2.1 _ (by decide))))))))) ((UM11.1 _ (by decide)).trans ((UM10.1 _ (by decide)).trans ((UM9.1 _ (by decide)).trans ((UM7.1 _ (by decide)).trans ((UM5.1 _ (by decide)).trans ((UM4.1 _ (by decide)).trans ((UM3.1 _ (by decide)).trans (UM2.1 _ (by decide))))))))) ((UM11.1 _ (g_ne kd_41 kd_4 (by decide))).trans ((UM10.1 _ (g_ne kd_41 kd_4 (by decide))).trans ((UM9.1 _ (g_ne kd_41 kd_4 (by decide))).trans ((UM7.1 _ (g_ne kd_41 kd_4 (by decide))).trans ((UM5.1 _ (g_ne kd_41 kd_4 (by decide))).trans ((UM4.1 _ (g_ne kd_41 kd_4 (by decide))).trans ((UM3.1 _ (g_ne kd_41 kd_4 (by decide))).trans (UM2.1 _ (g_ne kd_41 kd_4 (by decide)))))))))) ((UM11.1 _ (g_ne kd_76 kd_4 (by decide))).trans ((UM10.1 _ (g_ne kd_76 kd_4 (by decide))).trans ((UM9.1 _ (g_ne kd_76 kd_4 (by decide))).trans ((UM7.1 _ (g_ne kd_76 kd_4 (by decide))).trans ((UM5.1 _ (g_ne kd_76 kd_4 (by decide))).trans ((UM4.1 _ (g_ne kd_76 kd_4 (by decide))).trans ((UM3.1 _ (g_ne kd_76 kd_4 (by decide))).trans (UM2.1 _ (g_ne kd_76 kd_4 (by decide)))))))))) ((UM11.1 _ (g_ne kd_257 kd_4 (by decide))).trans ((UM10.1 _ (g_ne kd_257 kd_4 (by decide))).trans ((UM9.1 _ (g_ne kd_257 kd_4 (by decide))).trans ((UM7.1 _ (g_ne kd_257 kd_4 (by decide))).trans ((UM5.1 _ (g_ne kd_257 kd_4 (by decide))).trans ((UM4.1 _ (g_ne kd_257 kd_4 (by decide))).trans ((UM3.1 _ (g_ne kd_257 kd_4 (by decide))).trans (UM2.1 _ (g_ne kd_257 kd_4 (by decide)))))))))) (fun j hj => by omega) rfl)
theorem c_X10_copyFrom_vk39_3 (G : pG) (Kr : pK) (M : pM) (I : Iv gTT M)  (hK : ∀ (M1 : pM), Iv gTT M1 → Fr [4, 5, 7, 9, 10, 11, 12, 13, 14, 15, 16, 17, 27, 28, 29, 30, 31, 32, 33, 34, 35, 36] M M1 → (g5f (M1 40) (M 4) ∧ M1 4 = M 4 ∧ M1 75 = M 75 ∧ M1 5 = M 5 ∧ M1 76 = M 76 ∧ ∀ j : Nat, j < 6 → o_l (M1 41) j = o_l (M 5) j) → Kr.1 none 311 M1) : PW G false 4 98 (p_mc 98) (p_msl 98) Kr 0 (lv_args 0 [.ref 39, .ref 3]) [] 311 M 0 0 := by
  have F : Fr [4, 5, 7, 9, 10, 11, 12, 13, 14, 15, 16, 17, 27, 28, 29, 30, 31, 32, 33, 34, 35, 36] M M := Fr.refl
  refine PW.aload_n q_98_0 rfl ?_
  refine PW.gR 40 q_98_1 (Or.inl t_ft_98_10) gF_3_0 kd_39 I.1 (by decide) rfl ?_
  refine PW.aload_n q_98_4 rfl ?_
  refine PW.gR 4 q_98_5 (Or.inl t_ft_98_10) gF_3_0 kd_3 I.1 (by decide) rfl ?_
  refine PW.cV (as := [_]) (rest := []) q_98_8 t_mv_98_30 kd_40 I.1 (by decide) rfl (by decide) rfl rfl (Nat.le_of_ble_eq_true rfl) (Nat.le_of_ble_eq_true rfl) (by decide) (by decide) ?_
  refine PW.up (by decide) (c_X3_copyFrom_vk40_4 G _ M I  fun M1 IM1 GM1 PM1 => ?_)
  have FM1 := Fr.trans F GM1 (rfl)
  rcases PM1 with ⟨PvM1, Pe4M1, Pe75M1, Pe256M1, Pe5M1, Pe76M1, Pe257M1, PmM1⟩
  refine PW.aload_n q_98_11 rfl ?_
  refine PW.gR 51 q_98_12 (Or.inl t_ft_98_19) gF_3_1 kd_39 IM1.1 (by decide) rfl ?_
  refine PW.aload_n q_98_15 rfl ?_
  refine PW.gR 15 q_98_16 (Or.inl t_ft_98_19) gF_3_1 kd_3 IM1.1 (by decide) rfl ?_
  refine PW.cV (as := [_]) (rest := []) q_98_19 t_mv_98_34 kd_51 IM1.1 (by decide) rfl (by decide) rfl rfl (Nat.le_of_ble_eq_true rfl) (Nat.le_of_ble_eq_true rfl) (by decide) (by decide) ?_
  refine PW.up (by decide) (c_X5_copyFrom G _ M1 IM1 51 kd_51 15 kd_15 fun M2 IM2 GM2 => ?_)
  have FM2 := Fr.trans FM1 GM2 (rfl)
  refine PW.aload_n q_98_22 rfl ?_
  refine PW.gR 69 q_98_23 (Or.inl t_ft_98_26) gF_3_2 kd_39 IM2.1 (by decide) rfl ?_
  refine PW.aload_n q_98_26 rfl ?_
  refine PW.gR 33 q_98_27 (Or.inl t_ft_98_26) gF_3_2 kd_3 IM2.1 (by decide) rfl ?_
  refine PW.cV (as := [_]) (rest := []) q_98_30 t_mv_98_37 kd_69 IM2.1 (by decide) rfl (by decide) rfl rfl (Nat.le_of_ble_eq_true rfl) (Nat.le_of_ble_eq_true rfl) (by decide) (by decide) ?_
  refine PW.up (by decide) (c_X4_copyFrom (gTT) (Stab0) G _ M2 IM2 69 kd_69 33 kd_33 fun M3 IM3 GM3 => ?_)
  have FM3 := Fr.trans FM2 GM3 (rfl)
  refine PW.vret q_98_33 rfl (by decide) (by decide) ?_
  exact hK M3 IM3 FM3 ⟨(by rw [((Fr.at GM3 kd_40 (by decide)).trans (Fr.at GM2 kd_40 (by decide)))]; exact PvM1), ((Fr.at GM3 kd_4 (by decide)).trans ((Fr.at GM2 kd_4 (by decide)).trans Pe4M1)), ((Fr.at GM3 kd_75 (by decide)).trans ((Fr.at GM2 kd_75 (by decide)).trans Pe75M1)), ((Fr.at GM3 kd_5 (by decide)).trans ((Fr.at GM2 kd_5 (by decide)).trans Pe5M1)), ((Fr.at GM3 kd_76 (by decide)).trans ((Fr.at GM2 kd_76 (by decide)).trans Pe76M1)), (fun j hj => by rw [((Fr.at GM3 kd_41 (by decide)).trans (Fr.at GM2 kd_41 (by decide)))]; exact PmM1 j hj)⟩
theorem c_X10_copyFrom_vk74_3 (G : pG) (Kr : pK) (M : pM) (I : Iv gTT M)  (hK : ∀ (M1 : pM), Iv gTT M1 → Fr [4, 5, 7, 9, 10, 11, 12, 13, 14, 15, 16, 17, 27, 28, 29, 30, 31, 32, 33, 34, 35, 36] M M1 → (g5f (M1 75) (M 4) ∧ M1 4 = M 4 ∧ M1 40 = M 40 ∧ M1 5 = M 5 ∧ M1 41 = M 41 ∧ ∀ j : Nat, j < 6 → o_l (M1 76) j = o_l (M 5) j) → Kr.1 none 311 M1) : PW G false 4 98 (p_mc 98) (p_msl 98) Kr 0 (lv_args 0 [.ref 74, .ref 3]) [] 311 M 0 0 := by
  have F : Fr [4, 5, 7, 9, 10, 11, 12, 13, 14, 15, 16, 17, 27, 28, 29, 30, 31, 32, 33, 34, 35, 36] M M := Fr.refl
  refine PW.aload_n q_98_0 rfl ?_
  refine PW.gR 75 q_98_1 (Or.inl t_ft_98_10) gF_3_0 kd_74 I.1 (by decide) rfl ?_
  refine PW.aload_n q_98_4 rfl ?_
  refine PW.gR 4 q_98_5 (Or.inl t_ft_98_10) gF_3_0 kd_3 I.1 (by decide) rfl ?_
  refine PW.cV (as := [_]) (rest := []) q_98_8 t_mv_98_30 kd_75 I.1 (by decide) rfl (by decide) rfl rfl (Nat.le_of_ble_eq_true rfl) (Nat.le_of_ble_eq_true rfl) (by decide) (by decide) ?_
  refine PW.up (by decide) (c_X3_copyFrom_vk75_4 G _ M I  fun M1 IM1 GM1 PM1 => ?_)
  have FM1 := Fr.trans F GM1 (rfl)
  rcases PM1 with ⟨PvM1, Pe4M1, Pe40M1, Pe256M1, Pe5M1, Pe41M1, Pe257M1, PmM1⟩
  refine PW.aload_n q_98_11 rfl ?_
  refine PW.gR 86 q_98_12 (Or.inl t_ft_98_19) gF_3_1 kd_74 IM1.1 (by decide) rfl ?_
  refine PW.aload_n q_98_15 rfl ?_
  refine PW.gR 15 q_98_16 (Or.inl t_ft_98_19) gF_3_1 kd_3 IM1.1 (by decide) rfl ?_
  refine PW.cV (as := [_]) (rest := []) q_98_19 t_mv_98_34 kd_86 IM1.1 (by decide) rfl (by decide) rfl rfl (Nat.le_of_ble_eq_true rfl) (Nat.le_of_ble_eq_true rfl) (by decide) (by decide) ?_
  refine PW.up (by decide) (c_X5_copyFrom G _ M1 IM1 86 kd_86 15 kd_15 fun M2 IM2 GM2 => ?_)
  have FM2 := Fr.trans FM1 GM2 (rfl)
  refine PW.aload_n q_98_22 rfl ?_
  refine PW.gR 104 q_98_23 (Or.inl t_ft_98_26) gF_3_2 kd_74 IM2.1 (by decide) rfl ?_
  refine PW.aload_n q_98_26 rfl ?_
  refine PW.gR 33 q_98_27 (Or.inl t_ft_98_26) gF_3_2 kd_3 IM2.1 (by decide) rfl ?_
  refine PW.cV (as := [_]) (rest := []) q_98_30 t_mv_98_37 kd_104 IM2.1 (by decide) rfl (by decide) rfl rfl (Nat.le_of_ble_eq_true rfl) (Nat.le_of_ble_eq_true rfl) (by decide) (by decide) ?_
  refine PW.up (by decide) (c_X4_copyFrom (gTT) (Stab0) G _ M2 IM2 104 kd_104 33 kd_33 fun M3 IM3 GM3 => ?_)
  have FM3 := Fr.trans FM2 GM3 (rfl)
  refine PW.vret q_98_33 rfl (by decide) (by decide) ?_
  exact hK M3 IM3 FM3 ⟨(by rw [((Fr.at GM3 kd_75 (by decide)).trans (Fr.at GM2 kd_75 (by decide)))]; exact PvM1), ((Fr.at GM3 kd_4 (by decide)).trans ((Fr.at GM2 kd_4 (by decide)).trans Pe4M1)), ((Fr.at GM3 kd_40 (by decide)).trans ((Fr.at GM2 kd_40 (by decide)).trans Pe40M1)), ((Fr.at GM3 kd_5 (by decide)).trans ((Fr.at GM2 kd_5 (by decide)).trans Pe5M1)), ((Fr.at GM3 kd_41 (by decide)).trans ((Fr.at GM2 kd_41 (by decide)).trans Pe41M1)), (fun j hj => by rw [((Fr.at GM3 kd_76 (by decide)).trans (Fr.at GM2 kd_76 (by decide)))]; exact PmM1 j hj)⟩
theorem c_X10_copyFrom_vk3_39 (G : pG) (Kr : pK) (M : pM) (I : Iv gTT M)  (hK : ∀ (M1 : pM), Iv gTT M1 → Fr [4, 5, 7, 9, 10, 11, 12, 13, 14, 15, 16, 17, 27, 28, 29, 30, 31, 32, 33, 34, 35, 36] M M1 → (g5f (M1 4) (M 40) ∧ M1 40 = M 40 ∧ M1 75 = M 75 ∧ M1 41 = M 41 ∧ M1 76 = M 76 ∧ ∀ j : Nat, j < 6 → o_l (M1 5) j = o_l (M 41) j) → Kr.1 none 311 M1) : PW G false 4 98 (p_mc 98) (p_msl 98) Kr 0 (lv_args 0 [.ref 3, .ref 39]) [] 311 M 0 0 := by
  have F : Fr [4, 5, 7, 9, 10, 11, 12, 13, 14, 15, 16, 17, 27, 28, 29, 30, 31, 32, 33, 34, 35, 36] M M := Fr.refl
  refine PW.aload_n q_98_0 rfl ?_
  refine PW.gR 4 q_98_1 (Or.inl t_ft_98_10) gF_3_0 kd_3 I.1 (by decide) rfl ?_
  refine PW.aload_n q_98_4 rfl ?_
  refine PW.gR 40 q_98_5 (Or.inl t_ft_98_10) gF_3_0 kd_39 I.1 (by decide) rfl ?_
  refine PW.cV (as := [_]) (rest := []) q_98_8 t_mv_98_30 kd_4 I.1 (by decide) rfl (by decide) rfl rfl (Nat.le_of_ble_eq_true rfl) (Nat.le_of_ble_eq_true rfl) (by decide) (by decide) ?_
  refine PW.up (by decide) (c_X3_copyFrom_vk4_40 G _ M I  fun M1 IM1 GM1 PM1 => ?_)
  have FM1 := Fr.trans F GM1 (rfl)
  rcases PM1 with ⟨PvM1, Pe40M1, Pe75M1, Pe256M1, Pe41M1, Pe76M1, Pe257M1, PmM1⟩
  refine PW.aload_n q_98_11 rfl ?_
  refine PW.gR 15 q_98_12 (Or.inl t_ft_98_19) gF_3_1 kd_3 IM1.1 (by decide) rfl ?_
  refine PW.aload_n q_98_15 rfl ?_
  refine PW.gR 51 q_98_16 (Or.inl t_ft_98_19) gF_3_1 kd_39 IM1.1 (by decide) rfl ?_
  refine PW.cV (as := [_]) (rest := []) q_98_19 t_mv_98_34 kd_15 IM1.1 (by decide) rfl (by decide) rfl rfl (Nat.le_of_ble_eq_true rfl) (Nat.le_of_ble_eq_true rfl) (by decide) (by decide) ?_
  refine PW.up (by decide) (c_X5_copyFrom G _ M1 IM1 15 kd_15 51 kd_51 fun M2 IM2 GM2 => ?_)
  have FM2 := Fr.trans FM1 GM2 (rfl)
  refine PW.aload_n q_98_22 rfl ?_
  refine PW.gR 33 q_98_23 (Or.inl t_ft_98_26) gF_3_2 kd_3 IM2.1 (by decide) rfl ?_
  refine PW.aload_n q_98_26 rfl ?_
  refine PW.gR 69 q_98_27 (Or.inl t_ft_98_26) gF_3_2 kd_39 IM2.1 (by decide) rfl ?_
  refine PW.cV (as := [_]) (rest := []) q_98_30 t_mv_98_37 kd_33 IM2.1 (by decide) rfl (by decide) rfl rfl (Nat.le_of_ble_eq_true rfl) (Nat.le_of_ble_eq_true rfl) (by decide) (by decide) ?_
  refine PW.up (by decide) (c_X4_copyFrom (gTT) (Stab0) G _ M2 IM2 33 kd_33 69 kd_69 fun M3 IM3 GM3 => ?_)
  have FM3 := Fr.trans FM2 GM3 (rfl)
  refine PW.vret q_98_33 rfl (by decide) (by decide) ?_
  exact hK M3 IM3 FM3 ⟨(by rw [((Fr.at GM3 kd_4 (by decide)).trans (Fr.at GM2 kd_4 (by decide)))]; exact PvM1), ((Fr.at GM3 kd_40 (by decide)).trans ((Fr.at GM2 kd_40 (by decide)).trans Pe40M1)), ((Fr.at GM3 kd_75 (by decide)).trans ((Fr.at GM2 kd_75 (by decide)).trans Pe75M1)), ((Fr.at GM3 kd_41 (by decide)).trans ((Fr.at GM2 kd_41 (by decide)).trans Pe41M1)), ((Fr.at GM3 kd_76 (by decide)).trans ((Fr.at GM2 kd_76 (by decide)).trans Pe76M1)), (fun j hj => by rw [((Fr.at GM3 kd_5 (by decide)).trans (Fr.at GM2 kd_5 (by decide)))]; exact PmM1 j hj)⟩
theorem c_X10_copyFrom_vk3_74 (G : pG) (Kr : pK) (M : pM) (I : Iv gTT M)  (hK : ∀ (M1 : pM), Iv gTT M1 → Fr [4, 5, 7, 9, 10, 11, 12, 13, 14, 15, 16, 17, 27, 28, 29, 30, 31, 32, 33, 34, 35, 36] M M1 → (g5f (M1 4) (M 75) ∧ M1 40 = M 40 ∧ M1 75 = M 75 ∧ M1 41 = M 41 ∧ M1 76 = M 76 ∧ ∀ j : Nat, j < 6 → o_l (M1 5) j = o_l (M 76) j) → Kr.1 none 311 M1) : PW G false 4 98 (p_mc 98) (p_msl 98) Kr 0 (lv_args 0 [.ref 3, .ref 74]) [] 311 M 0 0 := by
  have F : Fr [4, 5, 7, 9, 10, 11, 12, 13, 14, 15, 16, 17, 27, 28, 29, 30, 31, 32, 33, 34, 35, 36] M M := Fr.refl
  refine PW.aload_n q_98_0 rfl ?_
  refine PW.gR 4 q_98_1 (Or.inl t_ft_98_10) gF_3_0 kd_3 I.1 (by decide) rfl ?_
  refine PW.aload_n q_98_4 rfl ?_
  refine PW.gR 75 q_98_5 (Or.inl t_ft_98_10) gF_3_0 kd_74 I.1 (by decide) rfl ?_
  refine PW.cV (as := [_]) (rest := []) q_98_8 t_mv_98_30 kd_4 I.1 (by decide) rfl (by decide) rfl rfl (Nat.le_of_ble_eq_true rfl) (Nat.le_of_ble_eq_true rfl) (by decide) (by decide) ?_
  refine PW.up (by decide) (c_X3_copyFrom_vk4_75 G _ M I  fun M1 IM1 GM1 PM1 => ?_)
  have FM1 := Fr.trans F GM1 (rfl)
  rcases PM1 with ⟨PvM1, Pe40M1, Pe75M1, Pe256M1, Pe41M1, Pe76M1, Pe257M1, PmM1⟩
  refine PW.aload_n q_98_11 rfl ?_
  refine PW.gR 15 q_98_12 (Or.inl t_ft_98_19) gF_3_1 kd_3 IM1.1 (by decide) rfl ?_
  refine PW.aload_n q_98_15 rfl ?_
  refine PW.gR 86 q_98_16 (Or.inl t_ft_98_19) gF_3_1 kd_74 IM1.1 (by decide) rfl ?_
  refine PW.cV (as := [_]) (rest := []) q_98_19 t_mv_98_34 kd_15 IM1.1 (by decide) rfl (by decide) rfl rfl (Nat.le_of_ble_eq_true rfl) (Nat.le_of_ble_eq_true rfl) (by decide) (by decide) ?_
  refine PW.up (by decide) (c_X5_copyFrom G _ M1 IM1 15 kd_15 86 kd_86 fun M2 IM2 GM2 => ?_)
  have FM2 := Fr.trans FM1 GM2 (rfl)
  refine PW.aload_n q_98_22 rfl ?_
  refine PW.gR 33 q_98_23 (Or.inl t_ft_98_26) gF_3_2 kd_3 IM2.1 (by decide) rfl ?_
  refine PW.aload_n q_98_26 rfl ?_
  refine PW.gR 104 q_98_27 (Or.inl t_ft_98_26) gF_3_2 kd_74 IM2.1 (by decide) rfl ?_
  refine PW.cV (as := [_]) (rest := []) q_98_30 t_mv_98_37 kd_33 IM2.1 (by decide) rfl (by decide) rfl rfl (Nat.le_of_ble_eq_true rfl) (Nat.le_of_ble_eq_true rfl) (by decide) (by decide) ?_
  refine PW.up (by decide) (c_X4_copyFrom (gTT) (Stab0) G _ M2 IM2 33 kd_33 104 kd_104 fun M3 IM3 GM3 => ?_)
  have FM3 := Fr.trans FM2 GM3 (rfl)
  refine PW.vret q_98_33 rfl (by decide) (by decide) ?_
  exact hK M3 IM3 FM3 ⟨(by rw [((Fr.at GM3 kd_4 (by decide)).trans (Fr.at GM2 kd_4 (by decide)))]; exact PvM1), ((Fr.at GM3 kd_40 (by decide)).trans ((Fr.at GM2 kd_40 (by decide)).trans Pe40M1)), ((Fr.at GM3 kd_75 (by decide)).trans ((Fr.at GM2 kd_75 (by decide)).trans Pe75M1)), ((Fr.at GM3 kd_41 (by decide)).trans ((Fr.at GM2 kd_41 (by decide)).trans Pe41M1)), ((Fr.at GM3 kd_76 (by decide)).trans ((Fr.at GM2 kd_76 (by decide)).trans Pe76M1)), (fun j hj => by rw [((Fr.at GM3 kd_5 (by decide)).trans (Fr.at GM2 kd_5 (by decide)))]; exact PmM1 j hj)⟩
theorem c_X11_image_vk (G : pG) (Kr : pK) (M : pM) (I : Iv gTT M) (a1 : Int32) (hK : ∀ (x : Int32) (M1 : pM), Iv gTT M1 → Fr [4, 5, 7, 9, 10, 11, 12, 13, 14, 15, 16, 17, 20, 27, 28, 29, 30, 31, 32, 33, 34, 35, 36] M M1 → 0 ≤ x.toInt → x.toInt ≤ 1 → (gIC M M1 a1.toInt x.toInt ∧ gIN M M1 a1.toInt) → Kr.1 (some (.int x)) 311 M1) : PW G false 5 125 (p_mc 125) (p_msl 125) Kr 0 (lv_args 0 [.ref 0, .int a1]) [] 311 M 0 0 := by
  have F : Fr [4, 5, 7, 9, 10, 11, 12, 13, 14, 15, 16, 17, 20, 27, 28, 29, 30, 31, 32, 33, 34, 35, 36] M M := Fr.refl
  refine PW.iload_n q_125_0 rfl ?_
  refine PW.jz_lt q_125_1 rfl (fun h1 => ?_) (fun h1 => ?_)
  · skip
    refine PW.cI q_125_9 (by decide) fun c2 hc2 => ?_
    refine PW.rZ q_125_10 rfl (by omega) (by omega) (by decide) (by decide) ?_
    exact hK c2 M I F (by omega) (by omega) ⟨(Or.inl ⟨by omega, by omega, rfl, rfl, rfl, rfl⟩), rfl, Or.inl ⟨by omega, rfl, rfl⟩⟩
  · skip
    refine PW.iload_n q_125_4 rfl ?_
    refine PW.cI q_125_5 (by decide) fun c3 hc3 => ?_
    refine PW.jc_lt q_125_6 rfl (fun h4 => ?_) (fun h4 => ?_)
    · skip
      rcases (show a1.toInt = 0 ∨ a1.toInt = 1 by omega) with h5 | h5
      · skip
        refine PW.aload_n q_125_11 rfl ?_
        refine PW.gR 38 q_125_12 (Or.inl t_ft_125_23) gF_0_2 kd_0 I.1 (by decide) rfl ?_
        refine PW.iload_n q_125_15 rfl ?_
        refine PW.aRk q_125_16 rfl (by decide) (by decide) kd_38 I.1 (by decide) (by omega) (by omega) fun b6 hk_b6 e_b6 => ?_
        obtain rfl : b6 = 39 := e_b6.trans (by rw [show a1.toInt.toNat = 0 from by omega]; rfl)
        refine PW.aload_n q_125_17 rfl ?_
        refine PW.gR 3 q_125_18 (Or.inl t_ft_125_19) gF_0_1 kd_0 I.1 (by decide) rfl ?_
        refine PW.cV (as := [_]) (rest := []) q_125_21 t_mv_125_314 kd_39 I.1 (by decide) rfl (by decide) rfl rfl (Nat.le_of_ble_eq_true rfl) (Nat.le_of_ble_eq_true rfl) (by decide) (by decide) ?_
        refine PW.up (by decide) (c_X10_copyFrom_vk39_3 G _ M I  fun M7 IM7 GM7 PM7 => ?_)
        have FM7 := Fr.trans F GM7 (rfl)
        rcases PM7 with ⟨PvM7, Pe4M7, Pe75M7, Pe5M7, Pe76M7, PmM7⟩
        refine PW.aload_n q_125_24 rfl ?_
        refine PW.gR 109 q_125_25 (Or.inl t_ft_125_27) gF_0_3 kd_0 IM7.1 (by decide) rfl ?_
        refine PW.iload_n q_125_28 rfl ?_
        refine PW.cI q_125_29 (by decide) fun c8 hc8 => ?_
        refine PW.wZ q_125_30 gA_20 kd_109 Stab0 IM7 (by decide) rfl gC_20_0_1 (by omega) (by omega) (by omega) (by omega) fun M9 IM9 fM9 UM9 => ?_
        have FM9 := Fr.pu FM7 UM9.1 kd_109 (rfl : List.contains [4, 5, 7, 9, 10, 11, 12, 13, 14, 15, 16, 17, 20, 27, 28, 29, 30, 31, 32, 33, 34, 35, 36] 20 = true)
        refine PW.cI q_125_31 (by decide) fun c10 hc10 => ?_
        refine PW.rZ q_125_32 rfl (by omega) (by omega) (by decide) (by decide) ?_
        exact hK c10 M9 IM9 FM9 (by omega) (by omega) ⟨(Or.inr (Or.inl ⟨by omega, by omega, (by have f := fM9; rw [show a1.toInt.toNat = 0 from by omega] at f; rw [f]; omega), (UM9.2 1 (by omega)).trans (congrFun (congrArg o_a (Fr.at GM7 kd_109 (by decide))) 1), (by rw [(UM9.1 40 (by decide))]; exact PvM7), ((UM9.1 4 (by decide)).trans Pe4M7), ((UM9.1 75 (by decide)).trans Pe75M7)⟩)), ((UM9.1 5 (by decide)).trans Pe5M7), Or.inr (Or.inl ⟨by omega, (fun j hj => by rw [(UM9.1 41 (by decide))]; exact PmM7 j hj), ((UM9.1 76 (by decide)).trans Pe76M7)⟩)⟩
      · skip
        refine PW.aload_n q_125_11 rfl ?_
        refine PW.gR 38 q_125_12 (Or.inl t_ft_125_23) gF_0_2 kd_0 I.1 (by decide) rfl ?_
        refine PW.iload_n q_125_15 rfl ?_
        refine PW.aRk q_125_16 rfl (by decide) (by decide) kd_38 I.1 (by decide) (by omega) (by omega) fun b11 hk_b11 e_b11 => ?_
        obtain rfl : b11 = 74 := e_b11.trans (by rw [show a1.toInt.toNat = 1 from by omega]; rfl)
        refine PW.aload_n q_125_17 rfl ?_
        refine PW.gR 3 q_125_18 (Or.inl t_ft_125_19) gF_0_1 kd_0 I.1 (by decide) rfl ?_
        refine PW.cV (as := [_]) (rest := []) q_125_21 t_mv_125_314 kd_74 I.1 (by decide) rfl (by decide) rfl rfl (Nat.le_of_ble_eq_true rfl) (Nat.le_of_ble_eq_true rfl) (by decide) (by decide) ?_
        refine PW.up (by decide) (c_X10_copyFrom_vk74_3 G _ M I  fun M12 IM12 GM12 PM12 => ?_)
        have FM12 := Fr.trans F GM12 (rfl)
        rcases PM12 with ⟨PvM12, Pe4M12, Pe40M12, Pe5M12, Pe41M12, PmM12⟩
        refine PW.aload_n q_125_24 rfl ?_
        refine PW.gR 109 q_125_25 (Or.inl t_ft_125_27) gF_0_3 kd_0 IM12.1 (by decide) rfl ?_
        refine PW.iload_n q_125_28 rfl ?_
        refine PW.cI q_125_29 (by decide) fun c13 hc13 => ?_
        refine PW.wZ q_125_30 gA_20 kd_109 Stab0 IM12 (by decide) rfl gC_20_0_1 (by omega) (by omega) (by omega) (by omega) fun M14 IM14 fM14 UM14 => ?_
        have FM14 := Fr.pu FM12 UM14.1 kd_109 (rfl : List.contains [4, 5, 7, 9, 10, 11, 12, 13, 14, 15, 16, 17, 20, 27, 28, 29, 30, 31, 32, 33, 34, 35, 36] 20 = true)
        refine PW.cI q_125_31 (by decide) fun c15 hc15 => ?_
        refine PW.rZ q_125_32 rfl (by omega) (by omega) (by decide) (by decide) ?_
        exact hK c15 M14 IM14 FM14 (by omega) (by omega) ⟨(Or.inr (Or.inr ⟨by omega, by omega, (by have f := fM14; rw [show a1.toInt.toNat = 1 from by omega] at f; rw [f]; omega), (UM14.2 0 (by omega)).trans (congrFun (congrArg o_a (Fr.at GM12 kd_109 (by decide))) 0), (by rw [(UM14.1 75 (by decide))]; exact PvM12), ((UM14.1 4 (by decide)).trans Pe4M12), ((UM14.1 40 (by decide)).trans Pe40M12)⟩)), ((UM14.1 5 (by decide)).trans Pe5M12), Or.inr (Or.inr ⟨by omega, (fun j hj => by rw [(UM14.1 76 (by decide))]; exact PmM12 j hj), ((UM14.1 41 (by decide)).trans Pe41M12)⟩)⟩
    · skip
      refine PW.cI q_125_9 (by decide) fun c16 hc16 => ?_
      refine PW.rZ q_125_10 rfl (by omega) (by omega) (by decide) (by decide) ?_
      exact hK c16 M I F (by omega) (by omega) ⟨(Or.inl ⟨by omega, by omega, rfl, rfl, rfl, rfl⟩), rfl, Or.inl ⟨by omega, rfl, rfl⟩⟩
theorem c_X11_restore_vk (G : pG) (Kr : pK) (M : pM) (I : Iv gTT M) (a1 : Int32) (hK : ∀ (x : Int32) (M1 : pM), Iv gTT M1 → Fr [4, 5, 7, 9, 10, 11, 12, 13, 14, 15, 16, 17, 21, 27, 28, 29, 30, 31, 32, 33, 34, 35, 36] M M1 → 0 ≤ x.toInt → x.toInt ≤ 1 → (gRC M M1 a1.toInt x.toInt ∧ gRN M M1 a1.toInt x.toInt) → Kr.1 (some (.int x)) 311 M1) : PW G false 5 126 (p_mc 126) (p_msl 126) Kr 0 (lv_args 0 [.ref 0, .int a1]) [] 311 M 0 0 := by
  have F : Fr [4, 5, 7, 9, 10, 11, 12, 13, 14, 15, 16, 17, 21, 27, 28, 29, 30, 31, 32, 33, 34, 35, 36] M M := Fr.refl
  refine PW.iload_n q_126_0 rfl ?_
  refine PW.jz_lt q_126_1 rfl (fun h1 => ?_) (fun h1 => ?_)
  · skip
    refine PW.cI q_126_18 (by decide) fun c2 hc2 => ?_
    refine PW.rZ q_126_19 rfl (by omega) (by omega) (by decide) (by decide) ?_
    exact hK c2 M I F (by omega) (by omega) ⟨(Or.inl ⟨by omega, by omega, rfl, rfl, rfl⟩), rfl, rfl, Or.inl ⟨by omega, rfl⟩⟩
  · skip
    refine PW.iload_n q_126_4 rfl ?_
    refine PW.cI q_126_5 (by decide) fun c3 hc3 => ?_
    refine PW.jc_ge q_126_6 rfl (fun h4 => ?_) (fun h4 => ?_)
    · skip
      refine PW.cI q_126_18 (by decide) fun c5 hc5 => ?_
      refine PW.rZ q_126_19 rfl (by omega) (by omega) (by decide) (by decide) ?_
      exact hK c5 M I F (by omega) (by omega) ⟨(Or.inl ⟨by omega, by omega, rfl, rfl, rfl⟩), rfl, rfl, Or.inl ⟨by omega, rfl⟩⟩
    · skip
      refine PW.aload_n q_126_9 rfl ?_
      refine PW.gR 109 q_126_10 (Or.inl t_ft_126_27) gF_0_3 kd_0 I.1 (by decide) rfl ?_
      refine PW.iload_n q_126_13 rfl ?_
      refine PW.aZ q_126_14 gA_20 kd_109 I.1 (by decide) gB_20_0_1 (by omega) (by omega) fun x6 fx6 hx6 kx6 => ?_
      have tb : (o_a (M 109) a1.toInt.toNat).toInt = x6.toInt := by rw [fx6]
      refine PW.jz_ne q_126_15 rfl (fun h7 => ?_) (fun h7 => ?_)
      · skip
        rcases (show a1.toInt = 0 ∨ a1.toInt = 1 by omega) with h8 | h8
        · skip
          refine PW.aload_n q_126_20 rfl ?_
          refine PW.gR 3 q_126_21 (Or.inl t_ft_126_19) gF_0_1 kd_0 I.1 (by decide) rfl ?_
          refine PW.aload_n q_126_24 rfl ?_
          refine PW.gR 38 q_126_25 (Or.inl t_ft_126_23) gF_0_2 kd_0 I.1 (by decide) rfl ?_
          refine PW.iload_n q_126_28 rfl ?_
          refine PW.aRk q_126_29 rfl (by decide) (by decide) kd_38 I.1 (by decide) (by omega) (by omega) fun b9 hk_b9 e_b9 => ?_
          obtain rfl : b9 = 39 := e_b9.trans (by rw [show a1.toInt.toNat = 0 from by omega]; rfl)
          refine PW.cV (as := [_]) (rest := []) q_126_30 t_mv_126_314 kd_3 I.1 (by decide) rfl (by decide) rfl rfl (Nat.le_of_ble_eq_true rfl) (Nat.le_of_ble_eq_true rfl) (by decide) (by decide) ?_
          refine PW.up (by decide) (c_X10_copyFrom_vk3_39 G _ M I  fun M10 IM10 GM10 PM10 => ?_)
          have FM10 := Fr.trans F GM10 (rfl)
          rcases PM10 with ⟨PvM10, Pe40M10, Pe75M10, Pe41M10, Pe76M10, PmM10⟩
          refine PW.aload_n q_126_33 rfl ?_
          refine PW.gR 110 q_126_34 (Or.inl t_ft_126_34) gF_0_4 kd_0 IM10.1 (by decide) rfl ?_
          refine PW.cV (as := []) (rest := []) q_126_37 t_mv_126_113 kd_110 IM10.1 (by decide) rfl (by decide) rfl rfl (Nat.le_of_ble_eq_true rfl) (Nat.le_of_ble_eq_true rfl) (by decide) (by decide) ?_
          refine PW.up (by decide) (c_X1_forget (gTT) (Stab0) G _ M10 IM10  fun M11 IM11 GM11 => ?_)
          have FM11 := Fr.trans FM10 GM11 (rfl)
          refine PW.cI q_126_40 (by decide) fun c12 hc12 => ?_
          refine PW.rZ q_126_41 rfl (by omega) (by omega) (by decide) (by decide) ?_
          exact hK c12 M11 IM11 FM11 (by omega) (by omega) ⟨(Or.inr (Or.inl ⟨by omega, (by rw [show a1.toInt.toNat = 0 from by omega] at tb; omega), by omega, (by rw [(Fr.at GM11 kd_4 (by decide))]; exact PvM10), ((Fr.at GM11 kd_40 (by decide)).trans Pe40M10), ((Fr.at GM11 kd_75 (by decide)).trans Pe75M10)⟩)), ((Fr.at GM11 kd_41 (by decide)).trans Pe41M10), ((Fr.at GM11 kd_76 (by decide)).trans Pe76M10), Or.inr (Or.inl ⟨by omega, by omega, (fun j hj => by rw [(Fr.at GM11 kd_5 (by decide))]; exact PmM10 j hj)⟩)⟩
        · skip
          refine PW.aload_n q_126_20 rfl ?_
          refine PW.gR 3 q_126_21 (Or.inl t_ft_126_19) gF_0_1 kd_0 I.1 (by decide) rfl ?_
          refine PW.aload_n q_126_24 rfl ?_
          refine PW.gR 38 q_126_25 (Or.inl t_ft_126_23) gF_0_2 kd_0 I.1 (by decide) rfl ?_
          refine PW.iload_n q_126_28 rfl ?_
          refine PW.aRk q_126_29 rfl (by decide) (by decide) kd_38 I.1 (by decide) (by omega) (by omega) fun b13 hk_b13 e_b13 => ?_
          obtain rfl : b13 = 74 := e_b13.trans (by rw [show a1.toInt.toNat = 1 from by omega]; rfl)
          refine PW.cV (as := [_]) (rest := []) q_126_30 t_mv_126_314 kd_3 I.1 (by decide) rfl (by decide) rfl rfl (Nat.le_of_ble_eq_true rfl) (Nat.le_of_ble_eq_true rfl) (by decide) (by decide) ?_
          refine PW.up (by decide) (c_X10_copyFrom_vk3_74 G _ M I  fun M14 IM14 GM14 PM14 => ?_)
          have FM14 := Fr.trans F GM14 (rfl)
          rcases PM14 with ⟨PvM14, Pe40M14, Pe75M14, Pe41M14, Pe76M14, PmM14⟩
          refine PW.aload_n q_126_33 rfl ?_
          refine PW.gR 110 q_126_34 (Or.inl t_ft_126_34) gF_0_4 kd_0 IM14.1 (by decide) rfl ?_
          refine PW.cV (as := []) (rest := []) q_126_37 t_mv_126_113 kd_110 IM14.1 (by decide) rfl (by decide) rfl rfl (Nat.le_of_ble_eq_true rfl) (Nat.le_of_ble_eq_true rfl) (by decide) (by decide) ?_
          refine PW.up (by decide) (c_X1_forget (gTT) (Stab0) G _ M14 IM14  fun M15 IM15 GM15 => ?_)
          have FM15 := Fr.trans FM14 GM15 (rfl)
          refine PW.cI q_126_40 (by decide) fun c16 hc16 => ?_
          refine PW.rZ q_126_41 rfl (by omega) (by omega) (by decide) (by decide) ?_
          exact hK c16 M15 IM15 FM15 (by omega) (by omega) ⟨(Or.inr (Or.inr ⟨by omega, (by rw [show a1.toInt.toNat = 1 from by omega] at tb; omega), by omega, (by rw [(Fr.at GM15 kd_4 (by decide))]; exact PvM14), ((Fr.at GM15 kd_40 (by decide)).trans Pe40M14), ((Fr.at GM15 kd_75 (by decide)).trans Pe75M14)⟩)), ((Fr.at GM15 kd_41 (by decide)).trans Pe41M14), ((Fr.at GM15 kd_76 (by decide)).trans Pe76M14), Or.inr (Or.inr ⟨by omega, by omega, (fun j hj => by rw [(Fr.at GM15 kd_5 (by decide))]; exact PmM14 j hj)⟩)⟩
      · skip
        refine PW.cI q_126_18 (by decide) fun c17 hc17 => ?_
        refine PW.rZ q_126_19 rfl (by omega) (by omega) (by decide) (by decide) ?_
        exact hK c17 M I F (by omega) (by omega) ⟨(Or.inl ⟨by omega, by omega, rfl, rfl, rfl⟩), rfl, rfl, Or.inl ⟨by omega, rfl⟩⟩
theorem c_X11_count_vk (G : pG) (Kr : pK) (M : pM) (I : Iv gTT M) (a1 : Int32) (hK : ∀ (x : Int32) (M1 : pM), Iv gTT M1 → Fr [] M M1 → ((a1.toInt = 0 ∧ x.toInt = o_i (M 4) 6) ∨ (a1.toInt = 1 ∧ x.toInt = o_i (M 4) 7) ∨ (a1.toInt = 2 ∧ x.toInt = o_i (M 4) 1) ∨ (a1.toInt = 3 ∧ x.toInt = o_i (M 4) 2) ∨ (a1.toInt = 4 ∧ x.toInt = o_i (M 4) 3) ∨ (a1.toInt = 5 ∧ x.toInt = o_i (M 1) 1) ∨ ((a1.toInt < 0 ∨ 5 < a1.toInt) ∧ x.toInt = -1)) → Kr.1 (some (.int x)) 311 M1) : PW G false 0 111 (p_mc 111) (p_msl 111) Kr 0 (lv_args 0 [.ref 0, .int a1]) [] 311 M 0 0 := by
  have F : Fr [] M M := Fr.refl
  refine PW.iload_n q_111_0 rfl ?_
  have h1 : a1.toInt = 0 ∨ a1.toInt = 1 ∨ a1.toInt = 2 ∨ a1.toInt = 3 ∨ a1.toInt = 4 ∨ a1.toInt = 5 ∨ (a1.toInt < 0 ∨ 5 < a1.toInt) := by omega
  rcases h1 with h1 | h1 | h1 | h1 | h1 | h1 | h1
  · skip
    refine PW.sw1 (0) h1 q_111_1 (by decide) (by decide) rfl rfl ?_
    refine PW.aload_n q_111_40 rfl ?_
    refine PW.gR 3 q_111_41 (Or.inl t_ft_111_19) gF_0_1 kd_0 I.1 (by decide) rfl ?_
    refine PW.gR 4 q_111_44 (Or.inr t_fN_111_94) gF_3_0 kd_3 I.1 (by decide) rfl ?_
    refine PW.gI q_111_47 (Or.inr t_fN_111_136) gF_4_6 kd_4 I.1 (by decide) fun x2 fx2 hx2 kx2 => ?_
    have ix2 := o_i_of fx2
    refine PW.rI q_111_50 rfl (by decide) (by decide) ?_
    exact hK x2 M I F (by omega)
  · skip
    refine PW.sw1 (1) h1 q_111_1 (by decide) (by decide) rfl rfl ?_
    refine PW.aload_n q_111_51 rfl ?_
    refine PW.gR 3 q_111_52 (Or.inl t_ft_111_19) gF_0_1 kd_0 I.1 (by decide) rfl ?_
    refine PW.gR 4 q_111_55 (Or.inr t_fN_111_94) gF_3_0 kd_3 I.1 (by decide) rfl ?_
    refine PW.gI q_111_58 (Or.inr t_fN_111_249) gF_4_7 kd_4 I.1 (by decide) fun x3 fx3 hx3 kx3 => ?_
    have ix3 := o_i_of fx3
    refine PW.rI q_111_61 rfl (by decide) (by decide) ?_
    exact hK x3 M I F (by omega)
  · skip
    refine PW.sw1 (2) h1 q_111_1 (by decide) (by decide) rfl rfl ?_
    refine PW.aload_n q_111_62 rfl ?_
    refine PW.gR 3 q_111_63 (Or.inl t_ft_111_19) gF_0_1 kd_0 I.1 (by decide) rfl ?_
    refine PW.gR 4 q_111_66 (Or.inr t_fN_111_94) gF_3_0 kd_3 I.1 (by decide) rfl ?_
    refine PW.gI q_111_69 (Or.inr t_fN_111_251) gF_4_1 kd_4 I.1 (by decide) fun x4 fx4 hx4 kx4 => ?_
    have ix4 := o_i_of fx4
    clear hx4 kx4
    refine PW.rI q_111_72 rfl (by decide) (by decide) ?_
    exact hK x4 M I F (by omega)
  · skip
    refine PW.sw1 (3) h1 q_111_1 (by decide) (by decide) rfl rfl ?_
    refine PW.aload_n q_111_73 rfl ?_
    refine PW.gR 3 q_111_74 (Or.inl t_ft_111_19) gF_0_1 kd_0 I.1 (by decide) rfl ?_
    refine PW.gR 4 q_111_77 (Or.inr t_fN_111_94) gF_3_0 kd_3 I.1 (by decide) rfl ?_
    refine PW.gI q_111_80 (Or.inr t_fN_111_254) gF_4_2 kd_4 I.1 (by decide) fun x5 fx5 hx5 kx5 => ?_
    have ix5 := o_i_of fx5
    clear hx5 kx5
    refine PW.rI q_111_83 rfl (by decide) (by decide) ?_
    exact hK x5 M I F (by omega)
  · skip
    refine PW.sw1 (4) h1 q_111_1 (by decide) (by decide) rfl rfl ?_
    refine PW.aload_n q_111_84 rfl ?_
    refine PW.gR 3 q_111_85 (Or.inl t_ft_111_19) gF_0_1 kd_0 I.1 (by decide) rfl ?_
    refine PW.gR 4 q_111_88 (Or.inr t_fN_111_94) gF_3_0 kd_3 I.1 (by decide) rfl ?_
    refine PW.gI q_111_91 (Or.inr t_fN_111_257) gF_4_3 kd_4 I.1 (by decide) fun x6 fx6 hx6 kx6 => ?_
    have ix6 := o_i_of fx6
    clear hx6 kx6
    refine PW.rI q_111_94 rfl (by decide) (by decide) ?_
    exact hK x6 M I F (by omega)
  · skip
    refine PW.sw1 (5) h1 q_111_1 (by decide) (by decide) rfl rfl ?_
    refine PW.aload_n q_111_95 rfl ?_
    refine PW.gR 1 q_111_96 (Or.inl t_ft_111_10) gF_0_0 kd_0 I.1 (by decide) rfl ?_
    refine PW.gI q_111_99 (Or.inr t_fN_111_73) gF_1_1 kd_1 I.1 (by decide) fun x7 fx7 hx7 kx7 => ?_
    have ix7 := o_i_of fx7
    refine PW.rI q_111_102 rfl (by decide) (by decide) ?_
    exact hK x7 M I F (by omega)
  · skip
    refine PW.tswO q_111_1 h1 rfl ?_
    refine PW.cI q_111_103 (by decide) fun c8 hc8 => ?_
    refine PW.rI q_111_104 rfl (by decide) (by decide) ?_
    exact hK c8 M I F (by omega)
