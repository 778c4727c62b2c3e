theorem c_X3_copyFrom_vk4_256 (G : pG) (Kr : pK) (M : pM) (I : Iv gTS M)  (hK : ∀ (M1 : pM), Iv gTS M1 → Fr [4, 27, 28, 29, 30, 31, 32, 33, 34, 35, 36] M M1 → (g5f (M1 4) (M 256) ∧ M1 40 = M 40 ∧ M1 75 = M 75 ∧ M1 256 = M 256 ∧ M1 41 = M 41 ∧ M1 76 = M 76 ∧ M1 257 = M 257 ∧ ∀ j : Nat, j < 6 → o_l (M1 5) j = o_l (M 257) j) → Kr.1 none 311 M1) : PW G false 0 21 (p_mc 21) (p_msl 21) Kr 0 (lv_args 0 [.ref 4, .ref 256]) [] 311 M 0 0 := by
  have F : Fr [4, 27, 28, 29, 30, 31, 32, 33, 34, 35, 36] M M := Fr.refl
  obtain ⟨w256_1, fw256_1, hw256_1, kw256_1⟩ := gF_4_1.int kd_256 I.1 (by decide)
  have iw256_1 := o_i_of fw256_1
  have jw256_1 : w256_1.toInt = o_i (M 256) 1 := by have w := (rfl : o_i (M 256) 1 = o_i (M 256) 1); omega
  obtain ⟨w256_2, fw256_2, hw256_2, kw256_2⟩ := gF_4_2.int kd_256 I.1 (by decide)
  have iw256_2 := o_i_of fw256_2
  have jw256_2 : w256_2.toInt = o_i (M 256) 2 := by have w := (rfl : o_i (M 256) 2 = o_i (M 256) 2); omega
  obtain ⟨w256_3, fw256_3, hw256_3, kw256_3⟩ := gF_4_3.int kd_256 I.1 (by decide)
  have iw256_3 := o_i_of fw256_3
  have jw256_3 : w256_3.toInt = o_i (M 256) 3 := by have w := (rfl : o_i (M 256) 3 = o_i (M 256) 3); omega
  obtain ⟨w256_6, fw256_6, hw256_6, kw256_6⟩ := gF_4_6.int kd_256 I.1 (by decide)
  have iw256_6 := o_i_of fw256_6
  have jw256_6 : w256_6.toInt = o_i (M 256) 6 := by have w := (rfl : o_i (M 256) 6 = o_i (M 256) 6); omega
  obtain ⟨w256_7, fw256_7, hw256_7, kw256_7⟩ := gF_4_7.int kd_256 I.1 (by decide)
  have iw256_7 := o_i_of fw256_7
  have jw256_7 : w256_7.toInt = o_i (M 256) 7 := by have w := (rfl : o_i (M 256) 7 = o_i (M 256) 7); omega
  refine PW.aload_n q_21_0 rfl ?_
  refine PW.aload_n q_21_1 rfl ?_
  refine PW.gI q_21_2 (Or.inl t_ft_21_47) gF_4_0 kd_256 I.1 (by decide) fun x1 fx1 hx1 kx1 => ?_
  have ix1 := o_i_of fx1
  clear hx1 kx1
  refine PW.pI q_21_5 (Or.inl t_ft_21_47) gF_4_0 gP_4_0 kd_4 StabS I (by decide) rfl (n_lo _) (n_hi _) fun M2 IM2 fM2 UM2 => ?_
  have FM2 := Fr.pu F UM2.1 kd_4 (rfl : List.contains [4, 27, 28, 29, 30, 31, 32, 33, 34, 35, 36] 4 = true)
  refine PW.aload_n q_21_8 rfl ?_
  refine PW.aload_n q_21_9 rfl ?_
  refine PW.gE q_21_10 (Or.inl t_ft_21_51) gF_4_1 kd_256 IM2.1 (by decide) ((UM2.f (Or.inl (by decide))).trans fw256_1) ?_
  refine PW.pI q_21_13 (Or.inl t_ft_21_51) gF_4_1 gP_4_1 kd_4 StabS IM2 (by decide) rfl (n_lo _) (n_hi _) fun M3 IM3 fM3 UM3 => ?_
  have FM3 := Fr.pu FM2 UM3.1 kd_4 (rfl : List.contains [4, 27, 28, 29, 30, 31, 32, 33, 34, 35, 36] 4 = true)
  refine PW.aload_n q_21_16 rfl ?_
  refine PW.aload_n q_21_17 rfl ?_
  refine PW.gE q_21_18 (Or.inl t_ft_21_54) gF_4_2 kd_256 IM3.1 (by decide) ((UM3.f (Or.inl (by decide))).trans ((UM2.f (Or.inl (by decide))).trans fw256_2)) ?_
  refine PW.pI q_21_21 (Or.inl t_ft_21_54) gF_4_2 gP_4_2 kd_4 StabS IM3 (by decide) rfl (n_lo _) (n_hi _) fun M4 IM4 fM4 UM4 => ?_
  have FM4 := Fr.pu FM3 UM4.1 kd_4 (rfl : List.contains [4, 27, 28, 29, 30, 31, 32, 33, 34, 35, 36] 4 = true)
  refine PW.aload_n q_21_24 rfl ?_
  refine PW.aload_n q_21_25 rfl ?_
  refine PW.gE q_21_26 (Or.inl t_ft_21_57) gF_4_3 kd_256 IM4.1 (by decide) ((UM4.f (Or.inl (by decide))).trans ((UM3.f (Or.inl (by decide))).trans ((UM2.f (Or.inl (by decide))).trans fw256_3))) ?_
  refine PW.pI q_21_29 (Or.inl t_ft_21_57) gF_4_3 gP_4_3 kd_4 StabS IM4 (by decide) rfl (n_lo _) (n_hi _) fun M5 IM5 fM5 UM5 => ?_
  have FM5 := Fr.pu FM4 UM5.1 kd_4 (rfl : List.contains [4, 27, 28, 29, 30, 31, 32, 33, 34, 35, 36] 4 = true)
  refine PW.aload_n q_21_32 rfl ?_
  refine PW.aload_n q_21_33 rfl ?_
  refine PW.gI q_21_34 (Or.inl t_ft_21_60) gF_4_4 kd_256 IM5.1 (by decide) fun x6 fx6 hx6 kx6 => ?_
  have ix6 := o_i_of fx6
  refine PW.pI q_21_37 (Or.inl t_ft_21_60) gF_4_4 gP_4_4 kd_4 StabS IM5 (by decide) rfl (by omega) (by omega) fun M7 IM7 fM7 UM7 => ?_
  have FM7 := Fr.pu FM5 UM7.1 kd_4 (rfl : List.contains [4, 27, 28, 29, 30, 31, 32, 33, 34, 35, 36] 4 = true)
  refine PW.aload_n q_21_40 rfl ?_
  refine PW.aload_n q_21_41 rfl ?_
  refine PW.gI q_21_42 (Or.inl t_ft_21_64) gF_4_5 kd_256 IM7.1 (by decide) fun x8 fx8 hx8 kx8 => ?_
  have ix8 := o_i_of fx8
  refine PW.pI q_21_45 (Or.inl t_ft_21_64) gF_4_5 gP_4_5 kd_4 StabS IM7 (by decide) rfl (by omega) (by omega) fun M9 IM9 fM9 UM9 => ?_
  have FM9 := Fr.pu FM7 UM9.1 kd_4 (rfl : List.contains [4, 27, 28, 29, 30, 31, 32, 33, 34, 35, 36] 4 = true)
  refine PW.aload_n q_21_48 rfl ?_
  refine PW.aload_n q_21_49 rfl ?_
  refine PW.gE q_21_50 (Or.inl t_ft_21_67) gF_4_6 kd_256 IM9.1 (by decide) ((UM9.f (Or.inl (by decide))).trans ((UM7.f (Or.inl (by decide))).trans ((UM5.f (Or.inl (by decide))).trans ((UM4.f (Or.inl (by decide))).trans ((UM3.f (Or.inl (by decide))).trans ((UM2.f (Or.inl (by decide))).trans fw256_6)))))) ?_
  refine PW.pI q_21_53 (Or.inl t_ft_21_67) gF_4_6 gP_4_6 kd_4 StabS IM9 (by decide) rfl (by omega) (by omega) fun M10 IM10 fM10 UM10 => ?_
  have FM10 := Fr.pu FM9 UM10.1 kd_4 (rfl : List.contains [4, 27, 28, 29, 30, 31, 32, 33, 34, 35, 36] 4 = true)
  refine PW.aload_n q_21_56 rfl ?_
  refine PW.aload_n q_21_57 rfl ?_
  refine PW.gE q_21_58 (Or.inl t_ft_21_70) gF_4_7 kd_256 IM10.1 (by decide) ((UM10.f (Or.inl (by decide))).trans ((UM9.f (Or.inl (by decide))).trans ((UM7.f (Or.inl (by decide))).trans ((UM5.f (Or.inl (by decide))).trans ((UM4.f (Or.inl (by decide))).trans ((UM3.f (Or.inl (by decide))).trans ((UM2.f (Or.inl (by decide))).trans fw256_7))))))) ?_
  refine PW.pB q_21_61 (Or.inl t_ft_21_70) gF_4_7 gP_4_7 kd_4 IM10.1 (by decide) (by omega) (by omega) fun M11 JM11 fM11 UM11 => ?_
  have IM11 : Iv gTS M11 := ⟨JM11, UM11.TT kd_4 rfl rfl IM10.2.1, gS1.oth IM10.2.2 (UM11.1 256 (by decide)) (UM11.1 262 (by decide))⟩
  have FM11 := Fr.pu FM10 UM11.1 kd_4 (rfl : List.contains [4, 27, 28, 29, 30, 31, 32, 33, 34, 35, 36] 4 = true)
  refine PW.cI q_21_64 (by decide) fun c12 hc12 => ?_
  refine PW.istore_n q_21_65 (by decide) ?_
  have L21_66_13 : ∀ (n : Nat) (ML21_66_13 : pM) (v14 : Int32), Iv (gTS) ML21_66_13 → Fr [4, 27, 28, 29, 30, 31, 32, 33, 34, 35, 36] M ML21_66_13 → 0 ≤ v14.toInt → v14.toInt ≤ 6 → g5f (ML21_66_13 4) (M 256) → ML21_66_13 40 = M 40 → ML21_66_13 75 = M 75 → ML21_66_13 256 = M 256 → ML21_66_13 41 = M 41 → ML21_66_13 76 = M 76 → ML21_66_13 257 = M 257 → (∀ j : Nat, (j : Int) < v14.toInt → o_l (ML21_66_13 5) j = o_l (M 257) j) → (6 - v14.toInt).toNat = n → PW G false 0 21 (p_mc 21) (p_msl 21) Kr 66 [(0, .ref 4), (1, .ref 256), (2, .int v14)] [] 311 ML21_66_13 0 0 := by
    intro n
    induction n using Nat.strongRecOn with
    | ind n ih_L21_66_13 =>
    intro ML21_66_13 v14 IML21_66_13 FML21_66_13 hbL21_66_130 hbL21_66_131 hbL21_66_132 hbL21_66_133 hbL21_66_134 hbL21_66_135 hbL21_66_136 hbL21_66_137 hbL21_66_138 hbL21_66_139 hmL21_66_13
    refine PW.iload_n q_21_66 rfl ?_
    refine PW.cB q_21_67 (by decide) fun c15 hc15 => ?_
    refine PW.jc_ge q_21_69 rfl (fun h16 => ?_) (fun h16 => ?_)
    · skip
      refine PW.cI q_21_126 (by decide) fun c17 hc17 => ?_
      refine PW.istore_n q_21_127 (by decide) ?_
      have L21_128_18 : ∀ (n : Nat) (ML21_128_18 : pM) (v19 : Int32), Iv (gTS) ML21_128_18 → Fr [4, 27, 28, 29, 30, 31, 32, 33, 34, 35, 36] M ML21_128_18 → 0 ≤ v19.toInt → v19.toInt ≤ 2 → g5f (ML21_128_18 4) (M 256) → ML21_128_18 40 = M 40 → ML21_128_18 75 = M 75 → ML21_128_18 256 = M 256 → ML21_128_18 41 = M 41 → ML21_128_18 76 = M 76 → ML21_128_18 257 = M 257 → (∀ j : Nat, j < 6 → o_l (ML21_128_18 5) j = o_l (M 257) j) → (2 - v19.toInt).toNat = n → PW G false 0 21 (p_mc 21) (p_msl 21) Kr 128 [(0, .ref 4), (1, .ref 256), (2, .int v19)] [] 311 ML21_128_18 0 0 := by
        intro n
        induction n using Nat.strongRecOn with
        | ind n ih_L21_128_18 =>
        intro ML21_128_18 v19 IML21_128_18 FML21_128_18 hbL21_128_180 hbL21_128_181 hbL21_128_182 hbL21_128_183 hbL21_128_184 hbL21_128_185 hbL21_128_186 hbL21_128_187 hbL21_128_188 hbL21_128_189 hmL21_128_18
        refine PW.iload_n q_21_128 rfl ?_
        refine PW.cI q_21_129 (by decide) fun c20 hc20 => ?_
        refine PW.jc_ge q_21_130 rfl (fun h21 => ?_) (fun h21 => ?_)
        · skip
          refine PW.vret q_21_211 rfl (by decide) (by decide) ?_
          exact hK ML21_128_18 IML21_128_18 FML21_128_18 ⟨hbL21_128_182, hbL21_128_183, hbL21_128_184, hbL21_128_185, hbL21_128_186, hbL21_128_187, hbL21_128_188, hbL21_128_189⟩
        · skip
          refine PW.aload_n q_21_133 rfl ?_
          refine PW.gR 9 q_21_134 (Or.inl t_ft_21_26) gF_4_12 kd_4 IML21_128_18.1 (by decide) rfl ?_
          refine PW.iload_n q_21_137 rfl ?_
          refine PW.aload_n q_21_138 rfl ?_
          refine PW.gR 261 q_21_139 (Or.inl t_ft_21_26) gF_4_12 kd_256 IML21_128_18.1 (by decide) rfl ?_
          refine PW.iload_n q_21_142 rfl ?_
          refine PW.aL q_21_143 rfl kd_261 IML21_128_18.1 (by decide) (by omega) (by omega) fun l22 fl22 => ?_
          refine PW.wLX q_21_144 rfl kd_9 StabS IML21_128_18 (by decide) rfl (by omega) (by omega) fun M23 IM23 fM23 UM23 => ?_
          have FM23 := Fr.pu FML21_128_18 UM23.1 kd_9 (rfl : List.contains [4, 27, 28, 29, 30, 31, 32, 33, 34, 35, 36] 31 = true)
          refine PW.aload_n q_21_145 rfl ?_
          refine PW.gR 10 q_21_146 (Or.inl t_ft_21_29) gF_4_13 kd_4 IM23.1 (by decide) rfl ?_
          refine PW.iload_n q_21_149 rfl ?_
          refine PW.aload_n q_21_150 rfl ?_
          refine PW.gR 262 q_21_151 (Or.inl t_ft_21_29) gF_4_13 kd_256 IM23.1 (by decide) rfl ?_
          refine PW.iload_n q_21_154 rfl ?_
          refine PW.aI q_21_155 gA_32 kd_262 IM23.1 (by decide) gB_32_0_1 (by decide) (by omega) (by omega) fun x24 fx24 hx24 kx24 => ?_
          refine PW.wB q_21_156 gA_32 kd_10 IM23.1 (by decide) (by omega) (by omega) ⟨by show (-1 : Int) ≤ _; omega, by show _ ≤ (5 : Int); omega⟩ fun M25 JM25 fM25 UM25 => ?_
          have IM25 : Iv gTS M25 := ⟨JM25, gAT UM25.1 kd_10 (by decide) rfl IM23.2.1, gS1.oth IM23.2.2 (UM25.1 256 (by decide)) (UM25.1 262 (by decide))⟩
          have FM25 := Fr.pu FM23 UM25.1 kd_10 (rfl : List.contains [4, 27, 28, 29, 30, 31, 32, 33, 34, 35, 36] 32 = true)
          refine PW.aload_n q_21_157 rfl ?_
          refine PW.gR 11 q_21_158 (Or.inl t_ft_21_32) gF_4_14 kd_4 IM25.1 (by decide) rfl ?_
          refine PW.iload_n q_21_161 rfl ?_
          refine PW.aload_n q_21_162 rfl ?_
          refine PW.gR 263 q_21_163 (Or.inl t_ft_21_32) gF_4_14 kd_256 IM25.1 (by decide) rfl ?_
          refine PW.iload_n q_21_166 rfl ?_
          refine PW.aH q_21_167 gA_33 kd_263 IM25.1 (by decide) (by omega) (by omega) fun x26 fx26 => ?_
          refine PW.wI q_21_168 gA_33 kd_11 StabS IM25 (by decide) rfl gC_33_0_1 (by decide) (by omega) (by omega) (n_lo _) (n_hi _) fun M27 IM27 fM27 UM27 => ?_
          have FM27 := Fr.pu FM25 UM27.1 kd_11 (rfl : List.contains [4, 27, 28, 29, 30, 31, 32, 33, 34, 35, 36] 33 = true)
          refine PW.aload_n q_21_169 rfl ?_
          refine PW.gR 12 q_21_170 (Or.inl t_ft_21_35) gF_4_15 kd_4 IM27.1 (by decide) rfl ?_
          refine PW.iload_n q_21_173 rfl ?_
          refine PW.aload_n q_21_174 rfl ?_
          refine PW.gR 264 q_21_175 (Or.inl t_ft_21_35) gF_4_15 kd_256 IM27.1 (by decide) rfl ?_
          refine PW.iload_n q_21_178 rfl ?_
          refine PW.aH q_21_179 gA_34 kd_264 IM27.1 (by decide) (by omega) (by omega) fun x28 fx28 => ?_
          refine PW.wI q_21_180 gA_34 kd_12 StabS IM27 (by decide) rfl gC_34_0_1 (by decide) (by omega) (by omega) (n_lo _) (n_hi _) fun M29 IM29 fM29 UM29 => ?_
          have FM29 := Fr.pu FM27 UM29.1 kd_12 (rfl : List.contains [4, 27, 28, 29, 30, 31, 32, 33, 34, 35, 36] 34 = true)
          refine PW.aload_n q_21_181 rfl ?_
          refine PW.gR 13 q_21_182 (Or.inl t_ft_21_38) gF_4_16 kd_4 IM29.1 (by decide) rfl ?_
          refine PW.iload_n q_21_185 rfl ?_
          refine PW.aload_n q_21_186 rfl ?_
          refine PW.gR 265 q_21_187 (Or.inl t_ft_21_38) gF_4_16 kd_256 IM29.1 (by decide) rfl ?_
          refine PW.iload_n q_21_190 rfl ?_
          refine PW.aH q_21_191 gA_35 kd_265 IM29.1 (by decide) (by omega) (by omega) fun x30 fx30 => ?_
          refine PW.wI q_21_192 gA_35 kd_13 StabS IM29 (by decide) rfl gC_35_0_1 (by decide) (by omega) (by omega) (n_lo _) (n_hi _) fun M31 IM31 fM31 UM31 => ?_
          have FM31 := Fr.pu FM29 UM31.1 kd_13 (rfl : List.contains [4, 27, 28, 29, 30, 31, 32, 33, 34, 35, 36] 35 = true)
          refine PW.aload_n q_21_193 rfl ?_
          refine PW.gR 14 q_21_194 (Or.inl t_ft_21_41) gF_4_17 kd_4 IM31.1 (by decide) rfl ?_
          refine PW.iload_n q_21_197 rfl ?_
          refine PW.aload_n q_21_198 rfl ?_
          refine PW.gR 266 q_21_199 (Or.inl t_ft_21_41) gF_4_17 kd_256 IM31.1 (by decide) rfl ?_
          refine PW.iload_n q_21_202 rfl ?_
          refine PW.aH q_21_203 gA_36 kd_266 IM31.1 (by decide) (by omega) (by omega) fun x32 fx32 => ?_
          refine PW.wI q_21_204 gA_36 kd_14 StabS IM31 (by decide) rfl gC_36_0_1 (by decide) (by omega) (by omega) (n_lo _) (n_hi _) fun M33 IM33 fM33 UM33 => ?_
          have FM33 := Fr.pu FM31 UM33.1 kd_14 (rfl : List.contains [4, 27, 28, 29, 30, 31, 32, 33, 34, 35, 36] 36 = true)
          refine PW.incN q_21_205 rfl (by decide) (by decide) (by omega) (by omega) fun x34 hx34 => ?_
          refine PW.goto q_21_208 rfl ?_
          refine PW.lvS (lk1 rfl (lk1 rfl (lk1 rfl lk0))) (ih_L21_128_18 _ ?_ M33 x34 IM33 FM33 (by omega) (by omega) (by rw [((UM33.1 _ (g_ne kd_4 kd_14 (by decide))).trans ((UM31.1 _ (g_ne kd_4 kd_13 (by decide))).trans ((UM29.1 _ (g_ne kd_4 kd_12 (by decide))).trans ((UM27.1 _ (g_ne kd_4 kd_11 (by decide))).trans ((UM25.1 _ (g_ne kd_4 kd_10 (by decide))).trans (UM23.1 _ (g_ne kd_4 kd_9 (by decide))))))))]; exact hbL21_128_182) (((UM33.1 _ (g_ne kd_40 kd_14 (by decide))).trans ((UM31.1 _ (g_ne kd_40 kd_13 (by decide))).trans ((UM29.1 _ (g_ne kd_40 kd_12 (by decide))).trans ((UM27.1 _ (g_ne kd_40 kd_11 (by decide))).trans ((UM25.1 _ (g_ne kd_40 kd_10 (by decide))).trans (UM23.1 _ (g_ne kd_40 kd_9 (by decide)))))))).trans hbL21_128_183) (((UM33.1 _ (g_ne kd_75 kd_14 (by decide))).trans ((UM31.1 _ (g_ne kd_75 kd_13 (by decide))).trans ((UM29.1 _ (g_ne kd_75 kd_12 (by decide))).trans ((UM27.1 _ (g_ne kd_75 kd_11 (by decide))).trans ((UM25.1 _ (g_ne kd_75 kd_10 (by decide))).trans (UM23.1 _ (g_ne kd_75 kd_9 (by decide)))))))).trans hbL21_128_184) (((UM33.1 _ (g_ne kd_256 kd_14 (by decide))).trans ((UM31.1 _ (g_ne kd_256 kd_13 (by decide))).trans ((UM29.1 _ (g_ne kd_256 kd_12 (by decide))).trans ((UM27.1 _ (g_ne kd_256 kd_11 (by decide))).trans ((UM25.1 _ (g_ne kd_256 kd_10 (by decide))).trans (UM23.1 _ (g_ne kd_256 kd_9 (by decide)))))))).trans hbL21_128_185) (((UM33.1 _ (g_ne kd_41 kd_14 (by decide))).trans ((UM31.1 _ (g_ne kd_41 kd_13 (by decide))).trans ((UM29.1 _ (g_ne kd_41 kd_12 (by decide))).trans ((UM27.1 _ (g_ne kd_41 kd_11 (by decide))).trans ((UM25.1 _ (g_ne kd_41 kd_10 (by decide))).trans (UM23.1 _ (g_ne kd_41 kd_9 (by decide)))))))).trans hbL21_128_186) (((UM33.1 _ (g_ne kd_76 kd_14 (by decide))).trans ((UM31.1 _ (g_ne kd_76 kd_13 (by decide))).trans ((UM29.1 _ (g_ne kd_76 kd_12 (by decide))).trans ((UM27.1 _ (g_ne kd_76 kd_11 (by decide))).trans ((UM25.1 _ (g_ne kd_76 kd_10 (by decide))).trans (UM23.1 _ (g_ne kd_76 kd_9 (by decide)))))))).trans hbL21_128_187) (((UM33.1 _ (g_ne kd_257 kd_14 (by decide))).trans ((UM31.1 _ (g_ne kd_257 kd_13 (by decide))).trans ((UM29.1 _ (g_ne kd_257 kd_12 (by decide))).trans ((UM27.1 _ (g_ne kd_257 kd_11 (by decide))).trans ((UM25.1 _ (g_ne kd_257 kd_10 (by decide))).trans (UM23.1 _ (g_ne kd_257 kd_9 (by decide)))))))).trans hbL21_128_188) (fun j hj => by rw [((UM33.1 _ (g_ne kd_5 kd_14 (by decide))).trans ((UM31.1 _ (g_ne kd_5 kd_13 (by decide))).trans ((UM29.1 _ (g_ne kd_5 kd_12 (by decide))).trans ((UM27.1 _ (g_ne kd_5 kd_11 (by decide))).trans ((UM25.1 _ (g_ne kd_5 kd_10 (by decide))).trans (UM23.1 _ (g_ne kd_5 kd_9 (by decide))))))))]; exact hbL21_128_189 j hj) rfl)
          omega
      exact PW.lvS (lk1 rfl (lk1 rfl (lk1 rfl lk0))) (L21_128_18 _ ML21_66_13 c17 IML21_66_13 FML21_66_13 (by omega) (by omega) hbL21_66_132 hbL21_66_133 hbL21_66_134 hbL21_66_135 hbL21_66_136 hbL21_66_137 hbL21_66_138 (fun j hj => hbL21_66_139 j (by omega)) rfl)
    · skip
      refine PW.aload_n q_21_72 rfl ?_
      refine PW.gR 5 q_21_73 (Or.inl t_ft_21_9) gF_4_8 kd_4 IML21_66_13.1 (by decide) rfl ?_
      refine PW.iload_n q_21_76 rfl ?_
      refine PW.aload_n q_21_77 rfl ?_
      refine PW.gR 257 q_21_78 (Or.inl t_ft_21_9) gF_4_8 kd_256 IML21_66_13.1 (by decide) rfl ?_
      refine PW.iload_n q_21_81 rfl ?_
      refine PW.aL q_21_82 rfl kd_257 IML21_66_13.1 (by decide) (by omega) (by omega) fun l35 fl35 => ?_
      refine PW.wLX q_21_83 rfl kd_5 StabS IML21_66_13 (by decide) rfl (by omega) (by omega) fun M36 IM36 fM36 UM36 => ?_
      have FM36 := Fr.pu FML21_66_13 UM36.1 kd_5 (rfl : List.contains [4, 27, 28, 29, 30, 31, 32, 33, 34, 35, 36] 27 = true)
      refine PW.aload_n q_21_84 rfl ?_
      refine PW.gR 6 q_21_85 (Or.inl t_ft_21_15) gF_4_9 kd_4 IM36.1 (by decide) rfl ?_
      refine PW.iload_n q_21_88 rfl ?_
      refine PW.aload_n q_21_89 rfl ?_
      refine PW.gR 258 q_21_90 (Or.inl t_ft_21_15) gF_4_9 kd_256 IM36.1 (by decide) rfl ?_
      refine PW.iload_n q_21_93 rfl ?_
      refine PW.aH q_21_94 gA_28 kd_258 IM36.1 (by decide) (by omega) (by omega) fun x37 fx37 => ?_
      refine PW.wI q_21_95 gA_28 kd_6 StabS IM36 (by decide) rfl gC_28_0_5 (by decide) (by omega) (by omega) (n_lo _) (n_hi _) fun M38 IM38 fM38 UM38 => ?_
      have FM38 := Fr.pu FM36 UM38.1 kd_6 (rfl : List.contains [4, 27, 28, 29, 30, 31, 32, 33, 34, 35, 36] 28 = true)
      refine PW.aload_n q_21_96 rfl ?_
      refine PW.gR 7 q_21_97 (Or.inl t_ft_21_19) gF_4_10 kd_4 IM38.1 (by decide) rfl ?_
      refine PW.iload_n q_21_100 rfl ?_
      refine PW.aload_n q_21_101 rfl ?_
      refine PW.gR 259 q_21_102 (Or.inl t_ft_21_19) gF_4_10 kd_256 IM38.1 (by decide) rfl ?_
      refine PW.iload_n q_21_105 rfl ?_
      refine PW.aH q_21_106 gA_29 kd_259 IM38.1 (by decide) (by omega) (by omega) fun x39 fx39 => ?_
      refine PW.wI q_21_107 gA_29 kd_7 StabS IM38 (by decide) rfl gC_29_0_5 (by decide) (by omega) (by omega) (n_lo _) (n_hi _) fun M40 IM40 fM40 UM40 => ?_
      have FM40 := Fr.pu FM38 UM40.1 kd_7 (rfl : List.contains [4, 27, 28, 29, 30, 31, 32, 33, 34, 35, 36] 29 = true)
      refine PW.aload_n q_21_108 rfl ?_
      refine PW.gR 8 q_21_109 (Or.inl t_ft_21_22) gF_4_11 kd_4 IM40.1 (by decide) rfl ?_
      refine PW.iload_n q_21_112 rfl ?_
      refine PW.aload_n q_21_113 rfl ?_
      refine PW.gR 260 q_21_114 (Or.inl t_ft_21_22) gF_4_11 kd_256 IM40.1 (by decide) rfl ?_
      refine PW.iload_n q_21_117 rfl ?_
      refine PW.aZ q_21_118 gA_30 kd_260 IM40.1 (by decide) gB_30_0_5 (by omega) (by omega) fun x41 fx41 hx41 kx41 => ?_
      refine PW.wZ q_21_119 gA_30 kd_8 StabS IM40 (by decide) rfl gC_30_0_5 (by omega) (by omega) (by omega) (by omega) fun M42 IM42 fM42 UM42 => ?_
      have FM42 := Fr.pu FM40 UM42.1 kd_8 (rfl : List.contains [4, 27, 28, 29, 30, 31, 32, 33, 34, 35, 36] 30 = true)
      refine PW.incN q_21_120 rfl (by decide) (by decide) (by omega) (by omega) fun x43 hx43 => ?_
      refine PW.goto q_21_123 rfl ?_
      refine PW.lvS (lk1 rfl (lk1 rfl (lk1 rfl lk0))) (ih_L21_66_13 _ ?_ M42 x43 IM42 FM42 (by omega) (by omega) (by rw [((UM42.1 _ (g_ne kd_4 kd_8 (by decide))).trans ((UM40.1 _ (g_ne kd_4 kd_7 (by decide))).trans ((UM38.1 _ (g_ne kd_4 kd_6 (by decide))).trans (UM36.1 _ (g_ne kd_4 kd_5 (by decide))))))]; exact hbL21_66_132) (((UM42.1 _ (g_ne kd_40 kd_8 (by decide))).trans ((UM40.1 _ (g_ne kd_40 kd_7 (by decide))).trans ((UM38.1 _ (g_ne kd_40 kd_6 (by decide))).trans (UM36.1 _ (g_ne kd_40 kd_5 (by decide)))))).trans hbL21_66_133) (((UM42.1 _ (g_ne kd_75 kd_8 (by decide))).trans ((UM40.1 _ (g_ne kd_75 kd_7 (by decide))).trans ((UM38.1 _ (g_ne kd_75 kd_6 (by decide))).trans (UM36.1 _ (g_ne kd_75 kd_5 (by decide)))))).trans hbL21_66_134) (((UM42.1 _ (g_ne kd_256 kd_8 (by decide))).trans ((UM40.1 _ (g_ne kd_256 kd_7 (by decide))).trans ((UM38.1 _ (g_ne kd_256 kd_6 (by decide))).trans (UM36.1 _ (g_ne kd_256 kd_5 (by decide)))))).trans hbL21_66_135) (((UM42.1 _ (g_ne kd_41 kd_8 (by decide))).trans ((UM40.1 _ (g_ne kd_41 kd_7 (by decide))).trans ((UM38.1 _ (g_ne kd_41 kd_6 (by decide))).trans (UM36.1 _ (by decide))))).trans hbL21_66_136) (((UM42.1 _ (g_ne kd_76 kd_8 (by decide))).trans ((UM40.1 _ (g_ne kd_76 kd_7 (by decide))).trans ((UM38.1 _ (g_ne kd_76 kd_6 (by decide))).trans (UM36.1 _ (by decide))))).trans hbL21_66_137) (((UM42.1 _ (g_ne kd_257 kd_8 (by decide))).trans ((UM40.1 _ (g_ne kd_257 kd_7 (by decide))).trans ((UM38.1 _ (g_ne kd_257 kd_6 (by decide))).trans (UM36.1 _ (by decide))))).trans hbL21_66_138) (fun j hj => by by_cases q : j = v14.toInt.toNat; (· subst q; rw [((congrArg (fun e => o_l e v14.toInt.toNat) (UM42.1 5 (by decide))).trans ((congrArg (fun e => o_l e v14.toInt.toNat) (UM40.1 5 (by decide))).trans (congrArg (fun e => o_l e v14.toInt.toNat) (UM38.1 5 (by decide)))))]; rw [fM36, ← fl35, hbL21_66_138]); (· rw [((congrArg (fun e => o_l e j) (UM42.1 5 (by decide))).trans ((congrArg (fun e => o_l e j) (UM40.1 5 (by decide))).trans (congrArg (fun e => o_l e j) (UM38.1 5 (by decide)))))]; rw [UM36.2 j q]; exact hbL21_66_139 j (by omega))) rfl)
      omega
  exact PW.lvS (lk1 rfl (lk1 rfl (lk1 rfl lk0))) (L21_66_13 _ M11 c12 IM11 FM11 (by omega) (by omega) ⟨(by have w := (o_i_of ((UM11.f (Or.inr (by decide))).trans ((UM10.f (Or.inr (by decide))).trans ((UM9.f (Or.inr (by decide))).trans ((UM7.f (Or.inr (by decide))).trans ((UM5.f (Or.inr (by decide))).trans ((UM4.f (Or.inr (by decide))).trans fM3))))))); omega), (by have w := (o_i_of ((UM11.f (Or.inr (by decide))).trans ((UM10.f (Or.inr (by decide))).trans ((UM9.f (Or.inr (by decide))).trans ((UM7.f (Or.inr (by decide))).trans ((UM5.f (Or.inr (by decide))).trans fM4)))))); omega), (by have w := (o_i_of ((UM11.f (Or.inr (by decide))).trans ((UM10.f (Or.inr (by decide))).trans ((UM9.f (Or.inr (by decide))).trans ((UM7.f (Or.inr (by decide))).trans fM5))))); omega), (by have w := (o_i_of ((UM11.f (Or.inr (by decide))).trans fM10)); omega), (by have w := (o_i_of fM11); omega)⟩ ((UM11.1 _ (by decide)).trans ((UM10.1 _ (by decide)).trans ((UM9.1 _ (by decide)).trans ((UM7.1 _ (by decide)).trans ((UM5.1 _ (by decide)).trans ((UM4.1 _ (by decide)).trans ((UM3.1 _ (by decide)).trans (UM2.1 _ (by decide))))))))) ((UM11.1 _ (by decide)).trans ((UM10.1 _ (by decide)).trans ((UM9.1 _ (by decide)).trans ((UM7.1 _ (by decide)).trans ((UM5.1 _ (by decide)).trans ((UM4.1 _ (by decide)).trans ((UM3.1 _ (by decide)).trans (UM2.1 _ (by decide))))))))) ((UM11.1 _ (by decide)).trans ((UM10.1 _ (by decide)).trans ((UM9.1 _ (by decide)).trans ((UM7.1 _ (by decide)).trans ((UM5.1 _ (by decide)).trans ((UM4.1 _ (by decide)).trans ((UM3.1 _ (by decide)).trans (UM2.1 _ (by decide))))))))) ((UM11.1 _ (g_ne kd_41 kd_4 (by decide))).trans ((UM10.1 _ (g_ne kd_41 kd_4 (by decide))).trans ((UM9.1 _ (g_ne kd_41 kd_4 (by decide))).trans ((UM7.1 _ (g_ne kd_41 kd_4 (by decide))).trans ((UM5.1 _ (g_ne kd_41 kd_4 (by decide))).trans ((UM4.1 _ (g_ne kd_41 kd_4 (by decide))).trans ((UM3.1 _ (g_ne kd_41 kd_4 (by decide))).trans (UM2.1 _ (g_ne kd_41 kd_4 (by decide)))))))))) ((UM11.1 _ (g_ne kd_76 kd_4 (by decide))).trans ((UM10.1 _ (g_ne kd_76 kd_4 (by decide))).trans ((UM9.1 _ (g_ne kd_76 kd_4 (by decide))).trans ((UM7.1 _ (g_ne kd_76 kd_4 (by decide))).trans ((UM5.1 _ (g_ne kd_76 kd_4 (by decide))).trans ((UM4.1 _ (g_ne kd_76 kd_4 (by decide))).trans ((UM3.1 _ (g_ne kd_76 kd_4 (by decide))).trans (UM2.1 _ (g_ne kd_76 kd_4 (by decide)))))))))) ((UM11.1 _ (g_ne kd_257 kd_4 (by decide))).trans ((UM10.1 _ (g_ne kd_257 kd_4 (by decide))).trans ((UM9.1 _ (g_ne kd_257 kd_4 (by decide))).trans ((UM7.1 _ (g_ne kd_257 kd_4 (by decide))).trans ((UM5.1 _ (g_ne kd_257 kd_4 (by decide))).trans ((UM4.1 _ (g_ne kd_257 kd_4 (by decide))).trans ((UM3.1 _ (g_ne kd_257 kd_4 (by decide))).trans (UM2.1 _ (g_ne kd_257 kd_4 (by decide)))))))))) (fun j hj => by omega) rfl)
/-- how many WALKERS a plan has -/
theorem gI6 {M : pM} (I : InvB M) : 0 ≤ o_i (M 4) 6 ∧ o_i (M 4) 6 ≤ 6 := by
  obtain ⟨x, f, h, k⟩ := gF_4_6.int kd_4 I (by decide)
  rw [o_i_of f]; exact ⟨h, k⟩
/-- the names: beach(), image(), restore() of the class -/
def gCN (y : k_X) (M M1 : pM) : Prop := (((k_lines y 901 k_A0 0).1 ≠ 0 ∧ M1 5 = M 5) ∨ ((k_lines y 901 k_A0 0).1 = 0 ∧ ∀ j : Nat, (j : Int) < (k_lines y 901 k_A0 0).2.2.1.1 0 → (o_l (M1 5) j).toInt = (k_lines y 901 k_A0 0).2.2.1.2.1 j)) ∧ M1 41 = M 41 ∧ M1 76 = M 76
def gIN (M M1 : pM) (a : Int) : Prop := M1 5 = M 5 ∧ (((a < 0 ∨ 1 < a) ∧ M1 41 = M 41 ∧ M1 76 = M 76) ∨ (a = 0 ∧ (∀ j : Nat, j < 6 → o_l (M1 41) j = o_l (M 5) j) ∧ M1 76 = M 76) ∨ (a = 1 ∧ (∀ j : Nat, j < 6 → o_l (M1 76) j = o_l (M 5) j) ∧ M1 41 = M 41))
def gRN (M M1 : pM) (a x : Int) : Prop := M1 41 = M 41 ∧ M1 76 = M 76 ∧ ((x = 0 ∧ M1 5 = M 5) ∨ (x = 1 ∧ a = 0 ∧ ∀ j : Nat, j < 6 → o_l (M1 5) j = o_l (M 41) j) ∨ (x = 1 ∧ a = 1 ∧ ∀ j : Nat, j < 6 → o_l (M1 5) j = o_l (M 76) j))
theorem c_X11_beach_vk (G : pG) (Kr : pK) (M : pM) (I : Iv gTT M) (y : k_X) (hp_0 : k_tp y M) (hp_1 : y.2.2 = 900) (hK : ∀ (x : Int32) (M1 : pM), Iv gTT M1 → Fr [0, 1, 4, 5, 7, 9, 10, 13, 14, 21, 27, 28, 29, 30, 31, 32, 33, 34, 35, 36] M M1 → (x.toInt = k_beach y ∧ o_i (M1 1) 1 = 0 ∧ gCB y M M1 ∧ gCN y M M1 ∧ o_i (M1 0) 10 = (k_lines y 901 k_A0 0).1) → Kr.1 (some (.int x)) 311 M1) : PW G false 7 102 (p_mc 102) (p_msl 102) Kr 0 (lv_args 0 [.ref 0]) [] 311 M 0 0 := by
  have F : Fr [0, 1, 4, 5, 7, 9, 10, 13, 14, 21, 27, 28, 29, 30, 31, 32, 33, 34, 35, 36] M M := Fr.refl
  refine PW.aload_n q_102_0 rfl ?_
  refine PW.gR 256 q_102_1 (Or.inl t_ft_102_41) gF_0_5 kd_0 I.1 (by decide) rfl ?_
  refine PW.aload_n q_102_4 rfl ?_
  refine PW.gR 1 q_102_5 (Or.inl t_ft_102_10) gF_0_0 kd_0 I.1 (by decide) rfl ?_
  refine PW.cV (as := [_]) (rest := []) q_102_8 t_mv_102_81 kd_256 I.1 (by decide) rfl (by decide) rfl rfl (Nat.le_of_ble_eq_true rfl) (Nat.le_of_ble_eq_true rfl) (by decide) (by decide) ?_
  refine PW.up (by decide) (c_X3_read_vk G _ M I y hp_0 hp_1 fun x2 M1 IM1 GM1 hx2 kx2 PM1 TM1 => ?_)
  have FM1 := Fr.trans F GM1 (rfl)
  rcases PM1 with ⟨PaM1, PbM1, PtM1, PqM1⟩ | ⟨PaM1, PbM1, PfM1, PgM1⟩
  · skip
    refine PW.istore_n q_102_11 (by decide) ?_
    refine PW.aload_n q_102_12 rfl ?_
    refine PW.gR 1 q_102_13 (Or.inl t_ft_102_10) gF_0_0 kd_0 IM1.1 (by decide) rfl ?_
    refine PW.cI q_102_16 (by decide) fun c3 hc3 => ?_
    refine PW.pI q_102_17 (Or.inr t_fN_102_73) gF_1_1 gP_1_1 kd_1 StabS IM1 (by decide) rfl (by omega) (by omega) fun M4 IM4 fM4 UM4 => ?_
    have FM4 := Fr.pu FM1 UM4.1 kd_1 (rfl : List.contains [0, 1, 4, 5, 7, 9, 10, 13, 14, 21, 27, 28, 29, 30, 31, 32, 33, 34, 35, 36] 1 = true)
    refine PW.aload_n q_102_20 rfl ?_
    refine PW.aload_n q_102_21 rfl ?_
    refine PW.gR 1 q_102_22 (Or.inl t_ft_102_10) gF_0_0 kd_0 IM4.1 (by decide) rfl ?_
    refine PW.gI q_102_25 (Or.inr t_fN_102_85) gF_1_10 kd_1 IM4.1 (by decide) fun x5 fx5 hx5 kx5 => ?_
    have ix5 := o_i_of fx5
    clear hx5 kx5
    refine PW.pI q_102_28 (Or.inl t_ft_102_88) gF_0_10 gP_0_10 kd_0 StabS IM4 (by decide) rfl (n_lo _) (n_hi _) fun M6 IM6 fM6 UM6 => ?_
    have FM6 := Fr.pu FM4 UM6.1 kd_0 (rfl : List.contains [0, 1, 4, 5, 7, 9, 10, 13, 14, 21, 27, 28, 29, 30, 31, 32, 33, 34, 35, 36] 0 = true)
    refine PW.iload_n q_102_31 rfl ?_
    refine PW.jz_ne q_102_32 rfl (fun h7 => ?_) (fun h7 => False.elim (by omega))
    refine PW.aload_n q_102_45 rfl ?_
    refine PW.gR 3 q_102_46 (Or.inl t_ft_102_19) gF_0_1 kd_0 IM6.1 (by decide) rfl ?_
    refine PW.gR 4 q_102_49 (Or.inr t_fN_102_94) gF_3_0 kd_3 IM6.1 (by decide) rfl ?_
    refine PW.aload_n q_102_52 rfl ?_
    refine PW.gR 256 q_102_53 (Or.inl t_ft_102_41) gF_0_5 kd_0 IM6.1 (by decide) rfl ?_
    refine PW.cV (as := [_]) (rest := []) q_102_56 t_mv_102_97 kd_4 IM6.1 (by decide) rfl (by decide) rfl rfl (Nat.le_of_ble_eq_true rfl) (Nat.le_of_ble_eq_true rfl) (by decide) (by decide) ?_
    refine PW.up (by decide) (c_X3_copyFrom_vk4_256 G _ M6 IM6  fun M8 IM8 GM8 PM8 => ?_)
    have FM8 := Fr.trans FM6 GM8 (rfl)
    rcases PM8 with ⟨PvM8, Pe40M8, Pe75M8, Pe256M8, Pe41M8, Pe76M8, Pe257M8, PmM8⟩
    refine PW.aload_n q_102_59 rfl ?_
    refine PW.gR 3 q_102_60 (Or.inl t_ft_102_19) gF_0_1 kd_0 IM8.1 (by decide) rfl ?_
    refine PW.gR 15 q_102_63 (Or.inr t_fN_102_101) gF_3_1 kd_3 IM8.1 (by decide) rfl ?_
    refine PW.aload_n q_102_66 rfl ?_
    refine PW.gR 256 q_102_67 (Or.inl t_ft_102_41) gF_0_5 kd_0 IM8.1 (by decide) rfl ?_
    refine PW.cV (as := [_]) (rest := []) q_102_70 t_mv_102_104 kd_15 IM8.1 (by decide) rfl (by decide) rfl rfl (Nat.le_of_ble_eq_true rfl) (Nat.le_of_ble_eq_true rfl) (by decide) (by decide) ?_
    refine PW.up (by decide) (c_X5_begin G _ M8 ⟨IM8.1, IM8.2.1⟩ 15 kd_15 256 kd_256 IM8.2.2 fun M9 IM9 GM9 => ?_)
    have FM9 := Fr.trans FM8 GM9 (rfl)
    refine PW.aload_n q_102_73 rfl ?_
    refine PW.gR 3 q_102_74 (Or.inl t_ft_102_19) gF_0_1 kd_0 IM9.1 (by decide) rfl ?_
    refine PW.gR 33 q_102_77 (Or.inr t_fN_102_107) gF_3_2 kd_3 IM9.1 (by decide) rfl ?_
    refine PW.cV (as := []) (rest := []) q_102_80 t_mv_102_110 kd_33 IM9.1 (by decide) rfl (by decide) rfl rfl (Nat.le_of_ble_eq_true rfl) (Nat.le_of_ble_eq_true rfl) (by decide) (by decide) ?_
    refine PW.up (by decide) (c_X4_forget (gTT) (Stab0) G _ M9 IM9 33 kd_33 fun M10 IM10 GM10 => ?_)
    have FM10 := Fr.trans FM9 GM10 (rfl)
    refine PW.aload_n q_102_83 rfl ?_
    refine PW.gR 110 q_102_84 (Or.inl t_ft_102_34) gF_0_4 kd_0 IM10.1 (by decide) rfl ?_
    refine PW.cV (as := []) (rest := []) q_102_87 t_mv_102_113 kd_110 IM10.1 (by decide) rfl (by decide) rfl rfl (Nat.le_of_ble_eq_true rfl) (Nat.le_of_ble_eq_true rfl) (by decide) (by decide) ?_
    refine PW.up (by decide) (c_X1_forget (gTT) (Stab0) G _ M10 IM10  fun M11 IM11 GM11 => ?_)
    have FM11 := Fr.trans FM10 GM11 (rfl)
    refine PW.aload_n q_102_90 rfl ?_
    refine PW.gR 256 q_102_91 (Or.inl t_ft_102_41) gF_0_5 kd_0 IM11.1 (by decide) rfl ?_
    refine PW.gI q_102_94 (Or.inr t_fN_102_114) gF_4_0 kd_256 IM11.1 (by decide) fun x12 fx12 hx12 kx12 => ?_
    have ix12 := o_i_of fx12
    clear hx12 kx12
    refine PW.rI q_102_97 rfl (by decide) (by decide) ?_
    have g0 : o_i (M11 256) 0 = o_i (M1 256) 0 := congrArg (fun e => o_i e 0) ((Fr.at GM11 kd_256 (by decide)).trans ((Fr.at GM10 kd_256 (by decide)).trans ((Fr.at GM9 kd_256 (by decide)).trans (Pe256M8.trans ((UM6.1 256 (by decide)).trans (UM4.1 256 (by decide)))))))
    have g1 := PqM1.1
    have vf : g5f (M11 4) (M1 256) := by rw [((Fr.at GM11 kd_4 (by decide)).trans ((Fr.at GM10 kd_4 (by decide)).trans (Fr.at GM9 kd_4 (by decide)))), ← ((UM6.1 256 (by decide)).trans (UM4.1 256 (by decide)))]; exact PvM8
    have w6 := PqM1.2.2.2.2.2.2.1
    have i6 := gI6 IM11.1
    have v6 := vf.2.2.2.1
    have vn : ∀ j : Nat, (j : Int) < (k_lines y 901 k_A0 0).2.2.1.1 0 → (o_l (M11 5) j).toInt = (k_lines y 901 k_A0 0).2.2.1.2.1 j := fun j hj => by rw [((Fr.at GM11 kd_5 (by decide)).trans ((Fr.at GM10 kd_5 (by decide)).trans (Fr.at GM9 kd_5 (by decide)))), PmM8 j (by omega), ((UM6.1 257 (by decide)).trans (UM4.1 257 (by decide)))]; exact PqM1.2.2.2.2.2.2.2.2.1 j hj
    exact hK x12 M11 IM11 FM11 ⟨by unfold k_beach; rw [if_pos PbM1]; omega, (by have w := (o_i_of ((congrArg (fun e => o_f e 1) (Fr.at GM11 kd_1 (by decide))).trans ((congrArg (fun e => o_f e 1) (Fr.at GM10 kd_1 (by decide))).trans ((congrArg (fun e => o_f e 1) (Fr.at GM9 kd_1 (by decide))).trans ((congrArg (fun e => o_f e 1) (Fr.at GM8 kd_1 (by decide))).trans ((UM6.f (Or.inl (g_ne kd_1 kd_0 (by decide)))).trans fM4)))))); omega), ⟨Or.inr ⟨PbM1, k_c5.of PqM1 vf⟩, ((Fr.at GM11 kd_40 (by decide)).trans ((Fr.at GM10 kd_40 (by decide)).trans ((Fr.at GM9 kd_40 (by decide)).trans (Pe40M8.trans ((UM6.1 40 (by decide)).trans ((UM4.1 40 (by decide)).trans (TM1 40 rfl))))))), ((Fr.at GM11 kd_75 (by decide)).trans ((Fr.at GM10 kd_75 (by decide)).trans ((Fr.at GM9 kd_75 (by decide)).trans (Pe75M8.trans ((UM6.1 75 (by decide)).trans ((UM4.1 75 (by decide)).trans (TM1 75 rfl)))))))⟩, ⟨Or.inr ⟨PbM1, vn⟩, ((Fr.at GM11 kd_41 (by decide)).trans ((Fr.at GM10 kd_41 (by decide)).trans ((Fr.at GM9 kd_41 (by decide)).trans (Pe41M8.trans ((UM6.1 41 (by decide)).trans ((UM4.1 41 (by decide)).trans (TM1 41 rfl))))))), ((Fr.at GM11 kd_76 (by decide)).trans ((Fr.at GM10 kd_76 (by decide)).trans ((Fr.at GM9 kd_76 (by decide)).trans (Pe76M8.trans ((UM6.1 76 (by decide)).trans ((UM4.1 76 (by decide)).trans (TM1 76 rfl)))))))⟩, (by have w := (o_i_of ((congrArg (fun e => o_f e 10) (Fr.at GM11 kd_0 (by decide))).trans ((congrArg (fun e => o_f e 10) (Fr.at GM10 kd_0 (by decide))).trans ((congrArg (fun e => o_f e 10) (Fr.at GM9 kd_0 (by decide))).trans ((congrArg (fun e => o_f e 10) (Fr.at GM8 kd_0 (by decide))).trans fM6))))); have w2 := (o_i_of ((congrArg (fun e => o_f e 10) (Fr.at GM11 kd_1 (by decide))).trans ((congrArg (fun e => o_f e 10) (Fr.at GM10 kd_1 (by decide))).trans ((congrArg (fun e => o_f e 10) (Fr.at GM9 kd_1 (by decide))).trans ((congrArg (fun e => o_f e 10) (Fr.at GM8 kd_1 (by decide))).trans ((UM6.f (Or.inl (g_ne kd_1 kd_0 (by decide)))).trans fx5)))))); have g10 := ((congrArg (fun e => o_i e 10) (Fr.at GM11 kd_1 (by decide))).trans ((congrArg (fun e => o_i e 10) (Fr.at GM10 kd_1 (by decide))).trans ((congrArg (fun e => o_i e 10) (Fr.at GM9 kd_1 (by decide))).trans ((congrArg (fun e => o_i e 10) (Fr.at GM8 kd_1 (by decide))).trans ((congrArg (fun e => o_i e 10) (UM6.1 1 (by decide))).trans (UM4.i (c := 1) (k := 10) (Or.inr (by decide)))))))); have w3 := PtM1.1.2.2.1; omega)⟩
  · skip
    refine PW.istore_n q_102_11 (by decide) ?_
    refine PW.aload_n q_102_12 rfl ?_
    refine PW.gR 1 q_102_13 (Or.inl t_ft_102_10) gF_0_0 kd_0 IM1.1 (by decide) rfl ?_
    refine PW.cI q_102_16 (by decide) fun c13 hc13 => ?_
    refine PW.pI q_102_17 (Or.inr t_fN_102_73) gF_1_1 gP_1_1 kd_1 StabS IM1 (by decide) rfl (by omega) (by omega) fun M14 IM14 fM14 UM14 => ?_
    have FM14 := Fr.pu FM1 UM14.1 kd_1 (rfl : List.contains [0, 1, 4, 5, 7, 9, 10, 13, 14, 21, 27, 28, 29, 30, 31, 32, 33, 34, 35, 36] 1 = true)
    refine PW.aload_n q_102_20 rfl ?_
    refine PW.aload_n q_102_21 rfl ?_
    refine PW.gR 1 q_102_22 (Or.inl t_ft_102_10) gF_0_0 kd_0 IM14.1 (by decide) rfl ?_
    refine PW.gI q_102_25 (Or.inr t_fN_102_85) gF_1_10 kd_1 IM14.1 (by decide) fun x15 fx15 hx15 kx15 => ?_
    have ix15 := o_i_of fx15
    clear hx15 kx15
    refine PW.pI q_102_28 (Or.inl t_ft_102_88) gF_0_10 gP_0_10 kd_0 StabS IM14 (by decide) rfl (n_lo _) (n_hi _) fun M16 IM16 fM16 UM16 => ?_
    have FM16 := Fr.pu FM14 UM16.1 kd_0 (rfl : List.contains [0, 1, 4, 5, 7, 9, 10, 13, 14, 21, 27, 28, 29, 30, 31, 32, 33, 34, 35, 36] 0 = true)
    refine PW.iload_n q_102_31 rfl ?_
    refine PW.jz_ne q_102_32 rfl (fun h17 => False.elim (by omega)) (fun h17 => ?_)
    refine PW.cI q_102_35 (by decide) fun c18 hc18 => ?_
    refine PW.aload_n q_102_36 rfl ?_
    refine PW.gR 1 q_102_37 (Or.inl t_ft_102_10) gF_0_0 kd_0 IM16.1 (by decide) rfl ?_
    refine PW.gI q_102_40 (Or.inr t_fN_102_91) gF_1_11 kd_1 IM16.1 (by decide) fun x19 fx19 hx19 kx19 => ?_
    have ix19 := o_i_of fx19
    clear hx19 kx19
    refine PW.subN q_102_43 (by have := n_lo x19; have := n_hi x19; omega) (by have := n_lo x19; have := n_hi x19; omega) fun x20 hx20 => ?_
    refine PW.rI q_102_44 rfl (by decide) (by decide) ?_
    have g11 : o_i (M16 1) 11 = o_i (M1 1) 11 := ((congrArg (fun e => o_i e 11) (UM16.1 1 (by decide))).trans (UM14.i (c := 1) (k := 11) (Or.inr (by decide))))
    exact hK x20 M16 ⟨IM16.1, IM16.2.1⟩ FM16 ⟨by unfold k_beach; rw [if_neg PbM1]; omega, (by have w := (o_i_of ((UM16.f (Or.inl (g_ne kd_1 kd_0 (by decide)))).trans fM14)); omega), ⟨Or.inl ⟨PbM1, ((UM16.1 4 (by decide)).trans ((UM14.1 4 (by decide)).trans (TM1 4 rfl)))⟩, ((UM16.1 40 (by decide)).trans ((UM14.1 40 (by decide)).trans (TM1 40 rfl))), ((UM16.1 75 (by decide)).trans ((UM14.1 75 (by decide)).trans (TM1 75 rfl)))⟩, ⟨Or.inl ⟨PbM1, ((UM16.1 5 (by decide)).trans ((UM14.1 5 (by decide)).trans (TM1 5 rfl)))⟩, ((UM16.1 41 (by decide)).trans ((UM14.1 41 (by decide)).trans (TM1 41 rfl))), ((UM16.1 76 (by decide)).trans ((UM14.1 76 (by decide)).trans (TM1 76 rfl)))⟩, (by have w := (o_i_of fM16); have w2 := (o_i_of ((UM16.f (Or.inl (g_ne kd_1 kd_0 (by decide)))).trans fx15)); have g10 := ((congrArg (fun e => o_i e 10) (UM16.1 1 (by decide))).trans (UM14.i (c := 1) (k := 10) (Or.inr (by decide)))); omega)⟩
