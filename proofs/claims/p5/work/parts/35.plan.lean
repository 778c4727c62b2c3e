theorem q_20_0 : p_tb 20 0 = some (.aload_n 0, 1) := by decide +kernel
theorem q_20_1 : p_tb 20 1 = some (.iconst 0, 1) := by decide +kernel
theorem q_20_2 : p_tb 20 2 = some (.putfield 47, 3) := by decide +kernel
theorem q_20_5 : p_tb 20 5 = some (.aload_n 0, 1) := by decide +kernel
theorem q_20_6 : p_tb 20 6 = some (.sipush 400, 3) := by decide +kernel
theorem q_20_9 : p_tb 20 9 = some (.putfield 51, 3) := by decide +kernel
theorem q_20_12 : p_tb 20 12 = some (.aload_n 0, 1) := by decide +kernel
theorem q_20_13 : p_tb 20 13 = some (.iconst 1, 1) := by decide +kernel
theorem q_20_14 : p_tb 20 14 = some (.putfield 54, 3) := by decide +kernel
theorem q_20_17 : p_tb 20 17 = some (.aload_n 0, 1) := by decide +kernel
theorem q_20_18 : p_tb 20 18 = some (.iconst (-1), 1) := by decide +kernel
theorem q_20_19 : p_tb 20 19 = some (.putfield 57, 3) := by decide +kernel
theorem q_20_22 : p_tb 20 22 = some (.aload_n 0, 1) := by decide +kernel
theorem q_20_23 : p_tb 20 23 = some (.iconst 0, 1) := by decide +kernel
theorem q_20_24 : p_tb 20 24 = some (.putfield 60, 3) := by decide +kernel
theorem q_20_27 : p_tb 20 27 = some (.aload_n 0, 1) := by decide +kernel
theorem q_20_28 : p_tb 20 28 = some (.iconst 0, 1) := by decide +kernel
theorem q_20_29 : p_tb 20 29 = some (.putfield 64, 3) := by decide +kernel
theorem q_20_32 : p_tb 20 32 = some (.aload_n 0, 1) := by decide +kernel
theorem q_20_33 : p_tb 20 33 = some (.iconst 0, 1) := by decide +kernel
theorem q_20_34 : p_tb 20 34 = some (.putfield 67, 3) := by decide +kernel
theorem q_20_37 : p_tb 20 37 = some (.aload_n 0, 1) := by decide +kernel
theorem q_20_38 : p_tb 20 38 = some (.iconst 0, 1) := by decide +kernel
theorem q_20_39 : p_tb 20 39 = some (.putfield 70, 3) := by decide +kernel
theorem q_20_42 : p_tb 20 42 = some (.return_, 1) := by decide +kernel
theorem t_ft_20_47 : p_f2 p_ft (p_mK 20) 47 = some (3, 0) := by decide +kernel
theorem t_ft_20_51 : p_f2 p_ft (p_mK 20) 51 = some (3, 1) := by decide +kernel
theorem t_ft_20_54 : p_f2 p_ft (p_mK 20) 54 = some (3, 2) := by decide +kernel
theorem t_ft_20_57 : p_f2 p_ft (p_mK 20) 57 = some (3, 3) := by decide +kernel
theorem t_ft_20_60 : p_f2 p_ft (p_mK 20) 60 = some (3, 4) := by decide +kernel
theorem t_ft_20_64 : p_f2 p_ft (p_mK 20) 64 = some (3, 5) := by decide +kernel
theorem t_ft_20_67 : p_f2 p_ft (p_mK 20) 67 = some (3, 6) := by decide +kernel
theorem t_ft_20_70 : p_f2 p_ft (p_mK 20) 70 = some (3, 7) := by decide +kernel
theorem q_21_0 : p_tb 21 0 = some (.aload_n 0, 1) := by decide +kernel
theorem q_21_1 : p_tb 21 1 = some (.aload_n 1, 1) := by decide +kernel
theorem q_21_2 : p_tb 21 2 = some (.getfield 47, 3) := by decide +kernel
theorem q_21_5 : p_tb 21 5 = some (.putfield 47, 3) := by decide +kernel
theorem q_21_8 : p_tb 21 8 = some (.aload_n 0, 1) := by decide +kernel
theorem q_21_9 : p_tb 21 9 = some (.aload_n 1, 1) := by decide +kernel
theorem q_21_10 : p_tb 21 10 = some (.getfield 51, 3) := by decide +kernel
theorem q_21_13 : p_tb 21 13 = some (.putfield 51, 3) := by decide +kernel
theorem q_21_16 : p_tb 21 16 = some (.aload_n 0, 1) := by decide +kernel
theorem q_21_17 : p_tb 21 17 = some (.aload_n 1, 1) := by decide +kernel
theorem q_21_18 : p_tb 21 18 = some (.getfield 54, 3) := by decide +kernel
theorem q_21_21 : p_tb 21 21 = some (.putfield 54, 3) := by decide +kernel
theorem q_21_24 : p_tb 21 24 = some (.aload_n 0, 1) := by decide +kernel
theorem q_21_25 : p_tb 21 25 = some (.aload_n 1, 1) := by decide +kernel
theorem q_21_26 : p_tb 21 26 = some (.getfield 57, 3) := by decide +kernel
theorem q_21_29 : p_tb 21 29 = some (.putfield 57, 3) := by decide +kernel
theorem q_21_32 : p_tb 21 32 = some (.aload_n 0, 1) := by decide +kernel
theorem q_21_33 : p_tb 21 33 = some (.aload_n 1, 1) := by decide +kernel
theorem q_21_34 : p_tb 21 34 = some (.getfield 60, 3) := by decide +kernel
theorem q_21_37 : p_tb 21 37 = some (.putfield 60, 3) := by decide +kernel
theorem q_21_40 : p_tb 21 40 = some (.aload_n 0, 1) := by decide +kernel
theorem q_21_41 : p_tb 21 41 = some (.aload_n 1, 1) := by decide +kernel
theorem q_21_42 : p_tb 21 42 = some (.getfield 64, 3) := by decide +kernel
theorem q_21_45 : p_tb 21 45 = some (.putfield 64, 3) := by decide +kernel
theorem q_21_48 : p_tb 21 48 = some (.aload_n 0, 1) := by decide +kernel
theorem q_21_49 : p_tb 21 49 = some (.aload_n 1, 1) := by decide +kernel
theorem q_21_50 : p_tb 21 50 = some (.getfield 67, 3) := by decide +kernel
theorem q_21_53 : p_tb 21 53 = some (.putfield 67, 3) := by decide +kernel
theorem q_21_56 : p_tb 21 56 = some (.aload_n 0, 1) := by decide +kernel
theorem q_21_57 : p_tb 21 57 = some (.aload_n 1, 1) := by decide +kernel
theorem q_21_58 : p_tb 21 58 = some (.getfield 70, 3) := by decide +kernel
theorem q_21_61 : p_tb 21 61 = some (.putfield 70, 3) := by decide +kernel
theorem q_21_64 : p_tb 21 64 = some (.iconst 0, 1) := by decide +kernel
theorem q_21_65 : p_tb 21 65 = some (.istore_n 2, 1) := by decide +kernel
theorem q_21_66 : p_tb 21 66 = some (.iload_n 2, 1) := by decide +kernel
theorem q_21_67 : p_tb 21 67 = some (.bipush 6, 2) := by decide +kernel
theorem q_21_69 : p_tb 21 69 = some (.if_icmp .ge 57, 3) := by decide +kernel
theorem q_21_72 : p_tb 21 72 = some (.aload_n 0, 1) := by decide +kernel
theorem q_21_73 : p_tb 21 73 = some (.getfield 9, 3) := by decide +kernel
theorem q_21_76 : p_tb 21 76 = some (.iload_n 2, 1) := by decide +kernel
theorem q_21_77 : p_tb 21 77 = some (.aload_n 1, 1) := by decide +kernel
theorem q_21_78 : p_tb 21 78 = some (.getfield 9, 3) := by decide +kernel
theorem q_21_81 : p_tb 21 81 = some (.iload_n 2, 1) := by decide +kernel
theorem q_21_82 : p_tb 21 82 = some (.laload, 1) := by decide +kernel
theorem q_21_83 : p_tb 21 83 = some (.lastore, 1) := by decide +kernel
theorem q_21_84 : p_tb 21 84 = some (.aload_n 0, 1) := by decide +kernel
theorem q_21_85 : p_tb 21 85 = some (.getfield 15, 3) := by decide +kernel
theorem q_21_88 : p_tb 21 88 = some (.iload_n 2, 1) := by decide +kernel
theorem q_21_89 : p_tb 21 89 = some (.aload_n 1, 1) := by decide +kernel
theorem q_21_90 : p_tb 21 90 = some (.getfield 15, 3) := by decide +kernel
theorem q_21_93 : p_tb 21 93 = some (.iload_n 2, 1) := by decide +kernel
theorem q_21_94 : p_tb 21 94 = some (.iaload, 1) := by decide +kernel
theorem q_21_95 : p_tb 21 95 = some (.iastore, 1) := by decide +kernel
theorem q_21_96 : p_tb 21 96 = some (.aload_n 0, 1) := by decide +kernel
theorem q_21_97 : p_tb 21 97 = some (.getfield 19, 3) := by decide +kernel
theorem q_21_100 : p_tb 21 100 = some (.iload_n 2, 1) := by decide +kernel
theorem q_21_101 : p_tb 21 101 = some (.aload_n 1, 1) := by decide +kernel
theorem q_21_102 : p_tb 21 102 = some (.getfield 19, 3) := by decide +kernel
theorem q_21_105 : p_tb 21 105 = some (.iload_n 2, 1) := by decide +kernel
theorem q_21_106 : p_tb 21 106 = some (.iaload, 1) := by decide +kernel
theorem q_21_107 : p_tb 21 107 = some (.iastore, 1) := by decide +kernel
theorem q_21_108 : p_tb 21 108 = some (.aload_n 0, 1) := by decide +kernel
theorem q_21_109 : p_tb 21 109 = some (.getfield 22, 3) := by decide +kernel
theorem q_21_112 : p_tb 21 112 = some (.iload_n 2, 1) := by decide +kernel
theorem q_21_113 : p_tb 21 113 = some (.aload_n 1, 1) := by decide +kernel
theorem q_21_114 : p_tb 21 114 = some (.getfield 22, 3) := by decide +kernel
theorem q_21_117 : p_tb 21 117 = some (.iload_n 2, 1) := by decide +kernel
theorem q_21_118 : p_tb 21 118 = some (.baload, 1) := by decide +kernel
theorem q_21_119 : p_tb 21 119 = some (.bastore, 1) := by decide +kernel
theorem q_21_120 : p_tb 21 120 = some (.iinc 2 1, 3) := by decide +kernel
theorem q_21_123 : p_tb 21 123 = some (.goto (-57), 3) := by decide +kernel
theorem q_21_126 : p_tb 21 126 = some (.iconst 0, 1) := by decide +kernel
theorem q_21_127 : p_tb 21 127 = some (.istore_n 2, 1) := by decide +kernel
theorem q_21_128 : p_tb 21 128 = some (.iload_n 2, 1) := by decide +kernel
theorem q_21_129 : p_tb 21 129 = some (.iconst 2, 1) := by decide +kernel
theorem q_21_130 : p_tb 21 130 = some (.if_icmp .ge 81, 3) := by decide +kernel
theorem q_21_133 : p_tb 21 133 = some (.aload_n 0, 1) := by decide +kernel
theorem q_21_134 : p_tb 21 134 = some (.getfield 26, 3) := by decide +kernel
theorem q_21_137 : p_tb 21 137 = some (.iload_n 2, 1) := by decide +kernel
theorem q_21_138 : p_tb 21 138 = some (.aload_n 1, 1) := by decide +kernel
theorem q_21_139 : p_tb 21 139 = some (.getfield 26, 3) := by decide +kernel
theorem q_21_142 : p_tb 21 142 = some (.iload_n 2, 1) := by decide +kernel
theorem q_21_143 : p_tb 21 143 = some (.laload, 1) := by decide +kernel
theorem q_21_144 : p_tb 21 144 = some (.lastore, 1) := by decide +kernel
theorem q_21_145 : p_tb 21 145 = some (.aload_n 0, 1) := by decide +kernel
theorem q_21_146 : p_tb 21 146 = some (.getfield 29, 3) := by decide +kernel
theorem q_21_149 : p_tb 21 149 = some (.iload_n 2, 1) := by decide +kernel
theorem q_21_150 : p_tb 21 150 = some (.aload_n 1, 1) := by decide +kernel
theorem q_21_151 : p_tb 21 151 = some (.getfield 29, 3) := by decide +kernel
theorem q_21_154 : p_tb 21 154 = some (.iload_n 2, 1) := by decide +kernel
theorem q_21_155 : p_tb 21 155 = some (.iaload, 1) := by decide +kernel
theorem q_21_156 : p_tb 21 156 = some (.iastore, 1) := by decide +kernel
theorem q_21_157 : p_tb 21 157 = some (.aload_n 0, 1) := by decide +kernel
theorem q_21_158 : p_tb 21 158 = some (.getfield 32, 3) := by decide +kernel
theorem q_21_161 : p_tb 21 161 = some (.iload_n 2, 1) := by decide +kernel
theorem q_21_162 : p_tb 21 162 = some (.aload_n 1, 1) := by decide +kernel
theorem q_21_163 : p_tb 21 163 = some (.getfield 32, 3) := by decide +kernel
theorem q_21_166 : p_tb 21 166 = some (.iload_n 2, 1) := by decide +kernel
theorem q_21_167 : p_tb 21 167 = some (.iaload, 1) := by decide +kernel
theorem q_21_168 : p_tb 21 168 = some (.iastore, 1) := by decide +kernel
theorem q_21_169 : p_tb 21 169 = some (.aload_n 0, 1) := by decide +kernel
theorem q_21_170 : p_tb 21 170 = some (.getfield 35, 3) := by decide +kernel
theorem q_21_173 : p_tb 21 173 = some (.iload_n 2, 1) := by decide +kernel
theorem q_21_174 : p_tb 21 174 = some (.aload_n 1, 1) := by decide +kernel
theorem q_21_175 : p_tb 21 175 = some (.getfield 35, 3) := by decide +kernel
theorem q_21_178 : p_tb 21 178 = some (.iload_n 2, 1) := by decide +kernel
theorem q_21_179 : p_tb 21 179 = some (.iaload, 1) := by decide +kernel
theorem q_21_180 : p_tb 21 180 = some (.iastore, 1) := by decide +kernel
theorem q_21_181 : p_tb 21 181 = some (.aload_n 0, 1) := by decide +kernel
theorem q_21_182 : p_tb 21 182 = some (.getfield 38, 3) := by decide +kernel
theorem q_21_185 : p_tb 21 185 = some (.iload_n 2, 1) := by decide +kernel
theorem q_21_186 : p_tb 21 186 = some (.aload_n 1, 1) := by decide +kernel
theorem q_21_187 : p_tb 21 187 = some (.getfield 38, 3) := by decide +kernel
theorem q_21_190 : p_tb 21 190 = some (.iload_n 2, 1) := by decide +kernel
theorem q_21_191 : p_tb 21 191 = some (.iaload, 1) := by decide +kernel
theorem q_21_192 : p_tb 21 192 = some (.iastore, 1) := by decide +kernel
theorem q_21_193 : p_tb 21 193 = some (.aload_n 0, 1) := by decide +kernel
theorem q_21_194 : p_tb 21 194 = some (.getfield 41, 3) := by decide +kernel
theorem q_21_197 : p_tb 21 197 = some (.iload_n 2, 1) := by decide +kernel
theorem q_21_198 : p_tb 21 198 = some (.aload_n 1, 1) := by decide +kernel
theorem q_21_199 : p_tb 21 199 = some (.getfield 41, 3) := by decide +kernel
theorem q_21_202 : p_tb 21 202 = some (.iload_n 2, 1) := by decide +kernel
theorem q_21_203 : p_tb 21 203 = some (.iaload, 1) := by decide +kernel
theorem q_21_204 : p_tb 21 204 = some (.iastore, 1) := by decide +kernel
theorem q_21_205 : p_tb 21 205 = some (.iinc 2 1, 3) := by decide +kernel
theorem q_21_208 : p_tb 21 208 = some (.goto (-80), 3) := by decide +kernel
theorem q_21_211 : p_tb 21 211 = some (.return_, 1) := by decide +kernel
theorem t_ft_21_15 : p_f2 p_ft (p_mK 21) 15 = some (3, 9) := by decide +kernel
theorem t_ft_21_19 : p_f2 p_ft (p_mK 21) 19 = some (3, 10) := by decide +kernel
theorem t_ft_21_22 : p_f2 p_ft (p_mK 21) 22 = some (3, 11) := by decide +kernel
theorem t_ft_21_26 : p_f2 p_ft (p_mK 21) 26 = some (3, 12) := by decide +kernel
theorem t_ft_21_29 : p_f2 p_ft (p_mK 21) 29 = some (3, 13) := by decide +kernel
theorem t_ft_21_32 : p_f2 p_ft (p_mK 21) 32 = some (3, 14) := by decide +kernel
theorem t_ft_21_35 : p_f2 p_ft (p_mK 21) 35 = some (3, 15) := by decide +kernel
theorem t_ft_21_38 : p_f2 p_ft (p_mK 21) 38 = some (3, 16) := by decide +kernel
theorem t_ft_21_41 : p_f2 p_ft (p_mK 21) 41 = some (3, 17) := by decide +kernel
theorem t_ft_21_47 : p_f2 p_ft (p_mK 21) 47 = some (3, 0) := by decide +kernel
theorem t_ft_21_51 : p_f2 p_ft (p_mK 21) 51 = some (3, 1) := by decide +kernel
theorem t_ft_21_54 : p_f2 p_ft (p_mK 21) 54 = some (3, 2) := by decide +kernel
theorem t_ft_21_57 : p_f2 p_ft (p_mK 21) 57 = some (3, 3) := by decide +kernel
theorem t_ft_21_60 : p_f2 p_ft (p_mK 21) 60 = some (3, 4) := by decide +kernel
theorem t_ft_21_64 : p_f2 p_ft (p_mK 21) 64 = some (3, 5) := by decide +kernel
theorem t_ft_21_67 : p_f2 p_ft (p_mK 21) 67 = some (3, 6) := by decide +kernel
theorem t_ft_21_70 : p_f2 p_ft (p_mK 21) 70 = some (3, 7) := by decide +kernel
theorem t_ft_21_9 : p_f2 p_ft (p_mK 21) 9 = some (3, 8) := by decide +kernel
theorem gB_32_0_1 : gB 32 0 1 (-1) 5 := gB.of (by decide +kernel)
theorem gC_28_0_5 : gC 28 0 5 (-2147483648) 2147483647 := gC.of (by decide +kernel)
theorem gC_29_0_5 : gC 29 0 5 (-2147483648) 2147483647 := gC.of (by decide +kernel)
theorem gC_30_0_5 : gC 30 0 5 0 1 := gC.of (by decide +kernel)
theorem gC_33_0_1 : gC 33 0 1 (-2147483648) 2147483647 := gC.of (by decide +kernel)
theorem gC_34_0_1 : gC 34 0 1 (-2147483648) 2147483647 := gC.of (by decide +kernel)
theorem gC_35_0_1 : gC 35 0 1 (-2147483648) 2147483647 := gC.of (by decide +kernel)
theorem gC_36_0_1 : gC 36 0 1 (-2147483648) 2147483647 := gC.of (by decide +kernel)
theorem gC_32_0_1 : gC 32 0 1 (-1) 5 := gC.of (by decide +kernel)
theorem q_28_0 : p_tb 28 0 = some (.aload_n 1, 1) := by decide +kernel
theorem q_28_1 : p_tb 28 1 = some (.getfield 160, 3) := by decide +kernel
theorem q_28_4 : p_tb 28 4 = some (.iconst 3, 1) := by decide +kernel
theorem q_28_5 : p_tb 28 5 = some (.if_icmp .eq 9, 3) := by decide +kernel
theorem q_28_8 : p_tb 28 8 = some (.aload_n 1, 1) := by decide +kernel
theorem q_28_9 : p_tb 28 9 = some (.iconst 1, 1) := by decide +kernel
theorem q_28_10 : p_tb 28 10 = some (.invokevirtual 137, 3) := by decide +kernel
theorem q_28_13 : p_tb 28 13 = some (.ireturn, 1) := by decide +kernel
theorem q_28_14 : p_tb 28 14 = some (.aload_n 0, 1) := by decide +kernel
theorem q_28_15 : p_tb 28 15 = some (.getfield 9, 3) := by decide +kernel
theorem q_28_18 : p_tb 28 18 = some (.aload_n 0, 1) := by decide +kernel
theorem q_28_19 : p_tb 28 19 = some (.getfield 67, 3) := by decide +kernel
theorem q_28_22 : p_tb 28 22 = some (.aload_n 1, 1) := by decide +kernel
theorem q_28_23 : p_tb 28 23 = some (.getfield 150, 3) := by decide +kernel
theorem q_28_26 : p_tb 28 26 = some (.invokestatic 163, 3) := by decide +kernel
theorem q_28_29 : p_tb 28 29 = some (.iconst (-1), 1) := by decide +kernel
theorem q_28_30 : p_tb 28 30 = some (.if_icmp .ne 22, 3) := by decide +kernel
theorem q_28_33 : p_tb 28 33 = some (.aload_n 0, 1) := by decide +kernel
theorem q_28_34 : p_tb 28 34 = some (.getfield 26, 3) := by decide +kernel
theorem q_28_37 : p_tb 28 37 = some (.aload_n 0, 1) := by decide +kernel
theorem q_28_38 : p_tb 28 38 = some (.getfield 70, 3) := by decide +kernel
theorem q_28_41 : p_tb 28 41 = some (.aload_n 1, 1) := by decide +kernel
theorem q_28_42 : p_tb 28 42 = some (.getfield 150, 3) := by decide +kernel
theorem q_28_45 : p_tb 28 45 = some (.invokestatic 163, 3) := by decide +kernel
theorem q_28_48 : p_tb 28 48 = some (.iconst (-1), 1) := by decide +kernel
theorem q_28_49 : p_tb 28 49 = some (.if_icmp .eq 7, 3) := by decide +kernel
theorem q_28_52 : p_tb 28 52 = some (.iconst 1, 1) := by decide +kernel
theorem q_28_53 : p_tb 28 53 = some (.goto 4, 3) := by decide +kernel
theorem q_28_56 : p_tb 28 56 = some (.iconst 0, 1) := by decide +kernel
theorem q_28_57 : p_tb 28 57 = some (.istore_n 2, 1) := by decide +kernel
theorem q_28_58 : p_tb 28 58 = some (.iload_n 2, 1) := by decide +kernel
theorem q_28_59 : p_tb 28 59 = some (.ifCond .eq 11, 3) := by decide +kernel
theorem q_28_62 : p_tb 28 62 = some (.aload_n 1, 1) := by decide +kernel
theorem q_28_63 : p_tb 28 63 = some (.iconst 3, 1) := by decide +kernel
theorem q_28_64 : p_tb 28 64 = some (.invokevirtual 137, 3) := by decide +kernel
theorem q_28_67 : p_tb 28 67 = some (.ifCond .eq 7, 3) := by decide +kernel
theorem q_28_70 : p_tb 28 70 = some (.iconst 1, 1) := by decide +kernel
theorem q_28_71 : p_tb 28 71 = some (.goto 4, 3) := by decide +kernel
theorem q_28_74 : p_tb 28 74 = some (.iconst 0, 1) := by decide +kernel
theorem q_28_75 : p_tb 28 75 = some (.ireturn, 1) := by decide +kernel
theorem t_fN_28_150 : p_f2 p_fN (p_mK 28) 150 = some (7, 7) := by decide +kernel
theorem t_fN_28_160 : p_f2 p_fN (p_mK 28) 160 = some (7, 5) := by decide +kernel
theorem t_ft_28_26 : p_f2 p_ft (p_mK 28) 26 = some (3, 12) := by decide +kernel
theorem t_ft_28_67 : p_f2 p_ft (p_mK 28) 67 = some (3, 6) := by decide +kernel
theorem t_ft_28_70 : p_f2 p_ft (p_mK 28) 70 = some (3, 7) := by decide +kernel
theorem t_ft_28_9 : p_f2 p_ft (p_mK 28) 9 = some (3, 8) := by decide +kernel
theorem t_ms_28_163 : p_f2 p_ms (p_mK 28) 163 = some 92 := by decide +kernel
theorem t_mv_28_137 : p_f2 p_mv (p_mK 28) 137 = some 83 := by decide +kernel
theorem q_24_0 : p_tb 24 0 = some (.aload_n 0, 1) := by decide +kernel
theorem q_24_1 : p_tb 24 1 = some (.getfield 60, 3) := by decide +kernel
theorem q_24_4 : p_tb 24 4 = some (.ifCond .ne 10, 3) := by decide +kernel
theorem q_24_7 : p_tb 24 7 = some (.aload_n 0, 1) := by decide +kernel
theorem q_24_8 : p_tb 24 8 = some (.getfield 67, 3) := by decide +kernel
theorem q_24_11 : p_tb 24 11 = some (.ifCond .le 9, 3) := by decide +kernel
theorem q_24_14 : p_tb 24 14 = some (.aload_n 1, 1) := by decide +kernel
theorem q_24_15 : p_tb 24 15 = some (.iconst 3, 1) := by decide +kernel
theorem q_24_16 : p_tb 24 16 = some (.invokevirtual 137, 3) := by decide +kernel
theorem q_24_19 : p_tb 24 19 = some (.ireturn, 1) := by decide +kernel
theorem q_24_20 : p_tb 24 20 = some (.aload_n 0, 1) := by decide +kernel
theorem q_24_21 : p_tb 24 21 = some (.iconst 1, 1) := by decide +kernel
theorem q_24_22 : p_tb 24 22 = some (.putfield 60, 3) := by decide +kernel
theorem q_24_25 : p_tb 24 25 = some (.aload_n 1, 1) := by decide +kernel
theorem q_24_26 : p_tb 24 26 = some (.invokevirtual 140, 3) := by decide +kernel
theorem q_24_29 : p_tb 24 29 = some (.aload_n 0, 1) := by decide +kernel
theorem q_24_30 : p_tb 24 30 = some (.aload_n 1, 1) := by decide +kernel
theorem q_24_31 : p_tb 24 31 = some (.iconst 1, 1) := by decide +kernel
theorem q_24_32 : p_tb 24 32 = some (.sipush 900, 3) := by decide +kernel
theorem q_24_35 : p_tb 24 35 = some (.invokevirtual 143, 3) := by decide +kernel
theorem q_24_38 : p_tb 24 38 = some (.putfield 51, 3) := by decide +kernel
theorem q_24_41 : p_tb 24 41 = some (.aload_n 0, 1) := by decide +kernel
theorem q_24_42 : p_tb 24 42 = some (.getfield 51, 3) := by decide +kernel
theorem q_24_45 : p_tb 24 45 = some (.iconst (-1), 1) := by decide +kernel
theorem q_24_46 : p_tb 24 46 = some (.if_icmp .eq 7, 3) := by decide +kernel
theorem q_24_49 : p_tb 24 49 = some (.iconst 1, 1) := by decide +kernel
theorem q_24_50 : p_tb 24 50 = some (.goto 4, 3) := by decide +kernel
theorem q_24_53 : p_tb 24 53 = some (.iconst 0, 1) := by decide +kernel
theorem q_24_54 : p_tb 24 54 = some (.ireturn, 1) := by decide +kernel
theorem t_ft_24_51 : p_f2 p_ft (p_mK 24) 51 = some (3, 1) := by decide +kernel
theorem t_ft_24_60 : p_f2 p_ft (p_mK 24) 60 = some (3, 4) := by decide +kernel
theorem t_ft_24_67 : p_f2 p_ft (p_mK 24) 67 = some (3, 6) := by decide +kernel
theorem t_mv_24_137 : p_f2 p_mv (p_mK 24) 137 = some 83 := by decide +kernel
theorem t_mv_24_140 : p_f2 p_mv (p_mK 24) 140 = some 77 := by decide +kernel
theorem t_mv_24_143 : p_f2 p_mv (p_mK 24) 143 = some 90 := by decide +kernel
theorem q_25_0 : p_tb 25 0 = some (.aload_n 0, 1) := by decide +kernel
theorem q_25_1 : p_tb 25 1 = some (.getfield 64, 3) := by decide +kernel
theorem q_25_4 : p_tb 25 4 = some (.ifCond .eq 9, 3) := by decide +kernel
theorem q_25_7 : p_tb 25 7 = some (.aload_n 1, 1) := by decide +kernel
theorem q_25_8 : p_tb 25 8 = some (.iconst 3, 1) := by decide +kernel
theorem q_25_9 : p_tb 25 9 = some (.invokevirtual 137, 3) := by decide +kernel
theorem q_25_12 : p_tb 25 12 = some (.ireturn, 1) := by decide +kernel
theorem q_25_13 : p_tb 25 13 = some (.aload_n 0, 1) := by decide +kernel
theorem q_25_14 : p_tb 25 14 = some (.iconst 1, 1) := by decide +kernel
theorem q_25_15 : p_tb 25 15 = some (.putfield 64, 3) := by decide +kernel
theorem q_25_18 : p_tb 25 18 = some (.aload_n 1, 1) := by decide +kernel
theorem q_25_19 : p_tb 25 19 = some (.invokevirtual 140, 3) := by decide +kernel
theorem q_25_22 : p_tb 25 22 = some (.aload_n 0, 1) := by decide +kernel
theorem q_25_23 : p_tb 25 23 = some (.aload_n 1, 1) := by decide +kernel
theorem q_25_24 : p_tb 25 24 = some (.iconst 0, 1) := by decide +kernel
theorem q_25_25 : p_tb 25 25 = some (.bipush 9, 2) := by decide +kernel
theorem q_25_27 : p_tb 25 27 = some (.invokevirtual 143, 3) := by decide +kernel
theorem q_25_30 : p_tb 25 30 = some (.putfield 54, 3) := by decide +kernel
theorem q_25_33 : p_tb 25 33 = some (.aload_n 0, 1) := by decide +kernel
theorem q_25_34 : p_tb 25 34 = some (.getfield 54, 3) := by decide +kernel
theorem q_25_37 : p_tb 25 37 = some (.iconst (-1), 1) := by decide +kernel
theorem q_25_38 : p_tb 25 38 = some (.if_icmp .eq 7, 3) := by decide +kernel
theorem q_25_41 : p_tb 25 41 = some (.iconst 1, 1) := by decide +kernel
theorem q_25_42 : p_tb 25 42 = some (.goto 4, 3) := by decide +kernel
theorem q_25_45 : p_tb 25 45 = some (.iconst 0, 1) := by decide +kernel
theorem q_25_46 : p_tb 25 46 = some (.ireturn, 1) := by decide +kernel
theorem t_ft_25_54 : p_f2 p_ft (p_mK 25) 54 = some (3, 2) := by decide +kernel
theorem t_ft_25_64 : p_f2 p_ft (p_mK 25) 64 = some (3, 5) := by decide +kernel
theorem t_mv_25_137 : p_f2 p_mv (p_mK 25) 137 = some 83 := by decide +kernel
theorem t_mv_25_140 : p_f2 p_mv (p_mK 25) 140 = some 77 := by decide +kernel
theorem t_mv_25_143 : p_f2 p_mv (p_mK 25) 143 = some 90 := by decide +kernel
theorem q_26_0 : p_tb 26 0 = some (.aload_n 0, 1) := by decide +kernel
theorem q_26_1 : p_tb 26 1 = some (.getfield 57, 3) := by decide +kernel
theorem q_26_4 : p_tb 26 4 = some (.iconst (-1), 1) := by decide +kernel
theorem q_26_5 : p_tb 26 5 = some (.if_icmp .eq 9, 3) := by decide +kernel
theorem q_26_8 : p_tb 26 8 = some (.aload_n 1, 1) := by decide +kernel
theorem q_26_9 : p_tb 26 9 = some (.iconst 3, 1) := by decide +kernel
theorem q_26_10 : p_tb 26 10 = some (.invokevirtual 137, 3) := by decide +kernel
theorem q_26_13 : p_tb 26 13 = some (.ireturn, 1) := by decide +kernel
theorem q_26_14 : p_tb 26 14 = some (.aload_n 1, 1) := by decide +kernel
theorem q_26_15 : p_tb 26 15 = some (.invokevirtual 140, 3) := by decide +kernel
theorem q_26_18 : p_tb 26 18 = some (.aload_n 0, 1) := by decide +kernel
theorem q_26_19 : p_tb 26 19 = some (.aload_n 1, 1) := by decide +kernel
theorem q_26_20 : p_tb 26 20 = some (.iconst 1, 1) := by decide +kernel
theorem q_26_21 : p_tb 26 21 = some (.bipush 99, 2) := by decide +kernel
theorem q_26_23 : p_tb 26 23 = some (.invokevirtual 143, 3) := by decide +kernel
theorem q_26_26 : p_tb 26 26 = some (.putfield 57, 3) := by decide +kernel
theorem q_26_29 : p_tb 26 29 = some (.aload_n 0, 1) := by decide +kernel
theorem q_26_30 : p_tb 26 30 = some (.getfield 57, 3) := by decide +kernel
theorem q_26_33 : p_tb 26 33 = some (.iconst (-1), 1) := by decide +kernel
theorem q_26_34 : p_tb 26 34 = some (.if_icmp .eq 7, 3) := by decide +kernel
theorem q_26_37 : p_tb 26 37 = some (.iconst 1, 1) := by decide +kernel
theorem q_26_38 : p_tb 26 38 = some (.goto 4, 3) := by decide +kernel
theorem q_26_41 : p_tb 26 41 = some (.iconst 0, 1) := by decide +kernel
theorem q_26_42 : p_tb 26 42 = some (.ireturn, 1) := by decide +kernel
theorem t_ft_26_57 : p_f2 p_ft (p_mK 26) 57 = some (3, 3) := by decide +kernel
theorem t_mv_26_137 : p_f2 p_mv (p_mK 26) 137 = some 83 := by decide +kernel
theorem t_mv_26_140 : p_f2 p_mv (p_mK 26) 140 = some 77 := by decide +kernel
theorem t_mv_26_143 : p_f2 p_mv (p_mK 26) 143 = some 90 := by decide +kernel
theorem q_27_0 : p_tb 27 0 = some (.aload_n 0, 1) := by decide +kernel
theorem q_27_1 : p_tb 27 1 = some (.getfield 67, 3) := by decide +kernel
theorem q_27_4 : p_tb 27 4 = some (.bipush 6, 2) := by decide +kernel
theorem q_27_6 : p_tb 27 6 = some (.if_icmp .lt 9, 3) := by decide +kernel
theorem q_27_9 : p_tb 27 9 = some (.aload_n 1, 1) := by decide +kernel
theorem q_27_10 : p_tb 27 10 = some (.iconst 4, 1) := by decide +kernel
theorem q_27_11 : p_tb 27 11 = some (.invokevirtual 137, 3) := by decide +kernel
theorem q_27_14 : p_tb 27 14 = some (.ireturn, 1) := by decide +kernel
theorem q_27_15 : p_tb 27 15 = some (.aload_n 1, 1) := by decide +kernel
theorem q_27_16 : p_tb 27 16 = some (.invokevirtual 140, 3) := by decide +kernel
theorem q_27_19 : p_tb 27 19 = some (.aload_n 0, 1) := by decide +kernel
theorem q_27_20 : p_tb 27 20 = some (.aload_n 1, 1) := by decide +kernel
theorem q_27_21 : p_tb 27 21 = some (.invokevirtual 147, 3) := by decide +kernel
theorem q_27_24 : p_tb 27 24 = some (.ifCond .ne 5, 3) := by decide +kernel
theorem q_27_27 : p_tb 27 27 = some (.iconst 0, 1) := by decide +kernel
theorem q_27_28 : p_tb 27 28 = some (.ireturn, 1) := by decide +kernel
theorem q_27_29 : p_tb 27 29 = some (.aload_n 0, 1) := by decide +kernel
theorem q_27_30 : p_tb 27 30 = some (.getfield 9, 3) := by decide +kernel
theorem q_27_33 : p_tb 27 33 = some (.aload_n 0, 1) := by decide +kernel
theorem q_27_34 : p_tb 27 34 = some (.getfield 67, 3) := by decide +kernel
theorem q_27_37 : p_tb 27 37 = some (.aload_n 1, 1) := by decide +kernel
theorem q_27_38 : p_tb 27 38 = some (.getfield 150, 3) := by decide +kernel
theorem q_27_41 : p_tb 27 41 = some (.lastore, 1) := by decide +kernel
theorem q_27_42 : p_tb 27 42 = some (.aload_n 1, 1) := by decide +kernel
theorem q_27_43 : p_tb 27 43 = some (.invokevirtual 140, 3) := by decide +kernel
theorem q_27_46 : p_tb 27 46 = some (.aload_n 0, 1) := by decide +kernel
theorem q_27_47 : p_tb 27 47 = some (.getfield 15, 3) := by decide +kernel
theorem q_27_50 : p_tb 27 50 = some (.aload_n 0, 1) := by decide +kernel
theorem q_27_51 : p_tb 27 51 = some (.getfield 67, 3) := by decide +kernel
theorem q_27_54 : p_tb 27 54 = some (.aload_n 1, 1) := by decide +kernel
theorem q_27_55 : p_tb 27 55 = some (.iconst 0, 1) := by decide +kernel
theorem q_27_56 : p_tb 27 56 = some (.aload_n 0, 1) := by decide +kernel
theorem q_27_57 : p_tb 27 57 = some (.getfield 51, 3) := by decide +kernel
theorem q_27_60 : p_tb 27 60 = some (.invokevirtual 143, 3) := by decide +kernel
theorem q_27_63 : p_tb 27 63 = some (.iastore, 1) := by decide +kernel
theorem q_27_64 : p_tb 27 64 = some (.aload_n 0, 1) := by decide +kernel
theorem q_27_65 : p_tb 27 65 = some (.getfield 15, 3) := by decide +kernel
theorem q_27_68 : p_tb 27 68 = some (.aload_n 0, 1) := by decide +kernel
theorem q_27_69 : p_tb 27 69 = some (.getfield 67, 3) := by decide +kernel
theorem q_27_72 : p_tb 27 72 = some (.iaload, 1) := by decide +kernel
theorem q_27_73 : p_tb 27 73 = some (.iconst (-1), 1) := by decide +kernel
theorem q_27_74 : p_tb 27 74 = some (.if_icmp .ne 5, 3) := by decide +kernel
theorem q_27_77 : p_tb 27 77 = some (.iconst 0, 1) := by decide +kernel
theorem q_27_78 : p_tb 27 78 = some (.ireturn, 1) := by decide +kernel
theorem q_27_79 : p_tb 27 79 = some (.aload_n 0, 1) := by decide +kernel
theorem q_27_80 : p_tb 27 80 = some (.getfield 19, 3) := by decide +kernel
theorem q_27_83 : p_tb 27 83 = some (.aload_n 0, 1) := by decide +kernel
theorem q_27_84 : p_tb 27 84 = some (.getfield 67, 3) := by decide +kernel
theorem q_27_87 : p_tb 27 87 = some (.aload_n 1, 1) := by decide +kernel
theorem q_27_88 : p_tb 27 88 = some (.iconst 0, 1) := by decide +kernel
theorem q_27_89 : p_tb 27 89 = some (.bipush 9, 2) := by decide +kernel
theorem q_27_91 : p_tb 27 91 = some (.invokevirtual 143, 3) := by decide +kernel
theorem q_27_94 : p_tb 27 94 = some (.iastore, 1) := by decide +kernel
theorem q_27_95 : p_tb 27 95 = some (.aload_n 0, 1) := by decide +kernel
theorem q_27_96 : p_tb 27 96 = some (.getfield 19, 3) := by decide +kernel
theorem q_27_99 : p_tb 27 99 = some (.aload_n 0, 1) := by decide +kernel
theorem q_27_100 : p_tb 27 100 = some (.getfield 67, 3) := by decide +kernel
theorem q_27_103 : p_tb 27 103 = some (.iaload, 1) := by decide +kernel
theorem q_27_104 : p_tb 27 104 = some (.iconst (-1), 1) := by decide +kernel
theorem q_27_105 : p_tb 27 105 = some (.if_icmp .ne 5, 3) := by decide +kernel
theorem q_27_108 : p_tb 27 108 = some (.iconst 0, 1) := by decide +kernel
theorem q_27_109 : p_tb 27 109 = some (.ireturn, 1) := by decide +kernel
theorem q_27_110 : p_tb 27 110 = some (.aload_n 0, 1) := by decide +kernel
theorem q_27_111 : p_tb 27 111 = some (.getfield 22, 3) := by decide +kernel
theorem q_27_114 : p_tb 27 114 = some (.aload_n 0, 1) := by decide +kernel
theorem q_27_115 : p_tb 27 115 = some (.getfield 67, 3) := by decide +kernel
theorem q_27_118 : p_tb 27 118 = some (.aload_n 1, 1) := by decide +kernel
theorem q_27_119 : p_tb 27 119 = some (.getstatic 154, 3) := by decide +kernel
theorem q_27_122 : p_tb 27 122 = some (.invokevirtual 157, 3) := by decide +kernel
theorem q_27_125 : p_tb 27 125 = some (.bastore, 1) := by decide +kernel
theorem q_27_126 : p_tb 27 126 = some (.aload_n 0, 1) := by decide +kernel
theorem q_27_127 : p_tb 27 127 = some (.dup, 1) := by decide +kernel
theorem q_27_128 : p_tb 27 128 = some (.getfield 67, 3) := by decide +kernel
theorem q_27_131 : p_tb 27 131 = some (.iconst 1, 1) := by decide +kernel
theorem q_27_132 : p_tb 27 132 = some (.iadd, 1) := by decide +kernel
theorem q_27_133 : p_tb 27 133 = some (.putfield 67, 3) := by decide +kernel
theorem q_27_136 : p_tb 27 136 = some (.iconst 1, 1) := by decide +kernel
theorem q_27_137 : p_tb 27 137 = some (.ireturn, 1) := by decide +kernel
theorem t_fN_27_150 : p_f2 p_fN (p_mK 27) 150 = some (7, 7) := by decide +kernel
theorem t_ft_27_15 : p_f2 p_ft (p_mK 27) 15 = some (3, 9) := by decide +kernel
theorem t_ft_27_19 : p_f2 p_ft (p_mK 27) 19 = some (3, 10) := by decide +kernel
theorem t_ft_27_22 : p_f2 p_ft (p_mK 27) 22 = some (3, 11) := by decide +kernel
theorem t_ft_27_51 : p_f2 p_ft (p_mK 27) 51 = some (3, 1) := by decide +kernel
theorem t_ft_27_67 : p_f2 p_ft (p_mK 27) 67 = some (3, 6) := by decide +kernel
theorem t_ft_27_9 : p_f2 p_ft (p_mK 27) 9 = some (3, 8) := by decide +kernel
theorem t_mv_27_137 : p_f2 p_mv (p_mK 27) 137 = some 83 := by decide +kernel
theorem t_mv_27_140 : p_f2 p_mv (p_mK 27) 140 = some 77 := by decide +kernel
theorem t_mv_27_143 : p_f2 p_mv (p_mK 27) 143 = some 90 := by decide +kernel
theorem t_mv_27_147 : p_f2 p_mv (p_mK 27) 147 = some 28 := by decide +kernel
theorem t_mv_27_157 : p_f2 p_mv (p_mK 27) 157 = some 88 := by decide +kernel
theorem t_st_27_154 : p_f2 p_st (p_mK 27) 154 = some 4 := by decide +kernel
theorem q_30_0 : p_tb 30 0 = some (.aload_n 0, 1) := by decide +kernel
theorem q_30_1 : p_tb 30 1 = some (.getstatic 175, 3) := by decide +kernel
theorem q_30_4 : p_tb 30 4 = some (.invokevirtual 100, 3) := by decide +kernel
theorem q_30_7 : p_tb 30 7 = some (.ifCond .eq 5, 3) := by decide +kernel
theorem q_30_10 : p_tb 30 10 = some (.iconst 0, 1) := by decide +kernel
theorem q_30_11 : p_tb 30 11 = some (.ireturn, 1) := by decide +kernel
theorem q_30_12 : p_tb 30 12 = some (.aload_n 0, 1) := by decide +kernel
theorem q_30_13 : p_tb 30 13 = some (.getstatic 178, 3) := by decide +kernel
theorem q_30_16 : p_tb 30 16 = some (.invokevirtual 100, 3) := by decide +kernel
theorem q_30_19 : p_tb 30 19 = some (.ifCond .eq 5, 3) := by decide +kernel
theorem q_30_22 : p_tb 30 22 = some (.iconst 1, 1) := by decide +kernel
theorem q_30_23 : p_tb 30 23 = some (.ireturn, 1) := by decide +kernel
theorem q_30_24 : p_tb 30 24 = some (.aload_n 0, 1) := by decide +kernel
theorem q_30_25 : p_tb 30 25 = some (.getstatic 181, 3) := by decide +kernel
theorem q_30_28 : p_tb 30 28 = some (.invokevirtual 100, 3) := by decide +kernel
theorem q_30_31 : p_tb 30 31 = some (.ifCond .eq 5, 3) := by decide +kernel
theorem q_30_34 : p_tb 30 34 = some (.iconst 2, 1) := by decide +kernel
theorem q_30_35 : p_tb 30 35 = some (.ireturn, 1) := by decide +kernel
theorem q_30_36 : p_tb 30 36 = some (.aload_n 0, 1) := by decide +kernel
theorem q_30_37 : p_tb 30 37 = some (.getstatic 184, 3) := by decide +kernel
theorem q_30_40 : p_tb 30 40 = some (.invokevirtual 100, 3) := by decide +kernel
theorem q_30_43 : p_tb 30 43 = some (.ifCond .eq 7, 3) := by decide +kernel
theorem q_30_46 : p_tb 30 46 = some (.iconst 3, 1) := by decide +kernel
theorem q_30_47 : p_tb 30 47 = some (.goto 4, 3) := by decide +kernel
theorem q_30_50 : p_tb 30 50 = some (.iconst (-1), 1) := by decide +kernel
theorem q_30_51 : p_tb 30 51 = some (.ireturn, 1) := by decide +kernel
theorem t_mv_30_100 : p_f2 p_mv (p_mK 30) 100 = some 86 := by decide +kernel
theorem t_st_30_175 : p_f2 p_st (p_mK 30) 175 = some 6 := by decide +kernel
theorem t_st_30_178 : p_f2 p_st (p_mK 30) 178 = some 7 := by decide +kernel
theorem t_st_30_181 : p_f2 p_st (p_mK 30) 181 = some 8 := by decide +kernel
theorem t_st_30_184 : p_f2 p_st (p_mK 30) 184 = some 9 := by decide +kernel
theorem q_31_0 : p_tb 31 0 = some (.aload_n 1, 1) := by decide +kernel
theorem q_31_1 : p_tb 31 1 = some (.invokevirtual 140, 3) := by decide +kernel
theorem q_31_4 : p_tb 31 4 = some (.aload_n 1, 1) := by decide +kernel
theorem q_31_5 : p_tb 31 5 = some (.aload_n 0, 1) := by decide +kernel
theorem q_31_6 : p_tb 31 6 = some (.getfield 26, 3) := by decide +kernel
theorem q_31_9 : p_tb 31 9 = some (.aload_n 0, 1) := by decide +kernel
theorem q_31_10 : p_tb 31 10 = some (.getfield 70, 3) := by decide +kernel
theorem q_31_13 : p_tb 31 13 = some (.invokevirtual 167, 3) := by decide +kernel
theorem q_31_16 : p_tb 31 16 = some (.istore_n 2, 1) := by decide +kernel
theorem q_31_17 : p_tb 31 17 = some (.iload_n 2, 1) := by decide +kernel
theorem q_31_18 : p_tb 31 18 = some (.iconst (-1), 1) := by decide +kernel
theorem q_31_19 : p_tb 31 19 = some (.if_icmp .ne 5, 3) := by decide +kernel
theorem q_31_22 : p_tb 31 22 = some (.iconst 0, 1) := by decide +kernel
theorem q_31_23 : p_tb 31 23 = some (.ireturn, 1) := by decide +kernel
theorem q_31_24 : p_tb 31 24 = some (.aload_n 0, 1) := by decide +kernel
theorem q_31_25 : p_tb 31 25 = some (.getfield 41, 3) := by decide +kernel
theorem q_31_28 : p_tb 31 28 = some (.iload_n 2, 1) := by decide +kernel
theorem q_31_29 : p_tb 31 29 = some (.iaload, 1) := by decide +kernel
theorem q_31_30 : p_tb 31 30 = some (.ifCond .eq 9, 3) := by decide +kernel
theorem q_31_33 : p_tb 31 33 = some (.aload_n 1, 1) := by decide +kernel
theorem q_31_34 : p_tb 31 34 = some (.iconst 3, 1) := by decide +kernel
theorem q_31_35 : p_tb 31 35 = some (.invokevirtual 137, 3) := by decide +kernel
theorem q_31_38 : p_tb 31 38 = some (.ireturn, 1) := by decide +kernel
theorem q_31_39 : p_tb 31 39 = some (.aload_n 1, 1) := by decide +kernel
theorem q_31_40 : p_tb 31 40 = some (.invokevirtual 140, 3) := by decide +kernel
theorem q_31_43 : p_tb 31 43 = some (.aload_n 0, 1) := by decide +kernel
theorem q_31_44 : p_tb 31 44 = some (.getfield 41, 3) := by decide +kernel
theorem q_31_47 : p_tb 31 47 = some (.iload_n 2, 1) := by decide +kernel
theorem q_31_48 : p_tb 31 48 = some (.aload_n 1, 1) := by decide +kernel
theorem q_31_49 : p_tb 31 49 = some (.iconst 1, 1) := by decide +kernel
theorem q_31_50 : p_tb 31 50 = some (.bipush 20, 2) := by decide +kernel
theorem q_31_52 : p_tb 31 52 = some (.invokevirtual 143, 3) := by decide +kernel
theorem q_31_55 : p_tb 31 55 = some (.iastore, 1) := by decide +kernel
theorem q_31_56 : p_tb 31 56 = some (.aload_n 0, 1) := by decide +kernel
theorem q_31_57 : p_tb 31 57 = some (.getfield 41, 3) := by decide +kernel
theorem q_31_60 : p_tb 31 60 = some (.iload_n 2, 1) := by decide +kernel
theorem q_31_61 : p_tb 31 61 = some (.iaload, 1) := by decide +kernel
theorem q_31_62 : p_tb 31 62 = some (.iconst (-1), 1) := by decide +kernel
theorem q_31_63 : p_tb 31 63 = some (.if_icmp .eq 7, 3) := by decide +kernel
theorem q_31_66 : p_tb 31 66 = some (.iconst 1, 1) := by decide +kernel
theorem q_31_67 : p_tb 31 67 = some (.goto 4, 3) := by decide +kernel
theorem q_31_70 : p_tb 31 70 = some (.iconst 0, 1) := by decide +kernel
theorem q_31_71 : p_tb 31 71 = some (.ireturn, 1) := by decide +kernel
theorem t_ft_31_26 : p_f2 p_ft (p_mK 31) 26 = some (3, 12) := by decide +kernel
theorem t_ft_31_41 : p_f2 p_ft (p_mK 31) 41 = some (3, 17) := by decide +kernel
theorem t_ft_31_70 : p_f2 p_ft (p_mK 31) 70 = some (3, 7) := by decide +kernel
theorem t_mv_31_137 : p_f2 p_mv (p_mK 31) 137 = some 83 := by decide +kernel
theorem t_mv_31_140 : p_f2 p_mv (p_mK 31) 140 = some 77 := by decide +kernel
theorem t_mv_31_143 : p_f2 p_mv (p_mK 31) 143 = some 90 := by decide +kernel
theorem t_mv_31_167 : p_f2 p_mv (p_mK 31) 167 = some 91 := by decide +kernel
theorem q_29_0 : p_tb 29 0 = some (.aload_n 0, 1) := by decide +kernel
theorem q_29_1 : p_tb 29 1 = some (.getfield 70, 3) := by decide +kernel
theorem q_29_4 : p_tb 29 4 = some (.iconst 2, 1) := by decide +kernel
theorem q_29_5 : p_tb 29 5 = some (.if_icmp .lt 9, 3) := by decide +kernel
theorem q_29_8 : p_tb 29 8 = some (.aload_n 1, 1) := by decide +kernel
theorem q_29_9 : p_tb 29 9 = some (.iconst 4, 1) := by decide +kernel
theorem q_29_10 : p_tb 29 10 = some (.invokevirtual 137, 3) := by decide +kernel
theorem q_29_13 : p_tb 29 13 = some (.ireturn, 1) := by decide +kernel
theorem q_29_14 : p_tb 29 14 = some (.aload_n 1, 1) := by decide +kernel
theorem q_29_15 : p_tb 29 15 = some (.invokevirtual 140, 3) := by decide +kernel
theorem q_29_18 : p_tb 29 18 = some (.aload_n 0, 1) := by decide +kernel
theorem q_29_19 : p_tb 29 19 = some (.aload_n 1, 1) := by decide +kernel
theorem q_29_20 : p_tb 29 20 = some (.invokevirtual 147, 3) := by decide +kernel
theorem q_29_23 : p_tb 29 23 = some (.ifCond .ne 5, 3) := by decide +kernel
theorem q_29_26 : p_tb 29 26 = some (.iconst 0, 1) := by decide +kernel
theorem q_29_27 : p_tb 29 27 = some (.ireturn, 1) := by decide +kernel
theorem q_29_28 : p_tb 29 28 = some (.aload_n 0, 1) := by decide +kernel
theorem q_29_29 : p_tb 29 29 = some (.getfield 26, 3) := by decide +kernel
theorem q_29_32 : p_tb 29 32 = some (.aload_n 0, 1) := by decide +kernel
theorem q_29_33 : p_tb 29 33 = some (.getfield 70, 3) := by decide +kernel
theorem q_29_36 : p_tb 29 36 = some (.aload_n 1, 1) := by decide +kernel
theorem q_29_37 : p_tb 29 37 = some (.getfield 150, 3) := by decide +kernel
theorem q_29_40 : p_tb 29 40 = some (.lastore, 1) := by decide +kernel
theorem q_29_41 : p_tb 29 41 = some (.aload_n 1, 1) := by decide +kernel
theorem q_29_42 : p_tb 29 42 = some (.invokevirtual 140, 3) := by decide +kernel
theorem q_29_45 : p_tb 29 45 = some (.aload_n 0, 1) := by decide +kernel
theorem q_29_46 : p_tb 29 46 = some (.getfield 29, 3) := by decide +kernel
theorem q_29_49 : p_tb 29 49 = some (.aload_n 0, 1) := by decide +kernel
theorem q_29_50 : p_tb 29 50 = some (.getfield 70, 3) := by decide +kernel
theorem q_29_53 : p_tb 29 53 = some (.aload_n 1, 1) := by decide +kernel
theorem q_29_54 : p_tb 29 54 = some (.aload_n 0, 1) := by decide +kernel
theorem q_29_55 : p_tb 29 55 = some (.getfield 9, 3) := by decide +kernel
theorem q_29_58 : p_tb 29 58 = some (.aload_n 0, 1) := by decide +kernel
theorem q_29_59 : p_tb 29 59 = some (.getfield 67, 3) := by decide +kernel
theorem q_29_62 : p_tb 29 62 = some (.invokevirtual 167, 3) := by decide +kernel
theorem q_29_65 : p_tb 29 65 = some (.iastore, 1) := by decide +kernel
theorem q_29_66 : p_tb 29 66 = some (.aload_n 0, 1) := by decide +kernel
theorem q_29_67 : p_tb 29 67 = some (.getfield 29, 3) := by decide +kernel
theorem q_29_70 : p_tb 29 70 = some (.aload_n 0, 1) := by decide +kernel
theorem q_29_71 : p_tb 29 71 = some (.getfield 70, 3) := by decide +kernel
theorem q_29_74 : p_tb 29 74 = some (.iaload, 1) := by decide +kernel
theorem q_29_75 : p_tb 29 75 = some (.iconst (-1), 1) := by decide +kernel
theorem q_29_76 : p_tb 29 76 = some (.if_icmp .ne 5, 3) := by decide +kernel
theorem q_29_79 : p_tb 29 79 = some (.iconst 0, 1) := by decide +kernel
theorem q_29_80 : p_tb 29 80 = some (.ireturn, 1) := by decide +kernel
theorem q_29_81 : p_tb 29 81 = some (.aload_n 1, 1) := by decide +kernel
theorem q_29_82 : p_tb 29 82 = some (.invokevirtual 140, 3) := by decide +kernel
theorem q_29_85 : p_tb 29 85 = some (.aload_n 0, 1) := by decide +kernel
theorem q_29_86 : p_tb 29 86 = some (.getfield 32, 3) := by decide +kernel
theorem q_29_89 : p_tb 29 89 = some (.aload_n 0, 1) := by decide +kernel
theorem q_29_90 : p_tb 29 90 = some (.getfield 70, 3) := by decide +kernel
theorem q_29_93 : p_tb 29 93 = some (.aload_n 1, 1) := by decide +kernel
theorem q_29_94 : p_tb 29 94 = some (.iconst 1, 1) := by decide +kernel
theorem q_29_95 : p_tb 29 95 = some (.bipush 30, 2) := by decide +kernel
theorem q_29_97 : p_tb 29 97 = some (.invokevirtual 143, 3) := by decide +kernel
theorem q_29_100 : p_tb 29 100 = some (.iastore, 1) := by decide +kernel
theorem q_29_101 : p_tb 29 101 = some (.aload_n 0, 1) := by decide +kernel
theorem q_29_102 : p_tb 29 102 = some (.getfield 32, 3) := by decide +kernel
theorem q_29_105 : p_tb 29 105 = some (.aload_n 0, 1) := by decide +kernel
theorem q_29_106 : p_tb 29 106 = some (.getfield 70, 3) := by decide +kernel
theorem q_29_109 : p_tb 29 109 = some (.iaload, 1) := by decide +kernel
theorem q_29_110 : p_tb 29 110 = some (.iconst (-1), 1) := by decide +kernel
theorem q_29_111 : p_tb 29 111 = some (.if_icmp .ne 5, 3) := by decide +kernel
theorem q_29_114 : p_tb 29 114 = some (.iconst 0, 1) := by decide +kernel
theorem q_29_115 : p_tb 29 115 = some (.ireturn, 1) := by decide +kernel
theorem q_29_116 : p_tb 29 116 = some (.aload_n 0, 1) := by decide +kernel
theorem q_29_117 : p_tb 29 117 = some (.getfield 35, 3) := by decide +kernel
theorem q_29_120 : p_tb 29 120 = some (.aload_n 0, 1) := by decide +kernel
theorem q_29_121 : p_tb 29 121 = some (.getfield 70, 3) := by decide +kernel
theorem q_29_124 : p_tb 29 124 = some (.aload_n 1, 1) := by decide +kernel
theorem q_29_125 : p_tb 29 125 = some (.iconst 0, 1) := by decide +kernel
theorem q_29_126 : p_tb 29 126 = some (.bipush 9, 2) := by decide +kernel
theorem q_29_128 : p_tb 29 128 = some (.invokevirtual 143, 3) := by decide +kernel
theorem q_29_131 : p_tb 29 131 = some (.iastore, 1) := by decide +kernel
theorem q_29_132 : p_tb 29 132 = some (.aload_n 0, 1) := by decide +kernel
theorem q_29_133 : p_tb 29 133 = some (.getfield 35, 3) := by decide +kernel
theorem q_29_136 : p_tb 29 136 = some (.aload_n 0, 1) := by decide +kernel
theorem q_29_137 : p_tb 29 137 = some (.getfield 70, 3) := by decide +kernel
theorem q_29_140 : p_tb 29 140 = some (.iaload, 1) := by decide +kernel
theorem q_29_141 : p_tb 29 141 = some (.iconst (-1), 1) := by decide +kernel
theorem q_29_142 : p_tb 29 142 = some (.if_icmp .ne 5, 3) := by decide +kernel
theorem q_29_145 : p_tb 29 145 = some (.iconst 0, 1) := by decide +kernel
theorem q_29_146 : p_tb 29 146 = some (.ireturn, 1) := by decide +kernel
theorem q_29_147 : p_tb 29 147 = some (.aload_n 0, 1) := by decide +kernel
theorem q_29_148 : p_tb 29 148 = some (.getfield 38, 3) := by decide +kernel
theorem q_29_151 : p_tb 29 151 = some (.aload_n 0, 1) := by decide +kernel
theorem q_29_152 : p_tb 29 152 = some (.getfield 70, 3) := by decide +kernel
theorem q_29_155 : p_tb 29 155 = some (.aload_n 1, 1) := by decide +kernel
theorem q_29_156 : p_tb 29 156 = some (.invokestatic 171, 3) := by decide +kernel
theorem q_29_159 : p_tb 29 159 = some (.iastore, 1) := by decide +kernel
theorem q_29_160 : p_tb 29 160 = some (.aload_n 0, 1) := by decide +kernel
theorem q_29_161 : p_tb 29 161 = some (.getfield 38, 3) := by decide +kernel
theorem q_29_164 : p_tb 29 164 = some (.aload_n 0, 1) := by decide +kernel
theorem q_29_165 : p_tb 29 165 = some (.getfield 70, 3) := by decide +kernel
theorem q_29_168 : p_tb 29 168 = some (.iaload, 1) := by decide +kernel
theorem q_29_169 : p_tb 29 169 = some (.iconst (-1), 1) := by decide +kernel
theorem q_29_170 : p_tb 29 170 = some (.if_icmp .ne 9, 3) := by decide +kernel
theorem q_29_173 : p_tb 29 173 = some (.aload_n 1, 1) := by decide +kernel
theorem q_29_174 : p_tb 29 174 = some (.iconst 1, 1) := by decide +kernel
theorem q_29_175 : p_tb 29 175 = some (.invokevirtual 137, 3) := by decide +kernel
theorem q_29_178 : p_tb 29 178 = some (.ireturn, 1) := by decide +kernel
theorem q_29_179 : p_tb 29 179 = some (.aload_n 1, 1) := by decide +kernel
theorem q_29_180 : p_tb 29 180 = some (.invokevirtual 140, 3) := by decide +kernel
theorem q_29_183 : p_tb 29 183 = some (.aload_n 0, 1) := by decide +kernel
theorem q_29_184 : p_tb 29 184 = some (.getfield 41, 3) := by decide +kernel
theorem q_29_187 : p_tb 29 187 = some (.aload_n 0, 1) := by decide +kernel
theorem q_29_188 : p_tb 29 188 = some (.getfield 70, 3) := by decide +kernel
theorem q_29_191 : p_tb 29 191 = some (.iconst 0, 1) := by decide +kernel
theorem q_29_192 : p_tb 29 192 = some (.iastore, 1) := by decide +kernel
theorem q_29_193 : p_tb 29 193 = some (.aload_n 0, 1) := by decide +kernel
theorem q_29_194 : p_tb 29 194 = some (.dup, 1) := by decide +kernel
theorem q_29_195 : p_tb 29 195 = some (.getfield 70, 3) := by decide +kernel
theorem q_29_198 : p_tb 29 198 = some (.iconst 1, 1) := by decide +kernel
theorem q_29_199 : p_tb 29 199 = some (.iadd, 1) := by decide +kernel
theorem q_29_200 : p_tb 29 200 = some (.putfield 70, 3) := by decide +kernel
theorem q_29_203 : p_tb 29 203 = some (.iconst 1, 1) := by decide +kernel
theorem q_29_204 : p_tb 29 204 = some (.ireturn, 1) := by decide +kernel
theorem t_fN_29_150 : p_f2 p_fN (p_mK 29) 150 = some (7, 7) := by decide +kernel
theorem t_ft_29_26 : p_f2 p_ft (p_mK 29) 26 = some (3, 12) := by decide +kernel
theorem t_ft_29_29 : p_f2 p_ft (p_mK 29) 29 = some (3, 13) := by decide +kernel
theorem t_ft_29_32 : p_f2 p_ft (p_mK 29) 32 = some (3, 14) := by decide +kernel
theorem t_ft_29_35 : p_f2 p_ft (p_mK 29) 35 = some (3, 15) := by decide +kernel
theorem t_ft_29_38 : p_f2 p_ft (p_mK 29) 38 = some (3, 16) := by decide +kernel
theorem t_ft_29_41 : p_f2 p_ft (p_mK 29) 41 = some (3, 17) := by decide +kernel
theorem t_ft_29_67 : p_f2 p_ft (p_mK 29) 67 = some (3, 6) := by decide +kernel
theorem t_ft_29_70 : p_f2 p_ft (p_mK 29) 70 = some (3, 7) := by decide +kernel
theorem t_ft_29_9 : p_f2 p_ft (p_mK 29) 9 = some (3, 8) := by decide +kernel
theorem t_ms_29_171 : p_f2 p_ms (p_mK 29) 171 = some 30 := by decide +kernel
theorem t_mv_29_137 : p_f2 p_mv (p_mK 29) 137 = some 83 := by decide +kernel
theorem t_mv_29_140 : p_f2 p_mv (p_mK 29) 140 = some 77 := by decide +kernel
theorem t_mv_29_143 : p_f2 p_mv (p_mK 29) 143 = some 90 := by decide +kernel
theorem t_mv_29_147 : p_f2 p_mv (p_mK 29) 147 = some 28 := by decide +kernel
theorem t_mv_29_167 : p_f2 p_mv (p_mK 29) 167 = some 91 := by decide +kernel
theorem q_23_0 : p_tb 23 0 = some (.aload_n 1, 1) := by decide +kernel
theorem q_23_1 : p_tb 23 1 = some (.getstatic 94, 3) := by decide +kernel
theorem q_23_4 : p_tb 23 4 = some (.invokevirtual 100, 3) := by decide +kernel
theorem q_23_7 : p_tb 23 7 = some (.ifCond .eq 9, 3) := by decide +kernel
theorem q_23_10 : p_tb 23 10 = some (.aload_n 0, 1) := by decide +kernel
theorem q_23_11 : p_tb 23 11 = some (.aload_n 1, 1) := by decide +kernel
theorem q_23_12 : p_tb 23 12 = some (.invokevirtual 104, 3) := by decide +kernel
theorem q_23_15 : p_tb 23 15 = some (.ireturn, 1) := by decide +kernel
theorem q_23_16 : p_tb 23 16 = some (.aload_n 1, 1) := by decide +kernel
theorem q_23_17 : p_tb 23 17 = some (.getstatic 107, 3) := by decide +kernel
theorem q_23_20 : p_tb 23 20 = some (.invokevirtual 100, 3) := by decide +kernel
theorem q_23_23 : p_tb 23 23 = some (.ifCond .eq 9, 3) := by decide +kernel
theorem q_23_26 : p_tb 23 26 = some (.aload_n 0, 1) := by decide +kernel
theorem q_23_27 : p_tb 23 27 = some (.aload_n 1, 1) := by decide +kernel
theorem q_23_28 : p_tb 23 28 = some (.invokevirtual 110, 3) := by decide +kernel
theorem q_23_31 : p_tb 23 31 = some (.ireturn, 1) := by decide +kernel
theorem q_23_32 : p_tb 23 32 = some (.aload_n 1, 1) := by decide +kernel
theorem q_23_33 : p_tb 23 33 = some (.getstatic 113, 3) := by decide +kernel
theorem q_23_36 : p_tb 23 36 = some (.invokevirtual 100, 3) := by decide +kernel
theorem q_23_39 : p_tb 23 39 = some (.ifCond .eq 9, 3) := by decide +kernel
theorem q_23_42 : p_tb 23 42 = some (.aload_n 0, 1) := by decide +kernel
theorem q_23_43 : p_tb 23 43 = some (.aload_n 1, 1) := by decide +kernel
theorem q_23_44 : p_tb 23 44 = some (.invokevirtual 116, 3) := by decide +kernel
theorem q_23_47 : p_tb 23 47 = some (.ireturn, 1) := by decide +kernel
theorem q_23_48 : p_tb 23 48 = some (.aload_n 1, 1) := by decide +kernel
theorem q_23_49 : p_tb 23 49 = some (.getstatic 119, 3) := by decide +kernel
theorem q_23_52 : p_tb 23 52 = some (.invokevirtual 100, 3) := by decide +kernel
theorem q_23_55 : p_tb 23 55 = some (.ifCond .eq 9, 3) := by decide +kernel
theorem q_23_58 : p_tb 23 58 = some (.aload_n 0, 1) := by decide +kernel
theorem q_23_59 : p_tb 23 59 = some (.aload_n 1, 1) := by decide +kernel
theorem q_23_60 : p_tb 23 60 = some (.invokevirtual 122, 3) := by decide +kernel
theorem q_23_63 : p_tb 23 63 = some (.ireturn, 1) := by decide +kernel
theorem q_23_64 : p_tb 23 64 = some (.aload_n 1, 1) := by decide +kernel
theorem q_23_65 : p_tb 23 65 = some (.getstatic 125, 3) := by decide +kernel
theorem q_23_68 : p_tb 23 68 = some (.invokevirtual 100, 3) := by decide +kernel
theorem q_23_71 : p_tb 23 71 = some (.ifCond .eq 9, 3) := by decide +kernel
theorem q_23_74 : p_tb 23 74 = some (.aload_n 0, 1) := by decide +kernel
theorem q_23_75 : p_tb 23 75 = some (.aload_n 1, 1) := by decide +kernel
theorem q_23_76 : p_tb 23 76 = some (.invokevirtual 128, 3) := by decide +kernel
theorem q_23_79 : p_tb 23 79 = some (.ireturn, 1) := by decide +kernel
theorem q_23_80 : p_tb 23 80 = some (.aload_n 1, 1) := by decide +kernel
theorem q_23_81 : p_tb 23 81 = some (.getstatic 131, 3) := by decide +kernel
theorem q_23_84 : p_tb 23 84 = some (.invokevirtual 100, 3) := by decide +kernel
theorem q_23_87 : p_tb 23 87 = some (.ifCond .eq 9, 3) := by decide +kernel
theorem q_23_90 : p_tb 23 90 = some (.aload_n 0, 1) := by decide +kernel
theorem q_23_91 : p_tb 23 91 = some (.aload_n 1, 1) := by decide +kernel
theorem q_23_92 : p_tb 23 92 = some (.invokevirtual 134, 3) := by decide +kernel
theorem q_23_95 : p_tb 23 95 = some (.ireturn, 1) := by decide +kernel
theorem q_23_96 : p_tb 23 96 = some (.aload_n 1, 1) := by decide +kernel
theorem q_23_97 : p_tb 23 97 = some (.iconst 1, 1) := by decide +kernel
theorem q_23_98 : p_tb 23 98 = some (.invokevirtual 137, 3) := by decide +kernel
theorem q_23_101 : p_tb 23 101 = some (.ireturn, 1) := by decide +kernel
theorem t_mv_23_100 : p_f2 p_mv (p_mK 23) 100 = some 86 := by decide +kernel
theorem t_mv_23_104 : p_f2 p_mv (p_mK 23) 104 = some 24 := by decide +kernel
theorem t_mv_23_110 : p_f2 p_mv (p_mK 23) 110 = some 25 := by decide +kernel
theorem t_mv_23_116 : p_f2 p_mv (p_mK 23) 116 = some 26 := by decide +kernel
theorem t_mv_23_122 : p_f2 p_mv (p_mK 23) 122 = some 27 := by decide +kernel
theorem t_mv_23_128 : p_f2 p_mv (p_mK 23) 128 = some 29 := by decide +kernel
theorem t_mv_23_134 : p_f2 p_mv (p_mK 23) 134 = some 31 := by decide +kernel
theorem t_mv_23_137 : p_f2 p_mv (p_mK 23) 137 = some 83 := by decide +kernel
theorem t_st_23_107 : p_f2 p_st (p_mK 23) 107 = some 1 := by decide +kernel
theorem t_st_23_113 : p_f2 p_st (p_mK 23) 113 = some 2 := by decide +kernel
theorem t_st_23_119 : p_f2 p_st (p_mK 23) 119 = some 3 := by decide +kernel
theorem t_st_23_125 : p_f2 p_st (p_mK 23) 125 = some 5 := by decide +kernel
theorem t_st_23_131 : p_f2 p_st (p_mK 23) 131 = some 10 := by decide +kernel
theorem t_st_23_94 : p_f2 p_st (p_mK 23) 94 = some 0 := by decide +kernel
theorem q_22_0 : p_tb 22 0 = some (.aload_n 0, 1) := by decide +kernel
theorem q_22_1 : p_tb 22 1 = some (.invokevirtual 44, 3) := by decide +kernel
theorem q_22_4 : p_tb 22 4 = some (.aload_n 1, 1) := by decide +kernel
theorem q_22_5 : p_tb 22 5 = some (.sipush 900, 3) := by decide +kernel
theorem q_22_8 : p_tb 22 8 = some (.invokevirtual 73, 3) := by decide +kernel
theorem q_22_11 : p_tb 22 11 = some (.iconst 0, 1) := by decide +kernel
theorem q_22_12 : p_tb 22 12 = some (.istore_n 2, 1) := by decide +kernel
theorem q_22_13 : p_tb 22 13 = some (.iload_n 2, 1) := by decide +kernel
theorem q_22_14 : p_tb 22 14 = some (.sipush 900, 3) := by decide +kernel
theorem q_22_17 : p_tb 22 17 = some (.if_icmp .gt 45, 3) := by decide +kernel
theorem q_22_20 : p_tb 22 20 = some (.aload_n 1, 1) := by decide +kernel
theorem q_22_21 : p_tb 22 21 = some (.invokevirtual 79, 3) := by decide +kernel
theorem q_22_24 : p_tb 22 24 = some (.ifCond .ne 38, 3) := by decide +kernel
theorem q_22_27 : p_tb 22 27 = some (.aload_n 0, 1) := by decide +kernel
theorem q_22_28 : p_tb 22 28 = some (.aload_n 1, 1) := by decide +kernel
theorem q_22_29 : p_tb 22 29 = some (.invokevirtual 83, 3) := by decide +kernel
theorem q_22_32 : p_tb 22 32 = some (.ifCond .eq 12, 3) := by decide +kernel
theorem q_22_35 : p_tb 22 35 = some (.aload_n 1, 1) := by decide +kernel
theorem q_22_36 : p_tb 22 36 = some (.bipush 59, 2) := by decide +kernel
theorem q_22_38 : p_tb 22 38 = some (.invokevirtual 87, 3) := by decide +kernel
theorem q_22_41 : p_tb 22 41 = some (.ifCond .ne 5, 3) := by decide +kernel
theorem q_22_44 : p_tb 22 44 = some (.iconst 0, 1) := by decide +kernel
theorem q_22_45 : p_tb 22 45 = some (.ireturn, 1) := by decide +kernel
theorem q_22_46 : p_tb 22 46 = some (.aload_n 0, 1) := by decide +kernel
theorem q_22_47 : p_tb 22 47 = some (.dup, 1) := by decide +kernel
theorem q_22_48 : p_tb 22 48 = some (.getfield 47, 3) := by decide +kernel
theorem q_22_51 : p_tb 22 51 = some (.iconst 1, 1) := by decide +kernel
theorem q_22_52 : p_tb 22 52 = some (.iadd, 1) := by decide +kernel
theorem q_22_53 : p_tb 22 53 = some (.putfield 47, 3) := by decide +kernel
theorem q_22_56 : p_tb 22 56 = some (.iinc 2 1, 3) := by decide +kernel
theorem q_22_59 : p_tb 22 59 = some (.goto (-46), 3) := by decide +kernel
theorem q_22_62 : p_tb 22 62 = some (.aload_n 1, 1) := by decide +kernel
theorem q_22_63 : p_tb 22 63 = some (.invokevirtual 91, 3) := by decide +kernel
theorem q_22_66 : p_tb 22 66 = some (.ireturn, 1) := by decide +kernel
theorem t_ft_22_47 : p_f2 p_ft (p_mK 22) 47 = some (3, 0) := by decide +kernel
theorem t_mv_22_44 : p_f2 p_mv (p_mK 22) 44 = some 20 := by decide +kernel
theorem t_mv_22_73 : p_f2 p_mv (p_mK 22) 73 = some 76 := by decide +kernel
theorem t_mv_22_79 : p_f2 p_mv (p_mK 22) 79 = some 84 := by decide +kernel
theorem t_mv_22_83 : p_f2 p_mv (p_mK 22) 83 = some 23 := by decide +kernel
theorem t_mv_22_87 : p_f2 p_mv (p_mK 22) 87 = some 89 := by decide +kernel
theorem t_mv_22_91 : p_f2 p_mv (p_mK 22) 91 = some 85 := by decide +kernel
theorem gS1.arr {M M1 : pM} {q : Nat} (h : gS1 256 M) (U : gVv M M1 262 q) (hq : o_i (M 256) 7 ≤ (q : Int)) : gS1 256 M1 := fun i hi => by
  rw [U.1 256 (by decide)] at hi
  have e : o_a (M1 (256 + 6)) i = o_a (M (256 + 6)) i := U.2 i (by omega)
  rw [e]
  exact h i hi
theorem gS1.inc {M M1 : pM} {z d : Int32} (h : gS1 256 M) (U : gU M M1 256 7) (f : o_f (M1 256) 7 = .int z) (hd : o_i (M 256) 7 = d.toInt) (hz : z.toInt = d.toInt + 1) (h0 : 0 ≤ d.toInt) (he : 0 ≤ (o_a (M 262) d.toInt.toNat).toInt) : gS1 256 M1 := fun i hi => by
  rw [o_i_of f] at hi
  rw [U.1 (256 + 6) (by decide)]
  by_cases e : i = d.toInt.toNat
  · rw [e]; exact he
  · exact h i (by omega)
theorem gS1.oth {M M1 : pM} (h : gS1 256 M) (e1 : M1 256 = M 256) (e2 : M1 262 = M 262) : gS1 256 M1 := fun i hi => by
  rw [e1] at hi
  have q := h i hi
  have e3 : M1 (256 + 6) = M (256 + 6) := e2
  rw [e3]; exact q
theorem c_X3_forget (G : pG) (Kr : pK) (M : pM) (I : Iv gTT M)  (hK : ∀ (M1 : pM), Iv gTS M1 → Fr [4] M M1 → Kr.1 none 311 M1) : PW G false 0 20 (p_mc 20) (p_msl 20) Kr 0 (lv_args 0 [.ref 256]) [] 311 M 0 0 := by
  have F : Fr [4] M M := Fr.refl
  refine PW.aload_n q_20_0 rfl ?_
  refine PW.cI q_20_1 (by decide) fun c1 hc1 => ?_
  refine PW.pI q_20_2 (Or.inl t_ft_20_47) gF_4_0 gP_4_0 kd_256 Stab0 I (by decide) rfl (n_lo _) (n_hi _) fun M2 IM2 fM2 UM2 => ?_
  have FM2 := Fr.pu F UM2.1 kd_256 (rfl : List.contains [4] 4 = true)
  refine PW.aload_n q_20_5 rfl ?_
  refine PW.cS q_20_6 (by decide) fun c3 hc3 => ?_
  refine PW.pI q_20_9 (Or.inl t_ft_20_51) gF_4_1 gP_4_1 kd_256 Stab0 IM2 (by decide) rfl (n_lo _) (n_hi _) fun M4 IM4 fM4 UM4 => ?_
  have FM4 := Fr.pu FM2 UM4.1 kd_256 (rfl : List.contains [4] 4 = true)
  refine PW.aload_n q_20_12 rfl ?_
  refine PW.cI q_20_13 (by decide) fun c5 hc5 => ?_
  refine PW.pI q_20_14 (Or.inl t_ft_20_54) gF_4_2 gP_4_2 kd_256 Stab0 IM4 (by decide) rfl (n_lo _) (n_hi _) fun M6 IM6 fM6 UM6 => ?_
  have FM6 := Fr.pu FM4 UM6.1 kd_256 (rfl : List.contains [4] 4 = true)
  refine PW.aload_n q_20_17 rfl ?_
  refine PW.cI q_20_18 (by decide) fun c7 hc7 => ?_
  refine PW.pI q_20_19 (Or.inl t_ft_20_57) gF_4_3 gP_4_3 kd_256 Stab0 IM6 (by decide) rfl (n_lo _) (n_hi _) fun M8 IM8 fM8 UM8 => ?_
  have FM8 := Fr.pu FM6 UM8.1 kd_256 (rfl : List.contains [4] 4 = true)
  refine PW.aload_n q_20_22 rfl ?_
  refine PW.cI q_20_23 (by decide) fun c9 hc9 => ?_
  refine PW.pI q_20_24 (Or.inl t_ft_20_60) gF_4_4 gP_4_4 kd_256 Stab0 IM8 (by decide) rfl (by omega) (by omega) fun M10 IM10 fM10 UM10 => ?_
  have FM10 := Fr.pu FM8 UM10.1 kd_256 (rfl : List.contains [4] 4 = true)
  refine PW.aload_n q_20_27 rfl ?_
  refine PW.cI q_20_28 (by decide) fun c11 hc11 => ?_
  refine PW.pI q_20_29 (Or.inl t_ft_20_64) gF_4_5 gP_4_5 kd_256 Stab0 IM10 (by decide) rfl (by omega) (by omega) fun M12 IM12 fM12 UM12 => ?_
  have FM12 := Fr.pu FM10 UM12.1 kd_256 (rfl : List.contains [4] 4 = true)
  refine PW.aload_n q_20_32 rfl ?_
  refine PW.cI q_20_33 (by decide) fun c13 hc13 => ?_
  refine PW.pI q_20_34 (Or.inl t_ft_20_67) gF_4_6 gP_4_6 kd_256 Stab0 IM12 (by decide) rfl (by omega) (by omega) fun M14 IM14 fM14 UM14 => ?_
  have FM14 := Fr.pu FM12 UM14.1 kd_256 (rfl : List.contains [4] 4 = true)
  refine PW.aload_n q_20_37 rfl ?_
  refine PW.cI q_20_38 (by decide) fun c15 hc15 => ?_
  refine PW.pT q_20_39 (Or.inl t_ft_20_70) gF_4_7 gP_4_7 kd_256 IM14 (by decide) rfl (by omega) (by omega) fun M16 IM16 fM16 UM16 => ?_
  have FM16 := Fr.pu FM14 UM16.1 kd_256 (rfl : List.contains [4] 4 = true)
  refine PW.vret q_20_42 rfl (by decide) (by decide) ?_
  exact hK M16 ⟨IM16.1, IM16.2, fun i hi => by rw [o_i_of fM16] at hi; omega⟩ FM16
theorem c_X3_copyFrom_w (G : pG) (Kr : pK) (M : pM) (I : Iv gTS M)  (hK : ∀ (M1 : pM), Iv gTS M1 → Fr [4, 27, 28, 29, 30, 31, 32, 33, 34, 35, 36] M M1 → Kr.1 none 311 M1) : PW G false 0 21 (p_mc 21) (p_msl 21) Kr 0 (lv_args 0 [.ref 4, .ref 256]) [] 311 M 0 0 := by
  have F : Fr [4, 27, 28, 29, 30, 31, 32, 33, 34, 35, 36] M M := Fr.refl
  refine PW.aload_n q_21_0 rfl ?_
  refine PW.aload_n q_21_1 rfl ?_
  refine PW.gI q_21_2 (Or.inl t_ft_21_47) gF_4_0 kd_256 I.1 (by decide) fun x1 fx1 hx1 kx1 => ?_
  clear hx1 kx1
  refine PW.pI q_21_5 (Or.inl t_ft_21_47) gF_4_0 gP_4_0 kd_4 StabS I (by decide) rfl (n_lo _) (n_hi _) fun M2 IM2 fM2 UM2 => ?_
  have FM2 := Fr.pu F UM2.1 kd_4 (rfl : List.contains [4, 27, 28, 29, 30, 31, 32, 33, 34, 35, 36] 4 = true)
  refine PW.aload_n q_21_8 rfl ?_
  refine PW.aload_n q_21_9 rfl ?_
  refine PW.gI q_21_10 (Or.inl t_ft_21_51) gF_4_1 kd_256 IM2.1 (by decide) fun x3 fx3 hx3 kx3 => ?_
  clear hx3 kx3
  refine PW.pI q_21_13 (Or.inl t_ft_21_51) gF_4_1 gP_4_1 kd_4 StabS IM2 (by decide) rfl (n_lo _) (n_hi _) fun M4 IM4 fM4 UM4 => ?_
  have FM4 := Fr.pu FM2 UM4.1 kd_4 (rfl : List.contains [4, 27, 28, 29, 30, 31, 32, 33, 34, 35, 36] 4 = true)
  refine PW.aload_n q_21_16 rfl ?_
  refine PW.aload_n q_21_17 rfl ?_
  refine PW.gI q_21_18 (Or.inl t_ft_21_54) gF_4_2 kd_256 IM4.1 (by decide) fun x5 fx5 hx5 kx5 => ?_
  clear hx5 kx5
  refine PW.pI q_21_21 (Or.inl t_ft_21_54) gF_4_2 gP_4_2 kd_4 StabS IM4 (by decide) rfl (n_lo _) (n_hi _) fun M6 IM6 fM6 UM6 => ?_
  have FM6 := Fr.pu FM4 UM6.1 kd_4 (rfl : List.contains [4, 27, 28, 29, 30, 31, 32, 33, 34, 35, 36] 4 = true)
  refine PW.aload_n q_21_24 rfl ?_
  refine PW.aload_n q_21_25 rfl ?_
  refine PW.gI q_21_26 (Or.inl t_ft_21_57) gF_4_3 kd_256 IM6.1 (by decide) fun x7 fx7 hx7 kx7 => ?_
  clear hx7 kx7
  refine PW.pI q_21_29 (Or.inl t_ft_21_57) gF_4_3 gP_4_3 kd_4 StabS IM6 (by decide) rfl (n_lo _) (n_hi _) fun M8 IM8 fM8 UM8 => ?_
  have FM8 := Fr.pu FM6 UM8.1 kd_4 (rfl : List.contains [4, 27, 28, 29, 30, 31, 32, 33, 34, 35, 36] 4 = true)
  refine PW.aload_n q_21_32 rfl ?_
  refine PW.aload_n q_21_33 rfl ?_
  refine PW.gI q_21_34 (Or.inl t_ft_21_60) gF_4_4 kd_256 IM8.1 (by decide) fun x9 fx9 hx9 kx9 => ?_
  refine PW.pI q_21_37 (Or.inl t_ft_21_60) gF_4_4 gP_4_4 kd_4 StabS IM8 (by decide) rfl (by omega) (by omega) fun M10 IM10 fM10 UM10 => ?_
  have FM10 := Fr.pu FM8 UM10.1 kd_4 (rfl : List.contains [4, 27, 28, 29, 30, 31, 32, 33, 34, 35, 36] 4 = true)
  refine PW.aload_n q_21_40 rfl ?_
  refine PW.aload_n q_21_41 rfl ?_
  refine PW.gI q_21_42 (Or.inl t_ft_21_64) gF_4_5 kd_256 IM10.1 (by decide) fun x11 fx11 hx11 kx11 => ?_
  refine PW.pI q_21_45 (Or.inl t_ft_21_64) gF_4_5 gP_4_5 kd_4 StabS IM10 (by decide) rfl (by omega) (by omega) fun M12 IM12 fM12 UM12 => ?_
  have FM12 := Fr.pu FM10 UM12.1 kd_4 (rfl : List.contains [4, 27, 28, 29, 30, 31, 32, 33, 34, 35, 36] 4 = true)
  refine PW.aload_n q_21_48 rfl ?_
  refine PW.aload_n q_21_49 rfl ?_
  refine PW.gI q_21_50 (Or.inl t_ft_21_67) gF_4_6 kd_256 IM12.1 (by decide) fun x13 fx13 hx13 kx13 => ?_
  refine PW.pI q_21_53 (Or.inl t_ft_21_67) gF_4_6 gP_4_6 kd_4 StabS IM12 (by decide) rfl (by omega) (by omega) fun M14 IM14 fM14 UM14 => ?_
  have FM14 := Fr.pu FM12 UM14.1 kd_4 (rfl : List.contains [4, 27, 28, 29, 30, 31, 32, 33, 34, 35, 36] 4 = true)
  refine PW.aload_n q_21_56 rfl ?_
  refine PW.aload_n q_21_57 rfl ?_
  refine PW.gI q_21_58 (Or.inl t_ft_21_70) gF_4_7 kd_256 IM14.1 (by decide) fun x15 fx15 hx15 kx15 => ?_
  refine PW.pB q_21_61 (Or.inl t_ft_21_70) gF_4_7 gP_4_7 kd_4 IM14.1 (by decide) (by omega) (by omega) fun M16 JM16 fM16 UM16 => ?_
  have IM16 : Iv gTS M16 := ⟨JM16, UM16.TT kd_4 rfl rfl IM14.2.1, gS1.oth IM14.2.2 (UM16.1 256 (by decide)) (UM16.1 262 (by decide))⟩
  have FM16 := Fr.pu FM14 UM16.1 kd_4 (rfl : List.contains [4, 27, 28, 29, 30, 31, 32, 33, 34, 35, 36] 4 = true)
  refine PW.cI q_21_64 (by decide) fun c17 hc17 => ?_
  refine PW.istore_n q_21_65 (by decide) ?_
  have L21_66_18 : ∀ (n : Nat) (ML21_66_18 : pM) (v19 : Int32), Iv (gTS) ML21_66_18 → Fr [4, 27, 28, 29, 30, 31, 32, 33, 34, 35, 36] M ML21_66_18 → 0 ≤ v19.toInt → v19.toInt ≤ 6 → (6 - v19.toInt).toNat = n → PW G false 0 21 (p_mc 21) (p_msl 21) Kr 66 [(0, .ref 4), (1, .ref 256), (2, .int v19)] [] 311 ML21_66_18 0 0 := by
    intro n
    induction n using Nat.strongRecOn with
    | ind n ih_L21_66_18 =>
    intro ML21_66_18 v19 IML21_66_18 FML21_66_18 hbL21_66_180 hbL21_66_181 hmL21_66_18
    refine PW.iload_n q_21_66 rfl ?_
    refine PW.cB q_21_67 (by decide) fun c20 hc20 => ?_
    refine PW.jc_ge q_21_69 rfl (fun h21 => ?_) (fun h21 => ?_)
    · skip
      refine PW.cI q_21_126 (by decide) fun c22 hc22 => ?_
      refine PW.istore_n q_21_127 (by decide) ?_
      have L21_128_23 : ∀ (n : Nat) (ML21_128_23 : pM) (v24 : Int32), Iv (gTS) ML21_128_23 → Fr [4, 27, 28, 29, 30, 31, 32, 33, 34, 35, 36] M ML21_128_23 → 0 ≤ v24.toInt → v24.toInt ≤ 2 → (2 - v24.toInt).toNat = n → PW G false 0 21 (p_mc 21) (p_msl 21) Kr 128 [(0, .ref 4), (1, .ref 256), (2, .int v24)] [] 311 ML21_128_23 0 0 := by
        intro n
        induction n using Nat.strongRecOn with
        | ind n ih_L21_128_23 =>
        intro ML21_128_23 v24 IML21_128_23 FML21_128_23 hbL21_128_230 hbL21_128_231 hmL21_128_23
        refine PW.iload_n q_21_128 rfl ?_
        refine PW.cI q_21_129 (by decide) fun c25 hc25 => ?_
        refine PW.jc_ge q_21_130 rfl (fun h26 => ?_) (fun h26 => ?_)
        · skip
          refine PW.vret q_21_211 rfl (by decide) (by decide) ?_
          exact hK ML21_128_23 IML21_128_23 FML21_128_23
        · skip
          refine PW.aload_n q_21_133 rfl ?_
          refine PW.gR 9 q_21_134 (Or.inl t_ft_21_26) gF_4_12 kd_4 IML21_128_23.1 (by decide) rfl ?_
          refine PW.iload_n q_21_137 rfl ?_
          refine PW.aload_n q_21_138 rfl ?_
          refine PW.gR 261 q_21_139 (Or.inl t_ft_21_26) gF_4_12 kd_256 IML21_128_23.1 (by decide) rfl ?_
          refine PW.iload_n q_21_142 rfl ?_
          refine PW.aL q_21_143 rfl kd_261 IML21_128_23.1 (by decide) (by omega) (by omega) fun l27 fl27 => ?_
          refine PW.wL q_21_144 rfl kd_9 StabS IML21_128_23 (by decide) rfl (by omega) (by omega) fun M28 IM28 UM28 => ?_
          have FM28 := Fr.pu FML21_128_23 UM28 kd_9 (rfl : List.contains [4, 27, 28, 29, 30, 31, 32, 33, 34, 35, 36] 31 = true)
          refine PW.aload_n q_21_145 rfl ?_
          refine PW.gR 10 q_21_146 (Or.inl t_ft_21_29) gF_4_13 kd_4 IM28.1 (by decide) rfl ?_
          refine PW.iload_n q_21_149 rfl ?_
          refine PW.aload_n q_21_150 rfl ?_
          refine PW.gR 262 q_21_151 (Or.inl t_ft_21_29) gF_4_13 kd_256 IM28.1 (by decide) rfl ?_
          refine PW.iload_n q_21_154 rfl ?_
          refine PW.aI q_21_155 gA_32 kd_262 IM28.1 (by decide) gB_32_0_1 (by decide) (by omega) (by omega) fun x29 fx29 hx29 kx29 => ?_
          refine PW.wB q_21_156 gA_32 kd_10 IM28.1 (by decide) (by omega) (by omega) ⟨by show (-1 : Int) ≤ _; omega, by show _ ≤ (5 : Int); omega⟩ fun M30 JM30 fM30 UM30 => ?_
          have IM30 : Iv gTS M30 := ⟨JM30, gAT UM30.1 kd_10 (by decide) rfl IM28.2.1, gS1.oth IM28.2.2 (UM30.1 256 (by decide)) (UM30.1 262 (by decide))⟩
          have FM30 := Fr.pu FM28 UM30.1 kd_10 (rfl : List.contains [4, 27, 28, 29, 30, 31, 32, 33, 34, 35, 36] 32 = true)
          refine PW.aload_n q_21_157 rfl ?_
          refine PW.gR 11 q_21_158 (Or.inl t_ft_21_32) gF_4_14 kd_4 IM30.1 (by decide) rfl ?_
          refine PW.iload_n q_21_161 rfl ?_
          refine PW.aload_n q_21_162 rfl ?_
          refine PW.gR 263 q_21_163 (Or.inl t_ft_21_32) gF_4_14 kd_256 IM30.1 (by decide) rfl ?_
          refine PW.iload_n q_21_166 rfl ?_
          refine PW.aH q_21_167 gA_33 kd_263 IM30.1 (by decide) (by omega) (by omega) fun x31 fx31 => ?_
          refine PW.wI q_21_168 gA_33 kd_11 StabS IM30 (by decide) rfl gC_33_0_1 (by decide) (by omega) (by omega) (n_lo _) (n_hi _) fun M32 IM32 fM32 UM32 => ?_
          have FM32 := Fr.pu FM30 UM32.1 kd_11 (rfl : List.contains [4, 27, 28, 29, 30, 31, 32, 33, 34, 35, 36] 33 = true)
          refine PW.aload_n q_21_169 rfl ?_
          refine PW.gR 12 q_21_170 (Or.inl t_ft_21_35) gF_4_15 kd_4 IM32.1 (by decide) rfl ?_
          refine PW.iload_n q_21_173 rfl ?_
          refine PW.aload_n q_21_174 rfl ?_
          refine PW.gR 264 q_21_175 (Or.inl t_ft_21_35) gF_4_15 kd_256 IM32.1 (by decide) rfl ?_
          refine PW.iload_n q_21_178 rfl ?_
          refine PW.aH q_21_179 gA_34 kd_264 IM32.1 (by decide) (by omega) (by omega) fun x33 fx33 => ?_
          refine PW.wI q_21_180 gA_34 kd_12 StabS IM32 (by decide) rfl gC_34_0_1 (by decide) (by omega) (by omega) (n_lo _) (n_hi _) fun M34 IM34 fM34 UM34 => ?_
          have FM34 := Fr.pu FM32 UM34.1 kd_12 (rfl : List.contains [4, 27, 28, 29, 30, 31, 32, 33, 34, 35, 36] 34 = true)
          refine PW.aload_n q_21_181 rfl ?_
          refine PW.gR 13 q_21_182 (Or.inl t_ft_21_38) gF_4_16 kd_4 IM34.1 (by decide) rfl ?_
          refine PW.iload_n q_21_185 rfl ?_
          refine PW.aload_n q_21_186 rfl ?_
          refine PW.gR 265 q_21_187 (Or.inl t_ft_21_38) gF_4_16 kd_256 IM34.1 (by decide) rfl ?_
          refine PW.iload_n q_21_190 rfl ?_
          refine PW.aH q_21_191 gA_35 kd_265 IM34.1 (by decide) (by omega) (by omega) fun x35 fx35 => ?_
          refine PW.wI q_21_192 gA_35 kd_13 StabS IM34 (by decide) rfl gC_35_0_1 (by decide) (by omega) (by omega) (n_lo _) (n_hi _) fun M36 IM36 fM36 UM36 => ?_
          have FM36 := Fr.pu FM34 UM36.1 kd_13 (rfl : List.contains [4, 27, 28, 29, 30, 31, 32, 33, 34, 35, 36] 35 = true)
          refine PW.aload_n q_21_193 rfl ?_
          refine PW.gR 14 q_21_194 (Or.inl t_ft_21_41) gF_4_17 kd_4 IM36.1 (by decide) rfl ?_
          refine PW.iload_n q_21_197 rfl ?_
          refine PW.aload_n q_21_198 rfl ?_
          refine PW.gR 266 q_21_199 (Or.inl t_ft_21_41) gF_4_17 kd_256 IM36.1 (by decide) rfl ?_
          refine PW.iload_n q_21_202 rfl ?_
          refine PW.aH q_21_203 gA_36 kd_266 IM36.1 (by decide) (by omega) (by omega) fun x37 fx37 => ?_
          refine PW.wI q_21_204 gA_36 kd_14 StabS IM36 (by decide) rfl gC_36_0_1 (by decide) (by omega) (by omega) (n_lo _) (n_hi _) fun M38 IM38 fM38 UM38 => ?_
          have FM38 := Fr.pu FM36 UM38.1 kd_14 (rfl : List.contains [4, 27, 28, 29, 30, 31, 32, 33, 34, 35, 36] 36 = true)
          refine PW.incN q_21_205 rfl (by decide) (by decide) (by omega) (by omega) fun x39 hx39 => ?_
          refine PW.goto q_21_208 rfl ?_
          refine PW.lvS (lk1 rfl (lk1 rfl (lk1 rfl lk0))) (ih_L21_128_23 _ ?_ M38 x39 IM38 FM38 (by omega) (by omega) rfl)
          omega
      exact PW.lvS (lk1 rfl (lk1 rfl (lk1 rfl lk0))) (L21_128_23 _ ML21_66_18 c22 IML21_66_18 FML21_66_18 (by omega) (by omega) rfl)
    · skip
      refine PW.aload_n q_21_72 rfl ?_
      refine PW.gR 5 q_21_73 (Or.inl t_ft_21_9) gF_4_8 kd_4 IML21_66_18.1 (by decide) rfl ?_
      refine PW.iload_n q_21_76 rfl ?_
      refine PW.aload_n q_21_77 rfl ?_
      refine PW.gR 257 q_21_78 (Or.inl t_ft_21_9) gF_4_8 kd_256 IML21_66_18.1 (by decide) rfl ?_
      refine PW.iload_n q_21_81 rfl ?_
      refine PW.aL q_21_82 rfl kd_257 IML21_66_18.1 (by decide) (by omega) (by omega) fun l40 fl40 => ?_
      refine PW.wL q_21_83 rfl kd_5 StabS IML21_66_18 (by decide) rfl (by omega) (by omega) fun M41 IM41 UM41 => ?_
      have FM41 := Fr.pu FML21_66_18 UM41 kd_5 (rfl : List.contains [4, 27, 28, 29, 30, 31, 32, 33, 34, 35, 36] 27 = true)
      refine PW.aload_n q_21_84 rfl ?_
      refine PW.gR 6 q_21_85 (Or.inl t_ft_21_15) gF_4_9 kd_4 IM41.1 (by decide) rfl ?_
      refine PW.iload_n q_21_88 rfl ?_
      refine PW.aload_n q_21_89 rfl ?_
      refine PW.gR 258 q_21_90 (Or.inl t_ft_21_15) gF_4_9 kd_256 IM41.1 (by decide) rfl ?_
      refine PW.iload_n q_21_93 rfl ?_
      refine PW.aH q_21_94 gA_28 kd_258 IM41.1 (by decide) (by omega) (by omega) fun x42 fx42 => ?_
      refine PW.wI q_21_95 gA_28 kd_6 StabS IM41 (by decide) rfl gC_28_0_5 (by decide) (by omega) (by omega) (n_lo _) (n_hi _) fun M43 IM43 fM43 UM43 => ?_
      have FM43 := Fr.pu FM41 UM43.1 kd_6 (rfl : List.contains [4, 27, 28, 29, 30, 31, 32, 33, 34, 35, 36] 28 = true)
      refine PW.aload_n q_21_96 rfl ?_
      refine PW.gR 7 q_21_97 (Or.inl t_ft_21_19) gF_4_10 kd_4 IM43.1 (by decide) rfl ?_
      refine PW.iload_n q_21_100 rfl ?_
      refine PW.aload_n q_21_101 rfl ?_
      refine PW.gR 259 q_21_102 (Or.inl t_ft_21_19) gF_4_10 kd_256 IM43.1 (by decide) rfl ?_
      refine PW.iload_n q_21_105 rfl ?_
      refine PW.aH q_21_106 gA_29 kd_259 IM43.1 (by decide) (by omega) (by omega) fun x44 fx44 => ?_
      refine PW.wI q_21_107 gA_29 kd_7 StabS IM43 (by decide) rfl gC_29_0_5 (by decide) (by omega) (by omega) (n_lo _) (n_hi _) fun M45 IM45 fM45 UM45 => ?_
      have FM45 := Fr.pu FM43 UM45.1 kd_7 (rfl : List.contains [4, 27, 28, 29, 30, 31, 32, 33, 34, 35, 36] 29 = true)
      refine PW.aload_n q_21_108 rfl ?_
      refine PW.gR 8 q_21_109 (Or.inl t_ft_21_22) gF_4_11 kd_4 IM45.1 (by decide) rfl ?_
      refine PW.iload_n q_21_112 rfl ?_
      refine PW.aload_n q_21_113 rfl ?_
      refine PW.gR 260 q_21_114 (Or.inl t_ft_21_22) gF_4_11 kd_256 IM45.1 (by decide) rfl ?_
      refine PW.iload_n q_21_117 rfl ?_
      refine PW.aZ q_21_118 gA_30 kd_260 IM45.1 (by decide) gB_30_0_5 (by omega) (by omega) fun x46 fx46 hx46 kx46 => ?_
      refine PW.wZ q_21_119 gA_30 kd_8 StabS IM45 (by decide) rfl gC_30_0_5 (by omega) (by omega) (by omega) (by omega) fun M47 IM47 fM47 UM47 => ?_
      have FM47 := Fr.pu FM45 UM47.1 kd_8 (rfl : List.contains [4, 27, 28, 29, 30, 31, 32, 33, 34, 35, 36] 30 = true)
      refine PW.incN q_21_120 rfl (by decide) (by decide) (by omega) (by omega) fun x48 hx48 => ?_
      refine PW.goto q_21_123 rfl ?_
      refine PW.lvS (lk1 rfl (lk1 rfl (lk1 rfl lk0))) (ih_L21_66_18 _ ?_ M47 x48 IM47 FM47 (by omega) (by omega) rfl)
      omega
  exact PW.lvS (lk1 rfl (lk1 rfl (lk1 rfl lk0))) (L21_66_18 _ M16 c17 IM16 FM16 (by omega) (by omega) rfl)
theorem c_X3_copyFrom (G : pG) (Kr : pK) (M : pM) (I : Iv gTT M) (k0 : Nat) (hk_k0 : g_kd k0 = 4) (k1 : Nat) (hk_k1 : g_kd k1 = 4) (hK : ∀ (M1 : pM), Iv gTT M1 → Fr [4, 27, 28, 29, 30, 31, 32, 33, 34, 35, 36] M M1 → Kr.1 none 311 M1) : PW G false 0 21 (p_mc 21) (p_msl 21) Kr 0 (lv_args 0 [.ref k0, .ref k1]) [] 311 M 0 0 := by
  have F : Fr [4, 27, 28, 29, 30, 31, 32, 33, 34, 35, 36] M M := Fr.refl
  refine PW.aload_n q_21_0 rfl ?_
  refine PW.aload_n q_21_1 rfl ?_
  refine PW.gI q_21_2 (Or.inl t_ft_21_47) gF_4_0 hk_k1 I.1 (by decide) fun x1 fx1 hx1 kx1 => ?_
  clear hx1 kx1
  refine PW.pI q_21_5 (Or.inl t_ft_21_47) gF_4_0 gP_4_0 hk_k0 Stab0 I (by decide) rfl (n_lo _) (n_hi _) fun M2 IM2 fM2 UM2 => ?_
  have FM2 := Fr.pu F UM2.1 hk_k0 (rfl : List.contains [4, 27, 28, 29, 30, 31, 32, 33, 34, 35, 36] 4 = true)
  refine PW.aload_n q_21_8 rfl ?_
  refine PW.aload_n q_21_9 rfl ?_
  refine PW.gI q_21_10 (Or.inl t_ft_21_51) gF_4_1 hk_k1 IM2.1 (by decide) fun x3 fx3 hx3 kx3 => ?_
  clear hx3 kx3
  refine PW.pI q_21_13 (Or.inl t_ft_21_51) gF_4_1 gP_4_1 hk_k0 Stab0 IM2 (by decide) rfl (n_lo _) (n_hi _) fun M4 IM4 fM4 UM4 => ?_
  have FM4 := Fr.pu FM2 UM4.1 hk_k0 (rfl : List.contains [4, 27, 28, 29, 30, 31, 32, 33, 34, 35, 36] 4 = true)
  refine PW.aload_n q_21_16 rfl ?_
  refine PW.aload_n q_21_17 rfl ?_
  refine PW.gI q_21_18 (Or.inl t_ft_21_54) gF_4_2 hk_k1 IM4.1 (by decide) fun x5 fx5 hx5 kx5 => ?_
  clear hx5 kx5
  refine PW.pI q_21_21 (Or.inl t_ft_21_54) gF_4_2 gP_4_2 hk_k0 Stab0 IM4 (by decide) rfl (n_lo _) (n_hi _) fun M6 IM6 fM6 UM6 => ?_
  have FM6 := Fr.pu FM4 UM6.1 hk_k0 (rfl : List.contains [4, 27, 28, 29, 30, 31, 32, 33, 34, 35, 36] 4 = true)
  refine PW.aload_n q_21_24 rfl ?_
  refine PW.aload_n q_21_25 rfl ?_
  refine PW.gI q_21_26 (Or.inl t_ft_21_57) gF_4_3 hk_k1 IM6.1 (by decide) fun x7 fx7 hx7 kx7 => ?_
  clear hx7 kx7
  refine PW.pI q_21_29 (Or.inl t_ft_21_57) gF_4_3 gP_4_3 hk_k0 Stab0 IM6 (by decide) rfl (n_lo _) (n_hi _) fun M8 IM8 fM8 UM8 => ?_
  have FM8 := Fr.pu FM6 UM8.1 hk_k0 (rfl : List.contains [4, 27, 28, 29, 30, 31, 32, 33, 34, 35, 36] 4 = true)
  refine PW.aload_n q_21_32 rfl ?_
  refine PW.aload_n q_21_33 rfl ?_
  refine PW.gI q_21_34 (Or.inl t_ft_21_60) gF_4_4 hk_k1 IM8.1 (by decide) fun x9 fx9 hx9 kx9 => ?_
  refine PW.pI q_21_37 (Or.inl t_ft_21_60) gF_4_4 gP_4_4 hk_k0 Stab0 IM8 (by decide) rfl (by omega) (by omega) fun M10 IM10 fM10 UM10 => ?_
  have FM10 := Fr.pu FM8 UM10.1 hk_k0 (rfl : List.contains [4, 27, 28, 29, 30, 31, 32, 33, 34, 35, 36] 4 = true)
  refine PW.aload_n q_21_40 rfl ?_
  refine PW.aload_n q_21_41 rfl ?_
  refine PW.gI q_21_42 (Or.inl t_ft_21_64) gF_4_5 hk_k1 IM10.1 (by decide) fun x11 fx11 hx11 kx11 => ?_
  refine PW.pI q_21_45 (Or.inl t_ft_21_64) gF_4_5 gP_4_5 hk_k0 Stab0 IM10 (by decide) rfl (by omega) (by omega) fun M12 IM12 fM12 UM12 => ?_
  have FM12 := Fr.pu FM10 UM12.1 hk_k0 (rfl : List.contains [4, 27, 28, 29, 30, 31, 32, 33, 34, 35, 36] 4 = true)
  refine PW.aload_n q_21_48 rfl ?_
  refine PW.aload_n q_21_49 rfl ?_
  refine PW.gI q_21_50 (Or.inl t_ft_21_67) gF_4_6 hk_k1 IM12.1 (by decide) fun x13 fx13 hx13 kx13 => ?_
  refine PW.pI q_21_53 (Or.inl t_ft_21_67) gF_4_6 gP_4_6 hk_k0 Stab0 IM12 (by decide) rfl (by omega) (by omega) fun M14 IM14 fM14 UM14 => ?_
  have FM14 := Fr.pu FM12 UM14.1 hk_k0 (rfl : List.contains [4, 27, 28, 29, 30, 31, 32, 33, 34, 35, 36] 4 = true)
  refine PW.aload_n q_21_56 rfl ?_
  refine PW.aload_n q_21_57 rfl ?_
  refine PW.gI q_21_58 (Or.inl t_ft_21_70) gF_4_7 hk_k1 IM14.1 (by decide) fun x15 fx15 hx15 kx15 => ?_
  refine PW.pT q_21_61 (Or.inl t_ft_21_70) gF_4_7 gP_4_7 hk_k0 IM14 (by decide) rfl (by omega) (by omega) fun M16 IM16 fM16 UM16 => ?_
  have FM16 := Fr.pu FM14 UM16.1 hk_k0 (rfl : List.contains [4, 27, 28, 29, 30, 31, 32, 33, 34, 35, 36] 4 = true)
  refine PW.cI q_21_64 (by decide) fun c17 hc17 => ?_
  refine PW.istore_n q_21_65 (by decide) ?_
  have L21_66_18 : ∀ (n : Nat) (ML21_66_18 : pM) (v19 : Int32), Iv (gTT) ML21_66_18 → Fr [4, 27, 28, 29, 30, 31, 32, 33, 34, 35, 36] M ML21_66_18 → 0 ≤ v19.toInt → v19.toInt ≤ 6 → (6 - v19.toInt).toNat = n → PW G false 0 21 (p_mc 21) (p_msl 21) Kr 66 [(0, .ref k0), (1, .ref k1), (2, .int v19)] [] 311 ML21_66_18 0 0 := by
    intro n
    induction n using Nat.strongRecOn with
    | ind n ih_L21_66_18 =>
    intro ML21_66_18 v19 IML21_66_18 FML21_66_18 hbL21_66_180 hbL21_66_181 hmL21_66_18
    refine PW.iload_n q_21_66 rfl ?_
    refine PW.cB q_21_67 (by decide) fun c20 hc20 => ?_
    refine PW.jc_ge q_21_69 rfl (fun h21 => ?_) (fun h21 => ?_)
    · skip
      refine PW.cI q_21_126 (by decide) fun c22 hc22 => ?_
      refine PW.istore_n q_21_127 (by decide) ?_
      have L21_128_23 : ∀ (n : Nat) (ML21_128_23 : pM) (v24 : Int32), Iv (gTT) ML21_128_23 → Fr [4, 27, 28, 29, 30, 31, 32, 33, 34, 35, 36] M ML21_128_23 → 0 ≤ v24.toInt → v24.toInt ≤ 2 → (2 - v24.toInt).toNat = n → PW G false 0 21 (p_mc 21) (p_msl 21) Kr 128 [(0, .ref k0), (1, .ref k1), (2, .int v24)] [] 311 ML21_128_23 0 0 := by
        intro n
        induction n using Nat.strongRecOn with
        | ind n ih_L21_128_23 =>
        intro ML21_128_23 v24 IML21_128_23 FML21_128_23 hbL21_128_230 hbL21_128_231 hmL21_128_23
        refine PW.iload_n q_21_128 rfl ?_
        refine PW.cI q_21_129 (by decide) fun c25 hc25 => ?_
        refine PW.jc_ge q_21_130 rfl (fun h26 => ?_) (fun h26 => ?_)
        · skip
          refine PW.vret q_21_211 rfl (by decide) (by decide) ?_
          exact hK ML21_128_23 IML21_128_23 FML21_128_23
        · skip
          refine PW.aload_n q_21_133 rfl ?_
          refine PW.gRk q_21_134 (Or.inl t_ft_21_26) gF_4_12 hk_k0 IML21_128_23.1 (by decide) fun b27 hk_b27 e_b27 => ?_
          refine PW.iload_n q_21_137 rfl ?_
          refine PW.aload_n q_21_138 rfl ?_
          refine PW.gRk q_21_139 (Or.inl t_ft_21_26) gF_4_12 hk_k1 IML21_128_23.1 (by decide) fun b28 hk_b28 e_b28 => ?_
          refine PW.iload_n q_21_142 rfl ?_
          refine PW.aL q_21_143 rfl hk_b28 IML21_128_23.1 (by decide) (by omega) (by omega) fun l29 fl29 => ?_
          refine PW.wL q_21_144 rfl hk_b27 Stab0 IML21_128_23 (by decide) rfl (by omega) (by omega) fun M30 IM30 UM30 => ?_
          have FM30 := Fr.pu FML21_128_23 UM30 hk_b27 (rfl : List.contains [4, 27, 28, 29, 30, 31, 32, 33, 34, 35, 36] 31 = true)
          refine PW.aload_n q_21_145 rfl ?_
          refine PW.gRk q_21_146 (Or.inl t_ft_21_29) gF_4_13 hk_k0 IM30.1 (by decide) fun b31 hk_b31 e_b31 => ?_
          refine PW.iload_n q_21_149 rfl ?_
          refine PW.aload_n q_21_150 rfl ?_
          refine PW.gRk q_21_151 (Or.inl t_ft_21_29) gF_4_13 hk_k1 IM30.1 (by decide) fun b32 hk_b32 e_b32 => ?_
          refine PW.iload_n q_21_154 rfl ?_
          refine PW.aI q_21_155 gA_32 hk_b32 IM30.1 (by decide) gB_32_0_1 (by decide) (by omega) (by omega) fun x33 fx33 hx33 kx33 => ?_
          refine PW.wT q_21_156 gA_32 hk_b31 IM30 (by decide) rfl gC_32_0_1 (by decide) (by omega) (by omega) (by omega) (by omega) fun M34 IM34 fM34 UM34 => ?_
          have FM34 := Fr.pu FM30 UM34.1 hk_b31 (rfl : List.contains [4, 27, 28, 29, 30, 31, 32, 33, 34, 35, 36] 32 = true)
          refine PW.aload_n q_21_157 rfl ?_
          refine PW.gRk q_21_158 (Or.inl t_ft_21_32) gF_4_14 hk_k0 IM34.1 (by decide) fun b35 hk_b35 e_b35 => ?_
          refine PW.iload_n q_21_161 rfl ?_
          refine PW.aload_n q_21_162 rfl ?_
          refine PW.gRk q_21_163 (Or.inl t_ft_21_32) gF_4_14 hk_k1 IM34.1 (by decide) fun b36 hk_b36 e_b36 => ?_
          refine PW.iload_n q_21_166 rfl ?_
          refine PW.aH q_21_167 gA_33 hk_b36 IM34.1 (by decide) (by omega) (by omega) fun x37 fx37 => ?_
          refine PW.wI q_21_168 gA_33 hk_b35 Stab0 IM34 (by decide) rfl gC_33_0_1 (by decide) (by omega) (by omega) (n_lo _) (n_hi _) fun M38 IM38 fM38 UM38 => ?_
          have FM38 := Fr.pu FM34 UM38.1 hk_b35 (rfl : List.contains [4, 27, 28, 29, 30, 31, 32, 33, 34, 35, 36] 33 = true)
          refine PW.aload_n q_21_169 rfl ?_
          refine PW.gRk q_21_170 (Or.inl t_ft_21_35) gF_4_15 hk_k0 IM38.1 (by decide) fun b39 hk_b39 e_b39 => ?_
          refine PW.iload_n q_21_173 rfl ?_
          refine PW.aload_n q_21_174 rfl ?_
          refine PW.gRk q_21_175 (Or.inl t_ft_21_35) gF_4_15 hk_k1 IM38.1 (by decide) fun b40 hk_b40 e_b40 => ?_
          refine PW.iload_n q_21_178 rfl ?_
          refine PW.aH q_21_179 gA_34 hk_b40 IM38.1 (by decide) (by omega) (by omega) fun x41 fx41 => ?_
          refine PW.wI q_21_180 gA_34 hk_b39 Stab0 IM38 (by decide) rfl gC_34_0_1 (by decide) (by omega) (by omega) (n_lo _) (n_hi _) fun M42 IM42 fM42 UM42 => ?_
          have FM42 := Fr.pu FM38 UM42.1 hk_b39 (rfl : List.contains [4, 27, 28, 29, 30, 31, 32, 33, 34, 35, 36] 34 = true)
          refine PW.aload_n q_21_181 rfl ?_
          refine PW.gRk q_21_182 (Or.inl t_ft_21_38) gF_4_16 hk_k0 IM42.1 (by decide) fun b43 hk_b43 e_b43 => ?_
          refine PW.iload_n q_21_185 rfl ?_
          refine PW.aload_n q_21_186 rfl ?_
          refine PW.gRk q_21_187 (Or.inl t_ft_21_38) gF_4_16 hk_k1 IM42.1 (by decide) fun b44 hk_b44 e_b44 => ?_
          refine PW.iload_n q_21_190 rfl ?_
          refine PW.aH q_21_191 gA_35 hk_b44 IM42.1 (by decide) (by omega) (by omega) fun x45 fx45 => ?_
          refine PW.wI q_21_192 gA_35 hk_b43 Stab0 IM42 (by decide) rfl gC_35_0_1 (by decide) (by omega) (by omega) (n_lo _) (n_hi _) fun M46 IM46 fM46 UM46 => ?_
          have FM46 := Fr.pu FM42 UM46.1 hk_b43 (rfl : List.contains [4, 27, 28, 29, 30, 31, 32, 33, 34, 35, 36] 35 = true)
          refine PW.aload_n q_21_193 rfl ?_
          refine PW.gRk q_21_194 (Or.inl t_ft_21_41) gF_4_17 hk_k0 IM46.1 (by decide) fun b47 hk_b47 e_b47 => ?_
          refine PW.iload_n q_21_197 rfl ?_
          refine PW.aload_n q_21_198 rfl ?_
          refine PW.gRk q_21_199 (Or.inl t_ft_21_41) gF_4_17 hk_k1 IM46.1 (by decide) fun b48 hk_b48 e_b48 => ?_
          refine PW.iload_n q_21_202 rfl ?_
          refine PW.aH q_21_203 gA_36 hk_b48 IM46.1 (by decide) (by omega) (by omega) fun x49 fx49 => ?_
          refine PW.wI q_21_204 gA_36 hk_b47 Stab0 IM46 (by decide) rfl gC_36_0_1 (by decide) (by omega) (by omega) (n_lo _) (n_hi _) fun M50 IM50 fM50 UM50 => ?_
          have FM50 := Fr.pu FM46 UM50.1 hk_b47 (rfl : List.contains [4, 27, 28, 29, 30, 31, 32, 33, 34, 35, 36] 36 = true)
          refine PW.incN q_21_205 rfl (by decide) (by decide) (by omega) (by omega) fun x51 hx51 => ?_
          refine PW.goto q_21_208 rfl ?_
          refine PW.lvS (lk1 rfl (lk1 rfl (lk1 rfl lk0))) (ih_L21_128_23 _ ?_ M50 x51 IM50 FM50 (by omega) (by omega) rfl)
          omega
      exact PW.lvS (lk1 rfl (lk1 rfl (lk1 rfl lk0))) (L21_128_23 _ ML21_66_18 c22 IML21_66_18 FML21_66_18 (by omega) (by omega) rfl)
    · skip
      refine PW.aload_n q_21_72 rfl ?_
      refine PW.gRk q_21_73 (Or.inl t_ft_21_9) gF_4_8 hk_k0 IML21_66_18.1 (by decide) fun b52 hk_b52 e_b52 => ?_
      refine PW.iload_n q_21_76 rfl ?_
      refine PW.aload_n q_21_77 rfl ?_
      refine PW.gRk q_21_78 (Or.inl t_ft_21_9) gF_4_8 hk_k1 IML21_66_18.1 (by decide) fun b53 hk_b53 e_b53 => ?_
      refine PW.iload_n q_21_81 rfl ?_
      refine PW.aL q_21_82 rfl hk_b53 IML21_66_18.1 (by decide) (by omega) (by omega) fun l54 fl54 => ?_
      refine PW.wL q_21_83 rfl hk_b52 Stab0 IML21_66_18 (by decide) rfl (by omega) (by omega) fun M55 IM55 UM55 => ?_
      have FM55 := Fr.pu FML21_66_18 UM55 hk_b52 (rfl : List.contains [4, 27, 28, 29, 30, 31, 32, 33, 34, 35, 36] 27 = true)
      refine PW.aload_n q_21_84 rfl ?_
      refine PW.gRk q_21_85 (Or.inl t_ft_21_15) gF_4_9 hk_k0 IM55.1 (by decide) fun b56 hk_b56 e_b56 => ?_
      refine PW.iload_n q_21_88 rfl ?_
      refine PW.aload_n q_21_89 rfl ?_
      refine PW.gRk q_21_90 (Or.inl t_ft_21_15) gF_4_9 hk_k1 IM55.1 (by decide) fun b57 hk_b57 e_b57 => ?_
      refine PW.iload_n q_21_93 rfl ?_
      refine PW.aH q_21_94 gA_28 hk_b57 IM55.1 (by decide) (by omega) (by omega) fun x58 fx58 => ?_
      refine PW.wI q_21_95 gA_28 hk_b56 Stab0 IM55 (by decide) rfl gC_28_0_5 (by decide) (by omega) (by omega) (n_lo _) (n_hi _) fun M59 IM59 fM59 UM59 => ?_
      have FM59 := Fr.pu FM55 UM59.1 hk_b56 (rfl : List.contains [4, 27, 28, 29, 30, 31, 32, 33, 34, 35, 36] 28 = true)
      refine PW.aload_n q_21_96 rfl ?_
      refine PW.gRk q_21_97 (Or.inl t_ft_21_19) gF_4_10 hk_k0 IM59.1 (by decide) fun b60 hk_b60 e_b60 => ?_
      refine PW.iload_n q_21_100 rfl ?_
      refine PW.aload_n q_21_101 rfl ?_
      refine PW.gRk q_21_102 (Or.inl t_ft_21_19) gF_4_10 hk_k1 IM59.1 (by decide) fun b61 hk_b61 e_b61 => ?_
      refine PW.iload_n q_21_105 rfl ?_
      refine PW.aH q_21_106 gA_29 hk_b61 IM59.1 (by decide) (by omega) (by omega) fun x62 fx62 => ?_
      refine PW.wI q_21_107 gA_29 hk_b60 Stab0 IM59 (by decide) rfl gC_29_0_5 (by decide) (by omega) (by omega) (n_lo _) (n_hi _) fun M63 IM63 fM63 UM63 => ?_
      have FM63 := Fr.pu FM59 UM63.1 hk_b60 (rfl : List.contains [4, 27, 28, 29, 30, 31, 32, 33, 34, 35, 36] 29 = true)
      refine PW.aload_n q_21_108 rfl ?_
      refine PW.gRk q_21_109 (Or.inl t_ft_21_22) gF_4_11 hk_k0 IM63.1 (by decide) fun b64 hk_b64 e_b64 => ?_
      refine PW.iload_n q_21_112 rfl ?_
      refine PW.aload_n q_21_113 rfl ?_
      refine PW.gRk q_21_114 (Or.inl t_ft_21_22) gF_4_11 hk_k1 IM63.1 (by decide) fun b65 hk_b65 e_b65 => ?_
      refine PW.iload_n q_21_117 rfl ?_
      refine PW.aZ q_21_118 gA_30 hk_b65 IM63.1 (by decide) gB_30_0_5 (by omega) (by omega) fun x66 fx66 hx66 kx66 => ?_
      refine PW.wZ q_21_119 gA_30 hk_b64 Stab0 IM63 (by decide) rfl gC_30_0_5 (by omega) (by omega) (by omega) (by omega) fun M67 IM67 fM67 UM67 => ?_
      have FM67 := Fr.pu FM63 UM67.1 hk_b64 (rfl : List.contains [4, 27, 28, 29, 30, 31, 32, 33, 34, 35, 36] 30 = true)
      refine PW.incN q_21_120 rfl (by decide) (by decide) (by omega) (by omega) fun x68 hx68 => ?_
      refine PW.goto q_21_123 rfl ?_
      refine PW.lvS (lk1 rfl (lk1 rfl (lk1 rfl lk0))) (ih_L21_66_18 _ ?_ M67 x68 IM67 FM67 (by omega) (by omega) rfl)
      omega
  exact PW.lvS (lk1 rfl (lk1 rfl (lk1 rfl lk0))) (L21_66_18 _ M16 c17 IM16 FM16 (by omega) (by omega) rfl)
theorem c_X3_seesNewName (V : pM → Prop) (hV : Stab V) (G : pG) (Kr : pK) (M : pM) (I : Iv V M)  (hK : ∀ (x : Int32) (M1 : pM), Iv V M1 → Fr [1] M M1 → 0 ≤ x.toInt → x.toInt ≤ 1 → Kr.1 (some (.int x)) 311 M1) : PW G false 1 28 (p_mc 28) (p_msl 28) Kr 0 (lv_args 0 [.ref 256, .ref 1]) [] 311 M 0 0 := by
  have F : Fr [1] M M := Fr.refl
  refine PW.aload_n q_28_0 rfl ?_
  refine PW.gI q_28_1 (Or.inr t_fN_28_160) gF_1_5 kd_1 I.1 (by decide) fun x1 fx1 hx1 kx1 => ?_
  clear hx1 kx1
  refine PW.cI q_28_4 (by decide) fun c2 hc2 => ?_
  refine PW.jc_eq q_28_5 rfl (fun h3 => ?_) (fun h3 => ?_)
  · skip
    refine PW.aload_n q_28_14 rfl ?_
    refine PW.gR 257 q_28_15 (Or.inl t_ft_28_9) gF_4_8 kd_256 I.1 (by decide) rfl ?_
    refine PW.aload_n q_28_18 rfl ?_
    refine PW.gI q_28_19 (Or.inl t_ft_28_67) gF_4_6 kd_256 I.1 (by decide) fun x4 fx4 hx4 kx4 => ?_
    refine PW.aload_n q_28_22 rfl ?_
    refine PW.gL q_28_23 (Or.inr t_fN_28_150) gF_1_7 kd_1 I.1 (by decide) fun l5 fl5 => ?_
    refine PW.callS (as := [_, _, _]) (rest := []) q_28_26 t_ms_28_163 (by decide) rfl (Nat.le_of_ble_eq_true rfl) (Nat.le_of_ble_eq_true rfl) (by decide) (by decide) ?_
    refine PW.up (by decide) (c_X7_indexOf (V) (hV) G _ M I 257 kd_257 x4 _ fun x7 M6 IM6 GM6 hx7 kx7 => ?_)
    have FM6 := Fr.trans F GM6 (rfl)
    refine PW.cI q_28_29 (by decide) fun c8 hc8 => ?_
    have J57_10 : ∀ (MJ57_10 : pM) (s11 : Int32), Iv (V) MJ57_10 → Fr [1] M MJ57_10 → 0 ≤ s11.toInt → s11.toInt ≤ 1 → o_f (MJ57_10 1) 5 = .int x1 → o_f (MJ57_10 256) 6 = .int x4 → PW G false 1 28 (p_mc 28) (p_msl 28) Kr 57 [(0, .ref 256), (1, .ref 1)] [.int s11] 311 MJ57_10 0 0 := by
      intro MJ57_10 s11 IMJ57_10 FMJ57_10 hbJ57_100 hbJ57_101 hbJ57_102 hbJ57_103
      refine PW.istore_n q_28_57 (by decide) ?_
      refine PW.iload_n q_28_58 rfl ?_
      refine PW.jz_eq q_28_59 rfl (fun h12 => ?_) (fun h12 => ?_)
      · skip
        refine PW.cI q_28_70 (by decide) fun c13 hc13 => ?_
        refine PW.goto q_28_71 rfl ?_
        refine PW.rZ q_28_75 rfl (by omega) (by omega) (by decide) (by decide) ?_
        exact hK c13 MJ57_10 IMJ57_10 FMJ57_10 (by omega) (by omega)
      · skip
        refine PW.aload_n q_28_62 rfl ?_
        refine PW.cI q_28_63 (by decide) fun c14 hc14 => ?_
        refine PW.cV (as := [_]) (rest := []) q_28_64 t_mv_28_137 kd_1 IMJ57_10.1 (by decide) rfl (by decide) rfl rfl (Nat.le_of_ble_eq_true rfl) (Nat.le_of_ble_eq_true rfl) (by decide) (by decide) ?_
        refine PW.up (by decide) (c_X7_fail (V) (hV) G _ MJ57_10 IMJ57_10 c14 fun x16 M15 IM15 GM15 hx16 kx16 => ?_)
        have FM15 := Fr.trans FMJ57_10 GM15 (rfl)
        refine PW.jz_eq q_28_67 rfl (fun h17 => ?_) (fun h17 => False.elim (by omega))
        refine PW.cI q_28_74 (by decide) fun c18 hc18 => ?_
        refine PW.rZ q_28_75 rfl (by omega) (by omega) (by decide) (by decide) ?_
        exact hK c18 M15 IM15 FM15 (by omega) (by omega)
    refine PW.jc_ne q_28_30 rfl (fun h9 => ?_) (fun h9 => ?_)
    · skip
      refine PW.cI q_28_52 (by decide) fun c19 hc19 => ?_
      refine PW.goto q_28_53 rfl ?_
      exact PW.lvS (lk1 rfl (lk1 rfl lk0)) (J57_10 M6 c19 IM6 FM6 (by omega) (by omega) ((congrArg (fun e => o_f e 5) (Fr.at GM6 kd_1 (by decide))).trans fx1) ((congrArg (fun e => o_f e 6) (Fr.at GM6 kd_256 (by decide))).trans fx4))
    · skip
      refine PW.aload_n q_28_33 rfl ?_
      refine PW.gR 261 q_28_34 (Or.inl t_ft_28_26) gF_4_12 kd_256 IM6.1 (by decide) rfl ?_
      refine PW.aload_n q_28_37 rfl ?_
      refine PW.gI q_28_38 (Or.inl t_ft_28_70) gF_4_7 kd_256 IM6.1 (by decide) fun x20 fx20 hx20 kx20 => ?_
      refine PW.aload_n q_28_41 rfl ?_
      refine PW.gL q_28_42 (Or.inr t_fN_28_150) gF_1_7 kd_1 IM6.1 (by decide) fun l21 fl21 => ?_
      refine PW.callS (as := [_, _, _]) (rest := []) q_28_45 t_ms_28_163 (by decide) rfl (Nat.le_of_ble_eq_true rfl) (Nat.le_of_ble_eq_true rfl) (by decide) (by decide) ?_
      refine PW.up (by decide) (c_X7_indexOf_d (V) (hV) G _ M6 IM6 261 kd_261 x20 _ fun x23 M22 IM22 GM22 hx23 kx23 => ?_)
      have FM22 := Fr.trans FM6 GM22 (rfl)
      refine PW.cI q_28_48 (by decide) fun c24 hc24 => ?_
      refine PW.jc_eq q_28_49 rfl (fun h25 => ?_) (fun h25 => ?_)
      · skip
        refine PW.cI q_28_56 (by decide) fun c26 hc26 => ?_
        exact PW.lvS (lk1 rfl (lk1 rfl lk0)) (J57_10 M22 c26 IM22 FM22 (by omega) (by omega) ((congrArg (fun e => o_f e 5) (Fr.at GM22 kd_1 (by decide))).trans ((congrArg (fun e => o_f e 5) (Fr.at GM6 kd_1 (by decide))).trans fx1)) ((congrArg (fun e => o_f e 6) (Fr.at GM22 kd_256 (by decide))).trans ((congrArg (fun e => o_f e 6) (Fr.at GM6 kd_256 (by decide))).trans fx4)))
      · skip
        refine PW.cI q_28_52 (by decide) fun c27 hc27 => ?_
        refine PW.goto q_28_53 rfl ?_
        exact PW.lvS (lk1 rfl (lk1 rfl lk0)) (J57_10 M22 c27 IM22 FM22 (by omega) (by omega) ((congrArg (fun e => o_f e 5) (Fr.at GM22 kd_1 (by decide))).trans ((congrArg (fun e => o_f e 5) (Fr.at GM6 kd_1 (by decide))).trans fx1)) ((congrArg (fun e => o_f e 6) (Fr.at GM22 kd_256 (by decide))).trans ((congrArg (fun e => o_f e 6) (Fr.at GM6 kd_256 (by decide))).trans fx4)))
  · skip
    refine PW.aload_n q_28_8 rfl ?_
    refine PW.cI q_28_9 (by decide) fun c28 hc28 => ?_
    refine PW.cV (as := [_]) (rest := []) q_28_10 t_mv_28_137 kd_1 I.1 (by decide) rfl (by decide) rfl rfl (Nat.le_of_ble_eq_true rfl) (Nat.le_of_ble_eq_true rfl) (by decide) (by decide) ?_
    refine PW.up (by decide) (c_X7_fail (V) (hV) G _ M I c28 fun x30 M29 IM29 GM29 hx30 kx30 => ?_)
    have FM29 := Fr.trans F GM29 (rfl)
    refine PW.rZ q_28_13 rfl (by omega) (by omega) (by decide) (by decide) ?_
    exact hK x30 M29 IM29 FM29 (by omega) (by omega)
theorem c_X3_readLength (V : pM → Prop) (hV : Stab V) (G : pG) (Kr : pK) (M : pM) (I : Iv V M)  (hK : ∀ (x : Int32) (M1 : pM), Iv V M1 → Fr [1, 4] M M1 → 0 ≤ x.toInt → x.toInt ≤ 1 → Kr.1 (some (.int x)) 311 M1) : PW G false 4 24 (p_mc 24) (p_msl 24) Kr 0 (lv_args 0 [.ref 256, .ref 1]) [] 311 M 0 0 := by
  have F : Fr [1, 4] M M := Fr.refl
  refine PW.aload_n q_24_0 rfl ?_
  refine PW.gI q_24_1 (Or.inl t_ft_24_60) gF_4_4 kd_256 I.1 (by decide) fun x1 fx1 hx1 kx1 => ?_
  refine PW.jz_ne q_24_4 rfl (fun h2 => ?_) (fun h2 => ?_)
  · skip
    refine PW.aload_n q_24_14 rfl ?_
    refine PW.cI q_24_15 (by decide) fun c3 hc3 => ?_
    refine PW.cV (as := [_]) (rest := []) q_24_16 t_mv_24_137 kd_1 I.1 (by decide) rfl (by decide) rfl rfl (Nat.le_of_ble_eq_true rfl) (Nat.le_of_ble_eq_true rfl) (by decide) (by decide) ?_
    refine PW.up (by decide) (c_X7_fail (V) (hV) G _ M I c3 fun x5 M4 IM4 GM4 hx5 kx5 => ?_)
    have FM4 := Fr.trans F GM4 (rfl)
    refine PW.rZ q_24_19 rfl (by omega) (by omega) (by decide) (by decide) ?_
    exact hK x5 M4 IM4 FM4 (by omega) (by omega)
  · skip
    refine PW.aload_n q_24_7 rfl ?_
    refine PW.gI q_24_8 (Or.inl t_ft_24_67) gF_4_6 kd_256 I.1 (by decide) fun x6 fx6 hx6 kx6 => ?_
    refine PW.jz_le q_24_11 rfl (fun h7 => ?_) (fun h7 => ?_)
    · skip
      refine PW.aload_n q_24_20 rfl ?_
      refine PW.cI q_24_21 (by decide) fun c8 hc8 => ?_
      refine PW.pI q_24_22 (Or.inl t_ft_24_60) gF_4_4 gP_4_4 kd_256 hV I (by decide) rfl (by omega) (by omega) fun M9 IM9 fM9 UM9 => ?_
      have FM9 := Fr.pu F UM9.1 kd_256 (rfl : List.contains [1, 4] 4 = true)
      refine PW.aload_n q_24_25 rfl ?_
      refine PW.cV (as := []) (rest := []) q_24_26 t_mv_24_140 kd_1 IM9.1 (by decide) rfl (by decide) rfl rfl (Nat.le_of_ble_eq_true rfl) (Nat.le_of_ble_eq_true rfl) (by decide) (by decide) ?_
      refine PW.up (by decide) (c_X7_advance (V) (hV) G _ M9 IM9  fun M10 IM10 GM10 => ?_)
      have FM10 := Fr.trans FM9 GM10 (rfl)
      refine PW.aload_n q_24_29 rfl ?_
      refine PW.aload_n q_24_30 rfl ?_
      refine PW.cI q_24_31 (by decide) fun c11 hc11 => ?_
      refine PW.cS q_24_32 (by decide) fun c12 hc12 => ?_
      refine PW.cV (as := [_, _]) (rest := [_]) q_24_35 t_mv_24_143 kd_1 IM10.1 (by decide) rfl (by decide) rfl rfl (Nat.le_of_ble_eq_true rfl) (Nat.le_of_ble_eq_true rfl) (by decide) (by decide) ?_
      refine PW.up (by decide) (c_X7_needsNumber (V) (hV) G _ M10 IM10 c11 c12 fun x14 M13 IM13 GM13 PM13 => ?_)
      have FM13 := Fr.trans FM10 GM13 (rfl)
      refine PW.pI q_24_38 (Or.inl t_ft_24_51) gF_4_1 gP_4_1 kd_256 hV IM13 (by decide) rfl (n_lo _) (n_hi _) fun M15 IM15 fM15 UM15 => ?_
      have FM15 := Fr.pu FM13 UM15.1 kd_256 (rfl : List.contains [1, 4] 4 = true)
      refine PW.aload_n q_24_41 rfl ?_
      refine PW.gE q_24_42 (Or.inl t_ft_24_51) gF_4_1 kd_256 IM15.1 (by decide) fM15 ?_
      refine PW.cI q_24_45 (by decide) fun c16 hc16 => ?_
      refine PW.jc_eq q_24_46 rfl (fun h17 => ?_) (fun h17 => ?_)
      · skip
        refine PW.cI q_24_53 (by decide) fun c18 hc18 => ?_
        refine PW.rZ q_24_54 rfl (by omega) (by omega) (by decide) (by decide) ?_
        exact hK c18 M15 IM15 FM15 (by omega) (by omega)
      · skip
        refine PW.cI q_24_49 (by decide) fun c19 hc19 => ?_
        refine PW.goto q_24_50 rfl ?_
        refine PW.rZ q_24_54 rfl (by omega) (by omega) (by decide) (by decide) ?_
        exact hK c19 M15 IM15 FM15 (by omega) (by omega)
    · skip
      refine PW.aload_n q_24_14 rfl ?_
      refine PW.cI q_24_15 (by decide) fun c20 hc20 => ?_
      refine PW.cV (as := [_]) (rest := []) q_24_16 t_mv_24_137 kd_1 I.1 (by decide) rfl (by decide) rfl rfl (Nat.le_of_ble_eq_true rfl) (Nat.le_of_ble_eq_true rfl) (by decide) (by decide) ?_
      refine PW.up (by decide) (c_X7_fail (V) (hV) G _ M I c20 fun x22 M21 IM21 GM21 hx22 kx22 => ?_)
      have FM21 := Fr.trans F GM21 (rfl)
      refine PW.rZ q_24_19 rfl (by omega) (by omega) (by decide) (by decide) ?_
      exact hK x22 M21 IM21 FM21 (by omega) (by omega)
theorem c_X3_readBody (V : pM → Prop) (hV : Stab V) (G : pG) (Kr : pK) (M : pM) (I : Iv V M)  (hK : ∀ (x : Int32) (M1 : pM), Iv V M1 → Fr [1, 4] M M1 → 0 ≤ x.toInt → x.toInt ≤ 1 → Kr.1 (some (.int x)) 311 M1) : PW G false 4 25 (p_mc 25) (p_msl 25) Kr 0 (lv_args 0 [.ref 256, .ref 1]) [] 311 M 0 0 := by
  have F : Fr [1, 4] M M := Fr.refl
  refine PW.aload_n q_25_0 rfl ?_
  refine PW.gI q_25_1 (Or.inl t_ft_25_64) gF_4_5 kd_256 I.1 (by decide) fun x1 fx1 hx1 kx1 => ?_
  refine PW.jz_eq q_25_4 rfl (fun h2 => ?_) (fun h2 => ?_)
  · skip
    refine PW.aload_n q_25_13 rfl ?_
    refine PW.cI q_25_14 (by decide) fun c3 hc3 => ?_
    refine PW.pI q_25_15 (Or.inl t_ft_25_64) gF_4_5 gP_4_5 kd_256 hV I (by decide) rfl (by omega) (by omega) fun M4 IM4 fM4 UM4 => ?_
    have FM4 := Fr.pu F UM4.1 kd_256 (rfl : List.contains [1, 4] 4 = true)
    refine PW.aload_n q_25_18 rfl ?_
    refine PW.cV (as := []) (rest := []) q_25_19 t_mv_25_140 kd_1 IM4.1 (by decide) rfl (by decide) rfl rfl (Nat.le_of_ble_eq_true rfl) (Nat.le_of_ble_eq_true rfl) (by decide) (by decide) ?_
    refine PW.up (by decide) (c_X7_advance (V) (hV) G _ M4 IM4  fun M5 IM5 GM5 => ?_)
    have FM5 := Fr.trans FM4 GM5 (rfl)
    refine PW.aload_n q_25_22 rfl ?_
    refine PW.aload_n q_25_23 rfl ?_
    refine PW.cI q_25_24 (by decide) fun c6 hc6 => ?_
    refine PW.cB q_25_25 (by decide) fun c7 hc7 => ?_
    refine PW.cV (as := [_, _]) (rest := [_]) q_25_27 t_mv_25_143 kd_1 IM5.1 (by decide) rfl (by decide) rfl rfl (Nat.le_of_ble_eq_true rfl) (Nat.le_of_ble_eq_true rfl) (by decide) (by decide) ?_
    refine PW.up (by decide) (c_X7_needsNumber (V) (hV) G _ M5 IM5 c6 c7 fun x9 M8 IM8 GM8 PM8 => ?_)
    have FM8 := Fr.trans FM5 GM8 (rfl)
    refine PW.pI q_25_30 (Or.inl t_ft_25_54) gF_4_2 gP_4_2 kd_256 hV IM8 (by decide) rfl (n_lo _) (n_hi _) fun M10 IM10 fM10 UM10 => ?_
    have FM10 := Fr.pu FM8 UM10.1 kd_256 (rfl : List.contains [1, 4] 4 = true)
    refine PW.aload_n q_25_33 rfl ?_
    refine PW.gE q_25_34 (Or.inl t_ft_25_54) gF_4_2 kd_256 IM10.1 (by decide) fM10 ?_
    refine PW.cI q_25_37 (by decide) fun c11 hc11 => ?_
    refine PW.jc_eq q_25_38 rfl (fun h12 => ?_) (fun h12 => ?_)
    · skip
      refine PW.cI q_25_45 (by decide) fun c13 hc13 => ?_
      refine PW.rZ q_25_46 rfl (by omega) (by omega) (by decide) (by decide) ?_
      exact hK c13 M10 IM10 FM10 (by omega) (by omega)
    · skip
      refine PW.cI q_25_41 (by decide) fun c14 hc14 => ?_
      refine PW.goto q_25_42 rfl ?_
      refine PW.rZ q_25_46 rfl (by omega) (by omega) (by decide) (by decide) ?_
      exact hK c14 M10 IM10 FM10 (by omega) (by omega)
  · skip
    refine PW.aload_n q_25_7 rfl ?_
    refine PW.cI q_25_8 (by decide) fun c15 hc15 => ?_
    refine PW.cV (as := [_]) (rest := []) q_25_9 t_mv_25_137 kd_1 I.1 (by decide) rfl (by decide) rfl rfl (Nat.le_of_ble_eq_true rfl) (Nat.le_of_ble_eq_true rfl) (by decide) (by decide) ?_
    refine PW.up (by decide) (c_X7_fail (V) (hV) G _ M I c15 fun x17 M16 IM16 GM16 hx17 kx17 => ?_)
    have FM16 := Fr.trans F GM16 (rfl)
    refine PW.rZ q_25_12 rfl (by omega) (by omega) (by decide) (by decide) ?_
    exact hK x17 M16 IM16 FM16 (by omega) (by omega)
theorem c_X3_readKeeps (V : pM → Prop) (hV : Stab V) (G : pG) (Kr : pK) (M : pM) (I : Iv V M)  (hK : ∀ (x : Int32) (M1 : pM), Iv V M1 → Fr [1, 4] M M1 → 0 ≤ x.toInt → x.toInt ≤ 1 → Kr.1 (some (.int x)) 311 M1) : PW G false 4 26 (p_mc 26) (p_msl 26) Kr 0 (lv_args 0 [.ref 256, .ref 1]) [] 311 M 0 0 := by
  have F : Fr [1, 4] M M := Fr.refl
  refine PW.aload_n q_26_0 rfl ?_
  refine PW.gI q_26_1 (Or.inl t_ft_26_57) gF_4_3 kd_256 I.1 (by decide) fun x1 fx1 hx1 kx1 => ?_
  clear hx1 kx1
  refine PW.cI q_26_4 (by decide) fun c2 hc2 => ?_
  refine PW.jc_eq q_26_5 rfl (fun h3 => ?_) (fun h3 => ?_)
  · skip
    refine PW.aload_n q_26_14 rfl ?_
    refine PW.cV (as := []) (rest := []) q_26_15 t_mv_26_140 kd_1 I.1 (by decide) rfl (by decide) rfl rfl (Nat.le_of_ble_eq_true rfl) (Nat.le_of_ble_eq_true rfl) (by decide) (by decide) ?_
    refine PW.up (by decide) (c_X7_advance (V) (hV) G _ M I  fun M4 IM4 GM4 => ?_)
    have FM4 := Fr.trans F GM4 (rfl)
    refine PW.aload_n q_26_18 rfl ?_
    refine PW.aload_n q_26_19 rfl ?_
    refine PW.cI q_26_20 (by decide) fun c5 hc5 => ?_
    refine PW.cB q_26_21 (by decide) fun c6 hc6 => ?_
    refine PW.cV (as := [_, _]) (rest := [_]) q_26_23 t_mv_26_143 kd_1 IM4.1 (by decide) rfl (by decide) rfl rfl (Nat.le_of_ble_eq_true rfl) (Nat.le_of_ble_eq_true rfl) (by decide) (by decide) ?_
    refine PW.up (by decide) (c_X7_needsNumber (V) (hV) G _ M4 IM4 c5 c6 fun x8 M7 IM7 GM7 PM7 => ?_)
    have FM7 := Fr.trans FM4 GM7 (rfl)
    refine PW.pI q_26_26 (Or.inl t_ft_26_57) gF_4_3 gP_4_3 kd_256 hV IM7 (by decide) rfl (n_lo _) (n_hi _) fun M9 IM9 fM9 UM9 => ?_
    have FM9 := Fr.pu FM7 UM9.1 kd_256 (rfl : List.contains [1, 4] 4 = true)
    refine PW.aload_n q_26_29 rfl ?_
    refine PW.gE q_26_30 (Or.inl t_ft_26_57) gF_4_3 kd_256 IM9.1 (by decide) fM9 ?_
    refine PW.cI q_26_33 (by decide) fun c10 hc10 => ?_
    refine PW.jc_eq q_26_34 rfl (fun h11 => ?_) (fun h11 => ?_)
    · skip
      refine PW.cI q_26_41 (by decide) fun c12 hc12 => ?_
      refine PW.rZ q_26_42 rfl (by omega) (by omega) (by decide) (by decide) ?_
      exact hK c12 M9 IM9 FM9 (by omega) (by omega)
    · skip
      refine PW.cI q_26_37 (by decide) fun c13 hc13 => ?_
      refine PW.goto q_26_38 rfl ?_
      refine PW.rZ q_26_42 rfl (by omega) (by omega) (by decide) (by decide) ?_
      exact hK c13 M9 IM9 FM9 (by omega) (by omega)
  · skip
    refine PW.aload_n q_26_8 rfl ?_
    refine PW.cI q_26_9 (by decide) fun c14 hc14 => ?_
    refine PW.cV (as := [_]) (rest := []) q_26_10 t_mv_26_137 kd_1 I.1 (by decide) rfl (by decide) rfl rfl (Nat.le_of_ble_eq_true rfl) (Nat.le_of_ble_eq_true rfl) (by decide) (by decide) ?_
    refine PW.up (by decide) (c_X7_fail (V) (hV) G _ M I c14 fun x16 M15 IM15 GM15 hx16 kx16 => ?_)
    have FM15 := Fr.trans F GM15 (rfl)
    refine PW.rZ q_26_13 rfl (by omega) (by omega) (by decide) (by decide) ?_
    exact hK x16 M15 IM15 FM15 (by omega) (by omega)
theorem c_X3_readWalker (V : pM → Prop) (hV : Stab V) (G : pG) (Kr : pK) (M : pM) (I : Iv V M)  (hK : ∀ (x : Int32) (M1 : pM), Iv V M1 → Fr [1, 4, 27, 28, 29, 30] M M1 → 0 ≤ x.toInt → x.toInt ≤ 1 → Kr.1 (some (.int x)) 311 M1) : PW G false 4 27 (p_mc 27) (p_msl 27) Kr 0 (lv_args 0 [.ref 256, .ref 1]) [] 311 M 0 0 := by
  have F : Fr [1, 4, 27, 28, 29, 30] M M := Fr.refl
  refine PW.aload_n q_27_0 rfl ?_
  refine PW.gI q_27_1 (Or.inl t_ft_27_67) gF_4_6 kd_256 I.1 (by decide) fun x1 fx1 hx1 kx1 => ?_
  refine PW.cB q_27_4 (by decide) fun c2 hc2 => ?_
  refine PW.jc_lt q_27_6 rfl (fun h3 => ?_) (fun h3 => ?_)
  · skip
    refine PW.aload_n q_27_15 rfl ?_
    refine PW.cV (as := []) (rest := []) q_27_16 t_mv_27_140 kd_1 I.1 (by decide) rfl (by decide) rfl rfl (Nat.le_of_ble_eq_true rfl) (Nat.le_of_ble_eq_true rfl) (by decide) (by decide) ?_
    refine PW.up (by decide) (c_X7_advance (V) (hV) G _ M I  fun M4 IM4 GM4 => ?_)
    have FM4 := Fr.trans F GM4 (rfl)
    refine PW.aload_n q_27_19 rfl ?_
    refine PW.aload_n q_27_20 rfl ?_
    refine PW.cV (as := [_]) (rest := []) q_27_21 t_mv_27_147 kd_256 IM4.1 (by decide) rfl (by decide) rfl rfl (Nat.le_of_ble_eq_true rfl) (Nat.le_of_ble_eq_true rfl) (by decide) (by decide) ?_
    refine PW.up (by decide) (c_X3_seesNewName (V) (hV) G _ M4 IM4  fun x6 M5 IM5 GM5 hx6 kx6 => ?_)
    have FM5 := Fr.trans FM4 GM5 (rfl)
    refine PW.jz_ne q_27_24 rfl (fun h7 => ?_) (fun h7 => ?_)
    · skip
      refine PW.aload_n q_27_29 rfl ?_
      refine PW.gR 257 q_27_30 (Or.inl t_ft_27_9) gF_4_8 kd_256 IM5.1 (by decide) rfl ?_
      refine PW.aload_n q_27_33 rfl ?_
      refine PW.gE q_27_34 (Or.inl t_ft_27_67) gF_4_6 kd_256 IM5.1 (by decide) ((congrArg (fun e => o_f e 6) (Fr.at GM5 kd_256 (by decide))).trans ((congrArg (fun e => o_f e 6) (Fr.at GM4 kd_256 (by decide))).trans fx1)) ?_
      refine PW.aload_n q_27_37 rfl ?_
      refine PW.gL q_27_38 (Or.inr t_fN_27_150) gF_1_7 kd_1 IM5.1 (by decide) fun l8 fl8 => ?_
      refine PW.wL q_27_41 rfl kd_257 hV IM5 (by decide) rfl (by omega) (by omega) fun M9 IM9 UM9 => ?_
      have FM9 := Fr.pu FM5 UM9 kd_257 (rfl : List.contains [1, 4, 27, 28, 29, 30] 27 = true)
      refine PW.aload_n q_27_42 rfl ?_
      refine PW.cV (as := []) (rest := []) q_27_43 t_mv_27_140 kd_1 IM9.1 (by decide) rfl (by decide) rfl rfl (Nat.le_of_ble_eq_true rfl) (Nat.le_of_ble_eq_true rfl) (by decide) (by decide) ?_
      refine PW.up (by decide) (c_X7_advance (V) (hV) G _ M9 IM9  fun M10 IM10 GM10 => ?_)
      have FM10 := Fr.trans FM9 GM10 (rfl)
      refine PW.aload_n q_27_46 rfl ?_
      refine PW.gR 258 q_27_47 (Or.inl t_ft_27_15) gF_4_9 kd_256 IM10.1 (by decide) rfl ?_
      refine PW.aload_n q_27_50 rfl ?_
      refine PW.gE q_27_51 (Or.inl t_ft_27_67) gF_4_6 kd_256 IM10.1 (by decide) ((congrArg (fun e => o_f e 6) (Fr.at GM10 kd_256 (by decide))).trans ((congrArg (fun e => o_f e 6) (UM9 _ (g_ne kd_256 kd_257 (by decide)))).trans ((congrArg (fun e => o_f e 6) (Fr.at GM5 kd_256 (by decide))).trans ((congrArg (fun e => o_f e 6) (Fr.at GM4 kd_256 (by decide))).trans fx1)))) ?_
      refine PW.aload_n q_27_54 rfl ?_
      refine PW.cI q_27_55 (by decide) fun c11 hc11 => ?_
      refine PW.aload_n q_27_56 rfl ?_
      refine PW.gI q_27_57 (Or.inl t_ft_27_51) gF_4_1 kd_256 IM10.1 (by decide) fun x12 fx12 hx12 kx12 => ?_
      clear hx12 kx12
      refine PW.cV (as := [_, _]) (rest := [_, _]) q_27_60 t_mv_27_143 kd_1 IM10.1 (by decide) rfl (by decide) rfl rfl (Nat.le_of_ble_eq_true rfl) (Nat.le_of_ble_eq_true rfl) (by decide) (by decide) ?_
      refine PW.up (by decide) (c_X7_needsNumber (V) (hV) G _ M10 IM10 c11 x12 fun x14 M13 IM13 GM13 PM13 => ?_)
      have FM13 := Fr.trans FM10 GM13 (rfl)
      refine PW.wI q_27_63 gA_28 kd_258 hV IM13 (by decide) rfl gC_28_0_5 (by decide) (by omega) (by omega) (n_lo _) (n_hi _) fun M15 IM15 fM15 UM15 => ?_
      have FM15 := Fr.pu FM13 UM15.1 kd_258 (rfl : List.contains [1, 4, 27, 28, 29, 30] 28 = true)
      refine PW.aload_n q_27_64 rfl ?_
      refine PW.gR 258 q_27_65 (Or.inl t_ft_27_15) gF_4_9 kd_256 IM15.1 (by decide) rfl ?_
      refine PW.aload_n q_27_68 rfl ?_
      refine PW.gE q_27_69 (Or.inl t_ft_27_67) gF_4_6 kd_256 IM15.1 (by decide) ((congrArg (fun e => o_f e 6) (UM15.1 _ (g_ne kd_256 kd_258 (by decide)))).trans ((congrArg (fun e => o_f e 6) (Fr.at GM13 kd_256 (by decide))).trans ((congrArg (fun e => o_f e 6) (Fr.at GM10 kd_256 (by decide))).trans ((congrArg (fun e => o_f e 6) (UM9 _ (g_ne kd_256 kd_257 (by decide)))).trans ((congrArg (fun e => o_f e 6) (Fr.at GM5 kd_256 (by decide))).trans ((congrArg (fun e => o_f e 6) (Fr.at GM4 kd_256 (by decide))).trans fx1)))))) ?_
      refine PW.aH q_27_72 gA_28 kd_258 IM15.1 (by decide) (by omega) (by omega) fun x16 fx16 => ?_
      refine PW.cI q_27_73 (by decide) fun c17 hc17 => ?_
      refine PW.jc_ne q_27_74 rfl (fun h18 => ?_) (fun h18 => ?_)
      · skip
        refine PW.aload_n q_27_79 rfl ?_
        refine PW.gR 259 q_27_80 (Or.inl t_ft_27_19) gF_4_10 kd_256 IM15.1 (by decide) rfl ?_
        refine PW.aload_n q_27_83 rfl ?_
        refine PW.gE q_27_84 (Or.inl t_ft_27_67) gF_4_6 kd_256 IM15.1 (by decide) ((congrArg (fun e => o_f e 6) (UM15.1 _ (g_ne kd_256 kd_258 (by decide)))).trans ((congrArg (fun e => o_f e 6) (Fr.at GM13 kd_256 (by decide))).trans ((congrArg (fun e => o_f e 6) (Fr.at GM10 kd_256 (by decide))).trans ((congrArg (fun e => o_f e 6) (UM9 _ (g_ne kd_256 kd_257 (by decide)))).trans ((congrArg (fun e => o_f e 6) (Fr.at GM5 kd_256 (by decide))).trans ((congrArg (fun e => o_f e 6) (Fr.at GM4 kd_256 (by decide))).trans fx1)))))) ?_
        refine PW.aload_n q_27_87 rfl ?_
        refine PW.cI q_27_88 (by decide) fun c19 hc19 => ?_
        refine PW.cB q_27_89 (by decide) fun c20 hc20 => ?_
        refine PW.cV (as := [_, _]) (rest := [_, _]) q_27_91 t_mv_27_143 kd_1 IM15.1 (by decide) rfl (by decide) rfl rfl (Nat.le_of_ble_eq_true rfl) (Nat.le_of_ble_eq_true rfl) (by decide) (by decide) ?_
        refine PW.up (by decide) (c_X7_needsNumber (V) (hV) G _ M15 IM15 c19 c20 fun x22 M21 IM21 GM21 PM21 => ?_)
        have FM21 := Fr.trans FM15 GM21 (rfl)
        refine PW.wI q_27_94 gA_29 kd_259 hV IM21 (by decide) rfl gC_29_0_5 (by decide) (by omega) (by omega) (n_lo _) (n_hi _) fun M23 IM23 fM23 UM23 => ?_
        have FM23 := Fr.pu FM21 UM23.1 kd_259 (rfl : List.contains [1, 4, 27, 28, 29, 30] 29 = true)
        refine PW.aload_n q_27_95 rfl ?_
        refine PW.gR 259 q_27_96 (Or.inl t_ft_27_19) gF_4_10 kd_256 IM23.1 (by decide) rfl ?_
        refine PW.aload_n q_27_99 rfl ?_
        refine PW.gE q_27_100 (Or.inl t_ft_27_67) gF_4_6 kd_256 IM23.1 (by decide) ((congrArg (fun e => o_f e 6) (UM23.1 _ (g_ne kd_256 kd_259 (by decide)))).trans ((congrArg (fun e => o_f e 6) (Fr.at GM21 kd_256 (by decide))).trans ((congrArg (fun e => o_f e 6) (UM15.1 _ (g_ne kd_256 kd_258 (by decide)))).trans ((congrArg (fun e => o_f e 6) (Fr.at GM13 kd_256 (by decide))).trans ((congrArg (fun e => o_f e 6) (Fr.at GM10 kd_256 (by decide))).trans ((congrArg (fun e => o_f e 6) (UM9 _ (g_ne kd_256 kd_257 (by decide)))).trans ((congrArg (fun e => o_f e 6) (Fr.at GM5 kd_256 (by decide))).trans ((congrArg (fun e => o_f e 6) (Fr.at GM4 kd_256 (by decide))).trans fx1)))))))) ?_
        refine PW.aH q_27_103 gA_29 kd_259 IM23.1 (by decide) (by omega) (by omega) fun x24 fx24 => ?_
        refine PW.cI q_27_104 (by decide) fun c25 hc25 => ?_
        refine PW.jc_ne q_27_105 rfl (fun h26 => ?_) (fun h26 => ?_)
        · skip
          refine PW.aload_n q_27_110 rfl ?_
          refine PW.gR 260 q_27_111 (Or.inl t_ft_27_22) gF_4_11 kd_256 IM23.1 (by decide) rfl ?_
          refine PW.aload_n q_27_114 rfl ?_
          refine PW.gE q_27_115 (Or.inl t_ft_27_67) gF_4_6 kd_256 IM23.1 (by decide) ((congrArg (fun e => o_f e 6) (UM23.1 _ (g_ne kd_256 kd_259 (by decide)))).trans ((congrArg (fun e => o_f e 6) (Fr.at GM21 kd_256 (by decide))).trans ((congrArg (fun e => o_f e 6) (UM15.1 _ (g_ne kd_256 kd_258 (by decide)))).trans ((congrArg (fun e => o_f e 6) (Fr.at GM13 kd_256 (by decide))).trans ((congrArg (fun e => o_f e 6) (Fr.at GM10 kd_256 (by decide))).trans ((congrArg (fun e => o_f e 6) (UM9 _ (g_ne kd_256 kd_257 (by decide)))).trans ((congrArg (fun e => o_f e 6) (Fr.at GM5 kd_256 (by decide))).trans ((congrArg (fun e => o_f e 6) (Fr.at GM4 kd_256 (by decide))).trans fx1)))))))) ?_
          refine PW.aload_n q_27_118 rfl ?_
          refine PW.gets q_27_119 t_st_27_154 ?_
          refine PW.cV (as := [_]) (rest := [_, _]) q_27_122 t_mv_27_157 kd_1 IM23.1 (by decide) rfl (by decide) rfl rfl (Nat.le_of_ble_eq_true rfl) (Nat.le_of_ble_eq_true rfl) (by decide) (by decide) ?_
          refine PW.up (by decide) (c_X7_takes (V) (hV) G _ M23 IM23 4 (by decide) fun x28 M27 IM27 GM27 hx28 kx28 => ?_)
          have FM27 := Fr.trans FM23 GM27 (rfl)
          refine PW.wZ q_27_125 gA_30 kd_260 hV IM27 (by decide) rfl gC_30_0_5 (by omega) (by omega) (by omega) (by omega) fun M29 IM29 fM29 UM29 => ?_
          have FM29 := Fr.pu FM27 UM29.1 kd_260 (rfl : List.contains [1, 4, 27, 28, 29, 30] 30 = true)
          refine PW.aload_n q_27_126 rfl ?_
          refine PW.dup q_27_127 rfl ?_
          refine PW.gE q_27_128 (Or.inl t_ft_27_67) gF_4_6 kd_256 IM29.1 (by decide) ((congrArg (fun e => o_f e 6) (UM29.1 _ (g_ne kd_256 kd_260 (by decide)))).trans ((congrArg (fun e => o_f e 6) (Fr.at GM27 kd_256 (by decide))).trans ((congrArg (fun e => o_f e 6) (UM23.1 _ (g_ne kd_256 kd_259 (by decide)))).trans ((congrArg (fun e => o_f e 6) (Fr.at GM21 kd_256 (by decide))).trans ((congrArg (fun e => o_f e 6) (UM15.1 _ (g_ne kd_256 kd_258 (by decide)))).trans ((congrArg (fun e => o_f e 6) (Fr.at GM13 kd_256 (by decide))).trans ((congrArg (fun e => o_f e 6) (Fr.at GM10 kd_256 (by decide))).trans ((congrArg (fun e => o_f e 6) (UM9 _ (g_ne kd_256 kd_257 (by decide)))).trans ((congrArg (fun e => o_f e 6) (Fr.at GM5 kd_256 (by decide))).trans ((congrArg (fun e => o_f e 6) (Fr.at GM4 kd_256 (by decide))).trans fx1)))))))))) ?_
          refine PW.cI q_27_131 (by decide) fun c30 hc30 => ?_
          refine PW.addN q_27_132 (by omega) (by omega) fun x31 hx31 => ?_
          refine PW.pI q_27_133 (Or.inl t_ft_27_67) gF_4_6 gP_4_6 kd_256 hV IM29 (by decide) rfl (by omega) (by omega) fun M32 IM32 fM32 UM32 => ?_
          have FM32 := Fr.pu FM29 UM32.1 kd_256 (rfl : List.contains [1, 4, 27, 28, 29, 30] 4 = true)
          refine PW.cI q_27_136 (by decide) fun c33 hc33 => ?_
          refine PW.rZ q_27_137 rfl (by omega) (by omega) (by decide) (by decide) ?_
          exact hK c33 M32 IM32 FM32 (by omega) (by omega)
        · skip
          refine PW.cI q_27_108 (by decide) fun c34 hc34 => ?_
          refine PW.rZ q_27_109 rfl (by omega) (by omega) (by decide) (by decide) ?_
          exact hK c34 M23 IM23 FM23 (by omega) (by omega)
      · skip
        refine PW.cI q_27_77 (by decide) fun c35 hc35 => ?_
        refine PW.rZ q_27_78 rfl (by omega) (by omega) (by decide) (by decide) ?_
        exact hK c35 M15 IM15 FM15 (by omega) (by omega)
    · skip
      refine PW.cI q_27_27 (by decide) fun c36 hc36 => ?_
      refine PW.rZ q_27_28 rfl (by omega) (by omega) (by decide) (by decide) ?_
      exact hK c36 M5 IM5 FM5 (by omega) (by omega)
  · skip
    refine PW.aload_n q_27_9 rfl ?_
    refine PW.cI q_27_10 (by decide) fun c37 hc37 => ?_
    refine PW.cV (as := [_]) (rest := []) q_27_11 t_mv_27_137 kd_1 I.1 (by decide) rfl (by decide) rfl rfl (Nat.le_of_ble_eq_true rfl) (Nat.le_of_ble_eq_true rfl) (by decide) (by decide) ?_
    refine PW.up (by decide) (c_X7_fail (V) (hV) G _ M I c37 fun x39 M38 IM38 GM38 hx39 kx39 => ?_)
    have FM38 := Fr.trans F GM38 (rfl)
    refine PW.rZ q_27_14 rfl (by omega) (by omega) (by decide) (by decide) ?_
    exact hK x39 M38 IM38 FM38 (by omega) (by omega)
theorem c_X3_seenLaw (V : pM → Prop) (hV : Stab V) (G : pG) (Kr : pK) (M : pM) (I : Iv V M)  (hK : ∀ (x : Int32) (M1 : pM), Iv V M1 → Fr [] M M1 → -1 ≤ x.toInt → x.toInt ≤ 3 → Kr.1 (some (.int x)) 311 M1) : PW G false 1 30 (p_mc 30) (p_msl 30) Kr 0 (lv_args 0 [.ref 1]) [] 311 M 0 0 := by
  have F : Fr [] M M := Fr.refl
  refine PW.aload_n q_30_0 rfl ?_
  refine PW.gets q_30_1 t_st_30_175 ?_
  refine PW.cV (as := [_]) (rest := []) q_30_4 t_mv_30_100 kd_1 I.1 (by decide) rfl (by decide) rfl rfl (Nat.le_of_ble_eq_true rfl) (Nat.le_of_ble_eq_true rfl) (by decide) (by decide) ?_
  refine PW.up (by decide) (c_X7_sees (V) (hV) G _ M I 6 (by decide) fun x2 M1 IM1 GM1 hx2 kx2 => ?_)
  have FM1 := Fr.trans F GM1 (rfl)
  refine PW.jz_eq q_30_7 rfl (fun h3 => ?_) (fun h3 => ?_)
  · skip
    refine PW.aload_n q_30_12 rfl ?_
    refine PW.gets q_30_13 t_st_30_178 ?_
    refine PW.cV (as := [_]) (rest := []) q_30_16 t_mv_30_100 kd_1 IM1.1 (by decide) rfl (by decide) rfl rfl (Nat.le_of_ble_eq_true rfl) (Nat.le_of_ble_eq_true rfl) (by decide) (by decide) ?_
    refine PW.up (by decide) (c_X7_sees (V) (hV) G _ M1 IM1 7 (by decide) fun x5 M4 IM4 GM4 hx5 kx5 => ?_)
    have FM4 := Fr.trans FM1 GM4 (rfl)
    refine PW.jz_eq q_30_19 rfl (fun h6 => ?_) (fun h6 => ?_)
    · skip
      refine PW.aload_n q_30_24 rfl ?_
      refine PW.gets q_30_25 t_st_30_181 ?_
      refine PW.cV (as := [_]) (rest := []) q_30_28 t_mv_30_100 kd_1 IM4.1 (by decide) rfl (by decide) rfl rfl (Nat.le_of_ble_eq_true rfl) (Nat.le_of_ble_eq_true rfl) (by decide) (by decide) ?_
      refine PW.up (by decide) (c_X7_sees (V) (hV) G _ M4 IM4 8 (by decide) fun x8 M7 IM7 GM7 hx8 kx8 => ?_)
      have FM7 := Fr.trans FM4 GM7 (rfl)
      refine PW.jz_eq q_30_31 rfl (fun h9 => ?_) (fun h9 => ?_)
      · skip
        refine PW.aload_n q_30_36 rfl ?_
        refine PW.gets q_30_37 t_st_30_184 ?_
        refine PW.cV (as := [_]) (rest := []) q_30_40 t_mv_30_100 kd_1 IM7.1 (by decide) rfl (by decide) rfl rfl (Nat.le_of_ble_eq_true rfl) (Nat.le_of_ble_eq_true rfl) (by decide) (by decide) ?_
        refine PW.up (by decide) (c_X7_sees (V) (hV) G _ M7 IM7 9 (by decide) fun x11 M10 IM10 GM10 hx11 kx11 => ?_)
        have FM10 := Fr.trans FM7 GM10 (rfl)
        refine PW.jz_eq q_30_43 rfl (fun h12 => ?_) (fun h12 => ?_)
        · skip
          refine PW.cI q_30_50 (by decide) fun c13 hc13 => ?_
          refine PW.rI q_30_51 rfl (by decide) (by decide) ?_
          exact hK c13 M10 IM10 FM10 (by omega) (by omega)
        · skip
          refine PW.cI q_30_46 (by decide) fun c14 hc14 => ?_
          refine PW.goto q_30_47 rfl ?_
          refine PW.rI q_30_51 rfl (by decide) (by decide) ?_
          exact hK c14 M10 IM10 FM10 (by omega) (by omega)
      · skip
        refine PW.cI q_30_34 (by decide) fun c15 hc15 => ?_
        refine PW.rI q_30_35 rfl (by decide) (by decide) ?_
        exact hK c15 M7 IM7 FM7 (by omega) (by omega)
    · skip
      refine PW.cI q_30_22 (by decide) fun c16 hc16 => ?_
      refine PW.rI q_30_23 rfl (by decide) (by decide) ?_
      exact hK c16 M4 IM4 FM4 (by omega) (by omega)
  · skip
    refine PW.cI q_30_10 (by decide) fun c17 hc17 => ?_
    refine PW.rI q_30_11 rfl (by decide) (by decide) ?_
    exact hK c17 M1 IM1 FM1 (by omega) (by omega)
theorem c_X3_readTires (V : pM → Prop) (hV : Stab V) (G : pG) (Kr : pK) (M : pM) (I : Iv V M)  (hK : ∀ (x : Int32) (M1 : pM), Iv V M1 → Fr [1, 36] M M1 → 0 ≤ x.toInt → x.toInt ≤ 1 → Kr.1 (some (.int x)) 311 M1) : PW G false 4 31 (p_mc 31) (p_msl 31) Kr 0 (lv_args 0 [.ref 256, .ref 1]) [] 311 M 0 0 := by
  have F : Fr [1, 36] M M := Fr.refl
  refine PW.aload_n q_31_0 rfl ?_
  refine PW.cV (as := []) (rest := []) q_31_1 t_mv_31_140 kd_1 I.1 (by decide) rfl (by decide) rfl rfl (Nat.le_of_ble_eq_true rfl) (Nat.le_of_ble_eq_true rfl) (by decide) (by decide) ?_
  refine PW.up (by decide) (c_X7_advance (V) (hV) G _ M I  fun M1 IM1 GM1 => ?_)
  have FM1 := Fr.trans F GM1 (rfl)
  refine PW.aload_n q_31_4 rfl ?_
  refine PW.aload_n q_31_5 rfl ?_
  refine PW.gR 261 q_31_6 (Or.inl t_ft_31_26) gF_4_12 kd_256 IM1.1 (by decide) rfl ?_
  refine PW.aload_n q_31_9 rfl ?_
  refine PW.gI q_31_10 (Or.inl t_ft_31_70) gF_4_7 kd_256 IM1.1 (by decide) fun x2 fx2 hx2 kx2 => ?_
  refine PW.cV (as := [_, _]) (rest := []) q_31_13 t_mv_31_167 kd_1 IM1.1 (by decide) rfl (by decide) rfl rfl (Nat.le_of_ble_eq_true rfl) (Nat.le_of_ble_eq_true rfl) (by decide) (by decide) ?_
  refine PW.up (by decide) (c_X7_needsKnown_d (V) (hV) G _ M1 IM1 261 kd_261 x2 fun x4 M3 IM3 GM3 hx4 kx4 => ?_)
  have FM3 := Fr.trans FM1 GM3 (rfl)
  refine PW.istore_n q_31_16 (by decide) ?_
  refine PW.iload_n q_31_17 rfl ?_
  refine PW.cI q_31_18 (by decide) fun c5 hc5 => ?_
  refine PW.jc_ne q_31_19 rfl (fun h6 => ?_) (fun h6 => ?_)
  · skip
    refine PW.aload_n q_31_24 rfl ?_
    refine PW.gR 266 q_31_25 (Or.inl t_ft_31_41) gF_4_17 kd_256 IM3.1 (by decide) rfl ?_
    refine PW.iload_n q_31_28 rfl ?_
    refine PW.aH q_31_29 gA_36 kd_266 IM3.1 (by decide) (by omega) (by omega) fun x7 fx7 => ?_
    refine PW.jz_eq q_31_30 rfl (fun h8 => ?_) (fun h8 => ?_)
    · skip
      refine PW.aload_n q_31_39 rfl ?_
      refine PW.cV (as := []) (rest := []) q_31_40 t_mv_31_140 kd_1 IM3.1 (by decide) rfl (by decide) rfl rfl (Nat.le_of_ble_eq_true rfl) (Nat.le_of_ble_eq_true rfl) (by decide) (by decide) ?_
      refine PW.up (by decide) (c_X7_advance (V) (hV) G _ M3 IM3  fun M9 IM9 GM9 => ?_)
      have FM9 := Fr.trans FM3 GM9 (rfl)
      refine PW.aload_n q_31_43 rfl ?_
      refine PW.gR 266 q_31_44 (Or.inl t_ft_31_41) gF_4_17 kd_256 IM9.1 (by decide) rfl ?_
      refine PW.iload_n q_31_47 rfl ?_
      refine PW.aload_n q_31_48 rfl ?_
      refine PW.cI q_31_49 (by decide) fun c10 hc10 => ?_
      refine PW.cB q_31_50 (by decide) fun c11 hc11 => ?_
      refine PW.cV (as := [_, _]) (rest := [_, _]) q_31_52 t_mv_31_143 kd_1 IM9.1 (by decide) rfl (by decide) rfl rfl (Nat.le_of_ble_eq_true rfl) (Nat.le_of_ble_eq_true rfl) (by decide) (by decide) ?_
      refine PW.up (by decide) (c_X7_needsNumber (V) (hV) G _ M9 IM9 c10 c11 fun x13 M12 IM12 GM12 PM12 => ?_)
      have FM12 := Fr.trans FM9 GM12 (rfl)
      refine PW.wI q_31_55 gA_36 kd_266 hV IM12 (by decide) rfl gC_36_0_1 (by decide) (by omega) (by omega) (n_lo _) (n_hi _) fun M14 IM14 fM14 UM14 => ?_
      have FM14 := Fr.pu FM12 UM14.1 kd_266 (rfl : List.contains [1, 36] 36 = true)
      refine PW.aload_n q_31_56 rfl ?_
      refine PW.gR 266 q_31_57 (Or.inl t_ft_31_41) gF_4_17 kd_256 IM14.1 (by decide) rfl ?_
      refine PW.iload_n q_31_60 rfl ?_
      refine PW.aH q_31_61 gA_36 kd_266 IM14.1 (by decide) (by omega) (by omega) fun x15 fx15 => ?_
      refine PW.cI q_31_62 (by decide) fun c16 hc16 => ?_
      refine PW.jc_eq q_31_63 rfl (fun h17 => ?_) (fun h17 => ?_)
      · skip
        refine PW.cI q_31_70 (by decide) fun c18 hc18 => ?_
        refine PW.rZ q_31_71 rfl (by omega) (by omega) (by decide) (by decide) ?_
        exact hK c18 M14 IM14 FM14 (by omega) (by omega)
      · skip
        refine PW.cI q_31_66 (by decide) fun c19 hc19 => ?_
        refine PW.goto q_31_67 rfl ?_
        refine PW.rZ q_31_71 rfl (by omega) (by omega) (by decide) (by decide) ?_
        exact hK c19 M14 IM14 FM14 (by omega) (by omega)
    · skip
      refine PW.aload_n q_31_33 rfl ?_
      refine PW.cI q_31_34 (by decide) fun c20 hc20 => ?_
      refine PW.cV (as := [_]) (rest := []) q_31_35 t_mv_31_137 kd_1 IM3.1 (by decide) rfl (by decide) rfl rfl (Nat.le_of_ble_eq_true rfl) (Nat.le_of_ble_eq_true rfl) (by decide) (by decide) ?_
      refine PW.up (by decide) (c_X7_fail (V) (hV) G _ M3 IM3 c20 fun x22 M21 IM21 GM21 hx22 kx22 => ?_)
      have FM21 := Fr.trans FM3 GM21 (rfl)
      refine PW.rZ q_31_38 rfl (by omega) (by omega) (by decide) (by decide) ?_
      exact hK x22 M21 IM21 FM21 (by omega) (by omega)
  · skip
    refine PW.cI q_31_22 (by decide) fun c23 hc23 => ?_
    refine PW.rZ q_31_23 rfl (by omega) (by omega) (by decide) (by decide) ?_
    exact hK c23 M3 IM3 FM3 (by omega) (by omega)
theorem c_X3_readDog (G : pG) (Kr : pK) (M : pM) (I : Iv gTS M)  (hK : ∀ (x : Int32) (M1 : pM), Iv gTS M1 → Fr [1, 4, 31, 32, 33, 34, 35, 36] M M1 → 0 ≤ x.toInt → x.toInt ≤ 1 → Kr.1 (some (.int x)) 311 M1) : PW G false 4 29 (p_mc 29) (p_msl 29) Kr 0 (lv_args 0 [.ref 256, .ref 1]) [] 311 M 0 0 := by
  have F : Fr [1, 4, 31, 32, 33, 34, 35, 36] M M := Fr.refl
  refine PW.aload_n q_29_0 rfl ?_
  refine PW.gI q_29_1 (Or.inl t_ft_29_70) gF_4_7 kd_256 I.1 (by decide) fun x1 fx1 hx1 kx1 => ?_
  refine PW.cI q_29_4 (by decide) fun c2 hc2 => ?_
  refine PW.jc_lt q_29_5 rfl (fun h3 => ?_) (fun h3 => ?_)
  · skip
    refine PW.aload_n q_29_14 rfl ?_
    refine PW.cV (as := []) (rest := []) q_29_15 t_mv_29_140 kd_1 I.1 (by decide) rfl (by decide) rfl rfl (Nat.le_of_ble_eq_true rfl) (Nat.le_of_ble_eq_true rfl) (by decide) (by decide) ?_
    refine PW.up (by decide) (c_X7_advance (gTS) (StabS) G _ M I  fun M4 IM4 GM4 => ?_)
    have FM4 := Fr.trans F GM4 (rfl)
    refine PW.aload_n q_29_18 rfl ?_
    refine PW.aload_n q_29_19 rfl ?_
    refine PW.cV (as := [_]) (rest := []) q_29_20 t_mv_29_147 kd_256 IM4.1 (by decide) rfl (by decide) rfl rfl (Nat.le_of_ble_eq_true rfl) (Nat.le_of_ble_eq_true rfl) (by decide) (by decide) ?_
    refine PW.up (by decide) (c_X3_seesNewName (gTS) (StabS) G _ M4 IM4  fun x6 M5 IM5 GM5 hx6 kx6 => ?_)
    have FM5 := Fr.trans FM4 GM5 (rfl)
    refine PW.jz_ne q_29_23 rfl (fun h7 => ?_) (fun h7 => ?_)
    · skip
      refine PW.aload_n q_29_28 rfl ?_
      refine PW.gR 261 q_29_29 (Or.inl t_ft_29_26) gF_4_12 kd_256 IM5.1 (by decide) rfl ?_
      refine PW.aload_n q_29_32 rfl ?_
      refine PW.gE q_29_33 (Or.inl t_ft_29_70) gF_4_7 kd_256 IM5.1 (by decide) ((congrArg (fun e => o_f e 7) (Fr.at GM5 kd_256 (by decide))).trans ((congrArg (fun e => o_f e 7) (Fr.at GM4 kd_256 (by decide))).trans fx1)) ?_
      refine PW.aload_n q_29_36 rfl ?_
      refine PW.gL q_29_37 (Or.inr t_fN_29_150) gF_1_7 kd_1 IM5.1 (by decide) fun l8 fl8 => ?_
      refine PW.wL q_29_40 rfl kd_261 StabS IM5 (by decide) rfl (by omega) (by omega) fun M9 IM9 UM9 => ?_
      have FM9 := Fr.pu FM5 UM9 kd_261 (rfl : List.contains [1, 4, 31, 32, 33, 34, 35, 36] 31 = true)
      refine PW.aload_n q_29_41 rfl ?_
      refine PW.cV (as := []) (rest := []) q_29_42 t_mv_29_140 kd_1 IM9.1 (by decide) rfl (by decide) rfl rfl (Nat.le_of_ble_eq_true rfl) (Nat.le_of_ble_eq_true rfl) (by decide) (by decide) ?_
      refine PW.up (by decide) (c_X7_advance (gTS) (StabS) G _ M9 IM9  fun M10 IM10 GM10 => ?_)
      have FM10 := Fr.trans FM9 GM10 (rfl)
      refine PW.aload_n q_29_45 rfl ?_
      refine PW.gR 262 q_29_46 (Or.inl t_ft_29_29) gF_4_13 kd_256 IM10.1 (by decide) rfl ?_
      refine PW.aload_n q_29_49 rfl ?_
      refine PW.gE q_29_50 (Or.inl t_ft_29_70) gF_4_7 kd_256 IM10.1 (by decide) ((congrArg (fun e => o_f e 7) (Fr.at GM10 kd_256 (by decide))).trans ((congrArg (fun e => o_f e 7) (UM9 _ (g_ne kd_256 kd_261 (by decide)))).trans ((congrArg (fun e => o_f e 7) (Fr.at GM5 kd_256 (by decide))).trans ((congrArg (fun e => o_f e 7) (Fr.at GM4 kd_256 (by decide))).trans fx1)))) ?_
      refine PW.aload_n q_29_53 rfl ?_
      refine PW.aload_n q_29_54 rfl ?_
      refine PW.gR 257 q_29_55 (Or.inl t_ft_29_9) gF_4_8 kd_256 IM10.1 (by decide) rfl ?_
      refine PW.aload_n q_29_58 rfl ?_
      refine PW.gI q_29_59 (Or.inl t_ft_29_67) gF_4_6 kd_256 IM10.1 (by decide) fun x11 fx11 hx11 kx11 => ?_
      refine PW.cV (as := [_, _]) (rest := [_, _]) q_29_62 t_mv_29_167 kd_1 IM10.1 (by decide) rfl (by decide) rfl rfl (Nat.le_of_ble_eq_true rfl) (Nat.le_of_ble_eq_true rfl) (by decide) (by decide) ?_
      refine PW.up (by decide) (c_X7_needsKnown (gTS) (StabS) G _ M10 IM10 257 kd_257 x11 fun x13 M12 IM12 GM12 hx13 kx13 => ?_)
      have FM12 := Fr.trans FM10 GM12 (rfl)
      have hdM14 := o_i_of ((congrArg (fun e => o_f e 7) (Fr.at GM12 kd_256 (by decide))).trans ((congrArg (fun e => o_f e 7) (Fr.at GM10 kd_256 (by decide))).trans ((congrArg (fun e => o_f e 7) (UM9 _ (g_ne kd_256 kd_261 (by decide)))).trans ((congrArg (fun e => o_f e 7) (Fr.at GM5 kd_256 (by decide))).trans ((congrArg (fun e => o_f e 7) (Fr.at GM4 kd_256 (by decide))).trans fx1)))))
      refine PW.wB q_29_65 gA_32 kd_262 IM12.1 (by decide) (by omega) (by omega) ⟨by show (-1 : Int) ≤ _; omega, by show _ ≤ (5 : Int); omega⟩ fun M14 JM14 fM14 UM14 => ?_
      have IM14 : Iv gTS M14 := ⟨JM14, gAT UM14.1 kd_262 (by decide) rfl IM12.2.1, gS1.arr IM12.2.2 UM14 (by omega)⟩
      have FM14 := Fr.pu FM12 UM14.1 kd_262 (rfl : List.contains [1, 4, 31, 32, 33, 34, 35, 36] 32 = true)
      refine PW.aload_n q_29_66 rfl ?_
      refine PW.gR 262 q_29_67 (Or.inl t_ft_29_29) gF_4_13 kd_256 IM14.1 (by decide) rfl ?_
      refine PW.aload_n q_29_70 rfl ?_
      refine PW.gE q_29_71 (Or.inl t_ft_29_70) gF_4_7 kd_256 IM14.1 (by decide) ((congrArg (fun e => o_f e 7) (UM14.1 _ (g_ne kd_256 kd_262 (by decide)))).trans ((congrArg (fun e => o_f e 7) (Fr.at GM12 kd_256 (by decide))).trans ((congrArg (fun e => o_f e 7) (Fr.at GM10 kd_256 (by decide))).trans ((congrArg (fun e => o_f e 7) (UM9 _ (g_ne kd_256 kd_261 (by decide)))).trans ((congrArg (fun e => o_f e 7) (Fr.at GM5 kd_256 (by decide))).trans ((congrArg (fun e => o_f e 7) (Fr.at GM4 kd_256 (by decide))).trans fx1)))))) ?_
      refine PW.aI q_29_74 gA_32 kd_262 IM14.1 (by decide) gB_32_0_1 (by decide) (by omega) (by omega) fun x15 fx15 hx15 kx15 => ?_
      refine PW.cI q_29_75 (by decide) fun c16 hc16 => ?_
      refine PW.jc_ne q_29_76 rfl (fun h17 => ?_) (fun h17 => ?_)
      · skip
        refine PW.aload_n q_29_81 rfl ?_
        refine PW.cV (as := []) (rest := []) q_29_82 t_mv_29_140 kd_1 IM14.1 (by decide) rfl (by decide) rfl rfl (Nat.le_of_ble_eq_true rfl) (Nat.le_of_ble_eq_true rfl) (by decide) (by decide) ?_
        refine PW.up (by decide) (c_X7_advance (gTS) (StabS) G _ M14 IM14  fun M18 IM18 GM18 => ?_)
        have FM18 := Fr.trans FM14 GM18 (rfl)
        refine PW.aload_n q_29_85 rfl ?_
        refine PW.gR 263 q_29_86 (Or.inl t_ft_29_32) gF_4_14 kd_256 IM18.1 (by decide) rfl ?_
        refine PW.aload_n q_29_89 rfl ?_
        refine PW.gE q_29_90 (Or.inl t_ft_29_70) gF_4_7 kd_256 IM18.1 (by decide) ((congrArg (fun e => o_f e 7) (Fr.at GM18 kd_256 (by decide))).trans ((congrArg (fun e => o_f e 7) (UM14.1 _ (g_ne kd_256 kd_262 (by decide)))).trans ((congrArg (fun e => o_f e 7) (Fr.at GM12 kd_256 (by decide))).trans ((congrArg (fun e => o_f e 7) (Fr.at GM10 kd_256 (by decide))).trans ((congrArg (fun e => o_f e 7) (UM9 _ (g_ne kd_256 kd_261 (by decide)))).trans ((congrArg (fun e => o_f e 7) (Fr.at GM5 kd_256 (by decide))).trans ((congrArg (fun e => o_f e 7) (Fr.at GM4 kd_256 (by decide))).trans fx1))))))) ?_
        refine PW.aload_n q_29_93 rfl ?_
        refine PW.cI q_29_94 (by decide) fun c19 hc19 => ?_
        refine PW.cB q_29_95 (by decide) fun c20 hc20 => ?_
        refine PW.cV (as := [_, _]) (rest := [_, _]) q_29_97 t_mv_29_143 kd_1 IM18.1 (by decide) rfl (by decide) rfl rfl (Nat.le_of_ble_eq_true rfl) (Nat.le_of_ble_eq_true rfl) (by decide) (by decide) ?_
        refine PW.up (by decide) (c_X7_needsNumber (gTS) (StabS) G _ M18 IM18 c19 c20 fun x22 M21 IM21 GM21 PM21 => ?_)
        have FM21 := Fr.trans FM18 GM21 (rfl)
        refine PW.wI q_29_100 gA_33 kd_263 StabS IM21 (by decide) rfl gC_33_0_1 (by decide) (by omega) (by omega) (n_lo _) (n_hi _) fun M23 IM23 fM23 UM23 => ?_
        have FM23 := Fr.pu FM21 UM23.1 kd_263 (rfl : List.contains [1, 4, 31, 32, 33, 34, 35, 36] 33 = true)
        refine PW.aload_n q_29_101 rfl ?_
        refine PW.gR 263 q_29_102 (Or.inl t_ft_29_32) gF_4_14 kd_256 IM23.1 (by decide) rfl ?_
        refine PW.aload_n q_29_105 rfl ?_
        refine PW.gE q_29_106 (Or.inl t_ft_29_70) gF_4_7 kd_256 IM23.1 (by decide) ((congrArg (fun e => o_f e 7) (UM23.1 _ (g_ne kd_256 kd_263 (by decide)))).trans ((congrArg (fun e => o_f e 7) (Fr.at GM21 kd_256 (by decide))).trans ((congrArg (fun e => o_f e 7) (Fr.at GM18 kd_256 (by decide))).trans ((congrArg (fun e => o_f e 7) (UM14.1 _ (g_ne kd_256 kd_262 (by decide)))).trans ((congrArg (fun e => o_f e 7) (Fr.at GM12 kd_256 (by decide))).trans ((congrArg (fun e => o_f e 7) (Fr.at GM10 kd_256 (by decide))).trans ((congrArg (fun e => o_f e 7) (UM9 _ (g_ne kd_256 kd_261 (by decide)))).trans ((congrArg (fun e => o_f e 7) (Fr.at GM5 kd_256 (by decide))).trans ((congrArg (fun e => o_f e 7) (Fr.at GM4 kd_256 (by decide))).trans fx1))))))))) ?_
        refine PW.aH q_29_109 gA_33 kd_263 IM23.1 (by decide) (by omega) (by omega) fun x24 fx24 => ?_
        refine PW.cI q_29_110 (by decide) fun c25 hc25 => ?_
        refine PW.jc_ne q_29_111 rfl (fun h26 => ?_) (fun h26 => ?_)
        · skip
          refine PW.aload_n q_29_116 rfl ?_
          refine PW.gR 264 q_29_117 (Or.inl t_ft_29_35) gF_4_15 kd_256 IM23.1 (by decide) rfl ?_
          refine PW.aload_n q_29_120 rfl ?_
          refine PW.gE q_29_121 (Or.inl t_ft_29_70) gF_4_7 kd_256 IM23.1 (by decide) ((congrArg (fun e => o_f e 7) (UM23.1 _ (g_ne kd_256 kd_263 (by decide)))).trans ((congrArg (fun e => o_f e 7) (Fr.at GM21 kd_256 (by decide))).trans ((congrArg (fun e => o_f e 7) (Fr.at GM18 kd_256 (by decide))).trans ((congrArg (fun e => o_f e 7) (UM14.1 _ (g_ne kd_256 kd_262 (by decide)))).trans ((congrArg (fun e => o_f e 7) (Fr.at GM12 kd_256 (by decide))).trans ((congrArg (fun e => o_f e 7) (Fr.at GM10 kd_256 (by decide))).trans ((congrArg (fun e => o_f e 7) (UM9 _ (g_ne kd_256 kd_261 (by decide)))).trans ((congrArg (fun e => o_f e 7) (Fr.at GM5 kd_256 (by decide))).trans ((congrArg (fun e => o_f e 7) (Fr.at GM4 kd_256 (by decide))).trans fx1))))))))) ?_
          refine PW.aload_n q_29_124 rfl ?_
          refine PW.cI q_29_125 (by decide) fun c27 hc27 => ?_
          refine PW.cB q_29_126 (by decide) fun c28 hc28 => ?_
          refine PW.cV (as := [_, _]) (rest := [_, _]) q_29_128 t_mv_29_143 kd_1 IM23.1 (by decide) rfl (by decide) rfl rfl (Nat.le_of_ble_eq_true rfl) (Nat.le_of_ble_eq_true rfl) (by decide) (by decide) ?_
          refine PW.up (by decide) (c_X7_needsNumber (gTS) (StabS) G _ M23 IM23 c27 c28 fun x30 M29 IM29 GM29 PM29 => ?_)
          have FM29 := Fr.trans FM23 GM29 (rfl)
          refine PW.wI q_29_131 gA_34 kd_264 StabS IM29 (by decide) rfl gC_34_0_1 (by decide) (by omega) (by omega) (n_lo _) (n_hi _) fun M31 IM31 fM31 UM31 => ?_
          have FM31 := Fr.pu FM29 UM31.1 kd_264 (rfl : List.contains [1, 4, 31, 32, 33, 34, 35, 36] 34 = true)
          refine PW.aload_n q_29_132 rfl ?_
          refine PW.gR 264 q_29_133 (Or.inl t_ft_29_35) gF_4_15 kd_256 IM31.1 (by decide) rfl ?_
          refine PW.aload_n q_29_136 rfl ?_
          refine PW.gE q_29_137 (Or.inl t_ft_29_70) gF_4_7 kd_256 IM31.1 (by decide) ((congrArg (fun e => o_f e 7) (UM31.1 _ (g_ne kd_256 kd_264 (by decide)))).trans ((congrArg (fun e => o_f e 7) (Fr.at GM29 kd_256 (by decide))).trans ((congrArg (fun e => o_f e 7) (UM23.1 _ (g_ne kd_256 kd_263 (by decide)))).trans ((congrArg (fun e => o_f e 7) (Fr.at GM21 kd_256 (by decide))).trans ((congrArg (fun e => o_f e 7) (Fr.at GM18 kd_256 (by decide))).trans ((congrArg (fun e => o_f e 7) (UM14.1 _ (g_ne kd_256 kd_262 (by decide)))).trans ((congrArg (fun e => o_f e 7) (Fr.at GM12 kd_256 (by decide))).trans ((congrArg (fun e => o_f e 7) (Fr.at GM10 kd_256 (by decide))).trans ((congrArg (fun e => o_f e 7) (UM9 _ (g_ne kd_256 kd_261 (by decide)))).trans ((congrArg (fun e => o_f e 7) (Fr.at GM5 kd_256 (by decide))).trans ((congrArg (fun e => o_f e 7) (Fr.at GM4 kd_256 (by decide))).trans fx1))))))))))) ?_
          refine PW.aH q_29_140 gA_34 kd_264 IM31.1 (by decide) (by omega) (by omega) fun x32 fx32 => ?_
          refine PW.cI q_29_141 (by decide) fun c33 hc33 => ?_
          refine PW.jc_ne q_29_142 rfl (fun h34 => ?_) (fun h34 => ?_)
          · skip
            refine PW.aload_n q_29_147 rfl ?_
            refine PW.gR 265 q_29_148 (Or.inl t_ft_29_38) gF_4_16 kd_256 IM31.1 (by decide) rfl ?_
            refine PW.aload_n q_29_151 rfl ?_
            refine PW.gE q_29_152 (Or.inl t_ft_29_70) gF_4_7 kd_256 IM31.1 (by decide) ((congrArg (fun e => o_f e 7) (UM31.1 _ (g_ne kd_256 kd_264 (by decide)))).trans ((congrArg (fun e => o_f e 7) (Fr.at GM29 kd_256 (by decide))).trans ((congrArg (fun e => o_f e 7) (UM23.1 _ (g_ne kd_256 kd_263 (by decide)))).trans ((congrArg (fun e => o_f e 7) (Fr.at GM21 kd_256 (by decide))).trans ((congrArg (fun e => o_f e 7) (Fr.at GM18 kd_256 (by decide))).trans ((congrArg (fun e => o_f e 7) (UM14.1 _ (g_ne kd_256 kd_262 (by decide)))).trans ((congrArg (fun e => o_f e 7) (Fr.at GM12 kd_256 (by decide))).trans ((congrArg (fun e => o_f e 7) (Fr.at GM10 kd_256 (by decide))).trans ((congrArg (fun e => o_f e 7) (UM9 _ (g_ne kd_256 kd_261 (by decide)))).trans ((congrArg (fun e => o_f e 7) (Fr.at GM5 kd_256 (by decide))).trans ((congrArg (fun e => o_f e 7) (Fr.at GM4 kd_256 (by decide))).trans fx1))))))))))) ?_
            refine PW.aload_n q_29_155 rfl ?_
            refine PW.callS (as := [_]) (rest := [_, _]) q_29_156 t_ms_29_171 (by decide) rfl (Nat.le_of_ble_eq_true rfl) (Nat.le_of_ble_eq_true rfl) (by decide) (by decide) ?_
            refine PW.up (by decide) (c_X3_seenLaw (gTS) (StabS) G _ M31 IM31  fun x36 M35 IM35 GM35 hx36 kx36 => ?_)
            have FM35 := Fr.trans FM31 GM35 (rfl)
            refine PW.wI q_29_159 gA_35 kd_265 StabS IM35 (by decide) rfl gC_35_0_1 (by decide) (by omega) (by omega) (n_lo _) (n_hi _) fun M37 IM37 fM37 UM37 => ?_
            have FM37 := Fr.pu FM35 UM37.1 kd_265 (rfl : List.contains [1, 4, 31, 32, 33, 34, 35, 36] 35 = true)
            refine PW.aload_n q_29_160 rfl ?_
            refine PW.gR 265 q_29_161 (Or.inl t_ft_29_38) gF_4_16 kd_256 IM37.1 (by decide) rfl ?_
            refine PW.aload_n q_29_164 rfl ?_
            refine PW.gE q_29_165 (Or.inl t_ft_29_70) gF_4_7 kd_256 IM37.1 (by decide) ((congrArg (fun e => o_f e 7) (UM37.1 _ (g_ne kd_256 kd_265 (by decide)))).trans ((congrArg (fun e => o_f e 7) (Fr.at GM35 kd_256 (by decide))).trans ((congrArg (fun e => o_f e 7) (UM31.1 _ (g_ne kd_256 kd_264 (by decide)))).trans ((congrArg (fun e => o_f e 7) (Fr.at GM29 kd_256 (by decide))).trans ((congrArg (fun e => o_f e 7) (UM23.1 _ (g_ne kd_256 kd_263 (by decide)))).trans ((congrArg (fun e => o_f e 7) (Fr.at GM21 kd_256 (by decide))).trans ((congrArg (fun e => o_f e 7) (Fr.at GM18 kd_256 (by decide))).trans ((congrArg (fun e => o_f e 7) (UM14.1 _ (g_ne kd_256 kd_262 (by decide)))).trans ((congrArg (fun e => o_f e 7) (Fr.at GM12 kd_256 (by decide))).trans ((congrArg (fun e => o_f e 7) (Fr.at GM10 kd_256 (by decide))).trans ((congrArg (fun e => o_f e 7) (UM9 _ (g_ne kd_256 kd_261 (by decide)))).trans ((congrArg (fun e => o_f e 7) (Fr.at GM5 kd_256 (by decide))).trans ((congrArg (fun e => o_f e 7) (Fr.at GM4 kd_256 (by decide))).trans fx1))))))))))))) ?_
            refine PW.aH q_29_168 gA_35 kd_265 IM37.1 (by decide) (by omega) (by omega) fun x38 fx38 => ?_
            refine PW.cI q_29_169 (by decide) fun c39 hc39 => ?_
            refine PW.jc_ne q_29_170 rfl (fun h40 => ?_) (fun h40 => ?_)
            · skip
              refine PW.aload_n q_29_179 rfl ?_
              refine PW.cV (as := []) (rest := []) q_29_180 t_mv_29_140 kd_1 IM37.1 (by decide) rfl (by decide) rfl rfl (Nat.le_of_ble_eq_true rfl) (Nat.le_of_ble_eq_true rfl) (by decide) (by decide) ?_
              refine PW.up (by decide) (c_X7_advance (gTS) (StabS) G _ M37 IM37  fun M41 IM41 GM41 => ?_)
              have FM41 := Fr.trans FM37 GM41 (rfl)
              refine PW.aload_n q_29_183 rfl ?_
              refine PW.gR 266 q_29_184 (Or.inl t_ft_29_41) gF_4_17 kd_256 IM41.1 (by decide) rfl ?_
              refine PW.aload_n q_29_187 rfl ?_
              refine PW.gE q_29_188 (Or.inl t_ft_29_70) gF_4_7 kd_256 IM41.1 (by decide) ((congrArg (fun e => o_f e 7) (Fr.at GM41 kd_256 (by decide))).trans ((congrArg (fun e => o_f e 7) (UM37.1 _ (g_ne kd_256 kd_265 (by decide)))).trans ((congrArg (fun e => o_f e 7) (Fr.at GM35 kd_256 (by decide))).trans ((congrArg (fun e => o_f e 7) (UM31.1 _ (g_ne kd_256 kd_264 (by decide)))).trans ((congrArg (fun e => o_f e 7) (Fr.at GM29 kd_256 (by decide))).trans ((congrArg (fun e => o_f e 7) (UM23.1 _ (g_ne kd_256 kd_263 (by decide)))).trans ((congrArg (fun e => o_f e 7) (Fr.at GM21 kd_256 (by decide))).trans ((congrArg (fun e => o_f e 7) (Fr.at GM18 kd_256 (by decide))).trans ((congrArg (fun e => o_f e 7) (UM14.1 _ (g_ne kd_256 kd_262 (by decide)))).trans ((congrArg (fun e => o_f e 7) (Fr.at GM12 kd_256 (by decide))).trans ((congrArg (fun e => o_f e 7) (Fr.at GM10 kd_256 (by decide))).trans ((congrArg (fun e => o_f e 7) (UM9 _ (g_ne kd_256 kd_261 (by decide)))).trans ((congrArg (fun e => o_f e 7) (Fr.at GM5 kd_256 (by decide))).trans ((congrArg (fun e => o_f e 7) (Fr.at GM4 kd_256 (by decide))).trans fx1)))))))))))))) ?_
              refine PW.cI q_29_191 (by decide) fun c42 hc42 => ?_
              refine PW.wI q_29_192 gA_36 kd_266 StabS IM41 (by decide) rfl gC_36_0_1 (by decide) (by omega) (by omega) (n_lo _) (n_hi _) fun M43 IM43 fM43 UM43 => ?_
              have FM43 := Fr.pu FM41 UM43.1 kd_266 (rfl : List.contains [1, 4, 31, 32, 33, 34, 35, 36] 36 = true)
              refine PW.aload_n q_29_193 rfl ?_
              refine PW.dup q_29_194 rfl ?_
              refine PW.gE q_29_195 (Or.inl t_ft_29_70) gF_4_7 kd_256 IM43.1 (by decide) ((congrArg (fun e => o_f e 7) (UM43.1 _ (g_ne kd_256 kd_266 (by decide)))).trans ((congrArg (fun e => o_f e 7) (Fr.at GM41 kd_256 (by decide))).trans ((congrArg (fun e => o_f e 7) (UM37.1 _ (g_ne kd_256 kd_265 (by decide)))).trans ((congrArg (fun e => o_f e 7) (Fr.at GM35 kd_256 (by decide))).trans ((congrArg (fun e => o_f e 7) (UM31.1 _ (g_ne kd_256 kd_264 (by decide)))).trans ((congrArg (fun e => o_f e 7) (Fr.at GM29 kd_256 (by decide))).trans ((congrArg (fun e => o_f e 7) (UM23.1 _ (g_ne kd_256 kd_263 (by decide)))).trans ((congrArg (fun e => o_f e 7) (Fr.at GM21 kd_256 (by decide))).trans ((congrArg (fun e => o_f e 7) (Fr.at GM18 kd_256 (by decide))).trans ((congrArg (fun e => o_f e 7) (UM14.1 _ (g_ne kd_256 kd_262 (by decide)))).trans ((congrArg (fun e => o_f e 7) (Fr.at GM12 kd_256 (by decide))).trans ((congrArg (fun e => o_f e 7) (Fr.at GM10 kd_256 (by decide))).trans ((congrArg (fun e => o_f e 7) (UM9 _ (g_ne kd_256 kd_261 (by decide)))).trans ((congrArg (fun e => o_f e 7) (Fr.at GM5 kd_256 (by decide))).trans ((congrArg (fun e => o_f e 7) (Fr.at GM4 kd_256 (by decide))).trans fx1))))))))))))))) ?_
              refine PW.cI q_29_198 (by decide) fun c44 hc44 => ?_
              refine PW.addN q_29_199 (by omega) (by omega) fun x45 hx45 => ?_
              have hdM46 := o_i_of ((congrArg (fun e => o_f e 7) (UM43.1 _ (g_ne kd_256 kd_266 (by decide)))).trans ((congrArg (fun e => o_f e 7) (Fr.at GM41 kd_256 (by decide))).trans ((congrArg (fun e => o_f e 7) (UM37.1 _ (g_ne kd_256 kd_265 (by decide)))).trans ((congrArg (fun e => o_f e 7) (Fr.at GM35 kd_256 (by decide))).trans ((congrArg (fun e => o_f e 7) (UM31.1 _ (g_ne kd_256 kd_264 (by decide)))).trans ((congrArg (fun e => o_f e 7) (Fr.at GM29 kd_256 (by decide))).trans ((congrArg (fun e => o_f e 7) (UM23.1 _ (g_ne kd_256 kd_263 (by decide)))).trans ((congrArg (fun e => o_f e 7) (Fr.at GM21 kd_256 (by decide))).trans ((congrArg (fun e => o_f e 7) (Fr.at GM18 kd_256 (by decide))).trans ((congrArg (fun e => o_f e 7) (UM14.1 _ (g_ne kd_256 kd_262 (by decide)))).trans ((congrArg (fun e => o_f e 7) (Fr.at GM12 kd_256 (by decide))).trans ((congrArg (fun e => o_f e 7) (Fr.at GM10 kd_256 (by decide))).trans ((congrArg (fun e => o_f e 7) (UM9 _ (g_ne kd_256 kd_261 (by decide)))).trans ((congrArg (fun e => o_f e 7) (Fr.at GM5 kd_256 (by decide))).trans ((congrArg (fun e => o_f e 7) (Fr.at GM4 kd_256 (by decide))).trans fx1)))))))))))))))
              have heM46 : 0 ≤ (o_a (M43 262) x1.toInt.toNat).toInt := by rw [((UM43.1 _ (g_ne kd_262 kd_266 (by decide))).trans ((Fr.at GM41 kd_262 (by decide)).trans ((UM37.1 _ (g_ne kd_262 kd_265 (by decide))).trans ((Fr.at GM35 kd_262 (by decide)).trans ((UM31.1 _ (g_ne kd_262 kd_264 (by decide))).trans ((Fr.at GM29 kd_262 (by decide)).trans ((UM23.1 _ (g_ne kd_262 kd_263 (by decide))).trans ((Fr.at GM21 kd_262 (by decide)).trans (Fr.at GM18 kd_262 (by decide)))))))))), fx15]; omega
              refine PW.pB q_29_200 (Or.inl t_ft_29_70) gF_4_7 gP_4_7 kd_256 IM43.1 (by decide) (by omega) (by omega) fun M46 JM46 fM46 UM46 => ?_
              have IM46 : Iv gTS M46 := ⟨JM46, UM46.TT kd_256 rfl rfl IM43.2.1, gS1.inc IM43.2.2 UM46 fM46 hdM46 (by omega) (by omega) heM46⟩
              have FM46 := Fr.pu FM43 UM46.1 kd_256 (rfl : List.contains [1, 4, 31, 32, 33, 34, 35, 36] 4 = true)
              refine PW.cI q_29_203 (by decide) fun c47 hc47 => ?_
              refine PW.rZ q_29_204 rfl (by omega) (by omega) (by decide) (by decide) ?_
              exact hK c47 M46 IM46 FM46 (by omega) (by omega)
            · skip
              refine PW.aload_n q_29_173 rfl ?_
              refine PW.cI q_29_174 (by decide) fun c48 hc48 => ?_
              refine PW.cV (as := [_]) (rest := []) q_29_175 t_mv_29_137 kd_1 IM37.1 (by decide) rfl (by decide) rfl rfl (Nat.le_of_ble_eq_true rfl) (Nat.le_of_ble_eq_true rfl) (by decide) (by decide) ?_
              refine PW.up (by decide) (c_X7_fail (gTS) (StabS) G _ M37 IM37 c48 fun x50 M49 IM49 GM49 hx50 kx50 => ?_)
              have FM49 := Fr.trans FM37 GM49 (rfl)
              refine PW.rZ q_29_178 rfl (by omega) (by omega) (by decide) (by decide) ?_
              exact hK x50 M49 IM49 FM49 (by omega) (by omega)
          · skip
            refine PW.cI q_29_145 (by decide) fun c51 hc51 => ?_
            refine PW.rZ q_29_146 rfl (by omega) (by omega) (by decide) (by decide) ?_
            exact hK c51 M31 IM31 FM31 (by omega) (by omega)
        · skip
          refine PW.cI q_29_114 (by decide) fun c52 hc52 => ?_
          refine PW.rZ q_29_115 rfl (by omega) (by omega) (by decide) (by decide) ?_
          exact hK c52 M23 IM23 FM23 (by omega) (by omega)
      · skip
        refine PW.cI q_29_79 (by decide) fun c53 hc53 => ?_
        refine PW.rZ q_29_80 rfl (by omega) (by omega) (by decide) (by decide) ?_
        exact hK c53 M14 IM14 FM14 (by omega) (by omega)
    · skip
      refine PW.cI q_29_26 (by decide) fun c54 hc54 => ?_
      refine PW.rZ q_29_27 rfl (by omega) (by omega) (by decide) (by decide) ?_
      exact hK c54 M5 IM5 FM5 (by omega) (by omega)
  · skip
    refine PW.aload_n q_29_8 rfl ?_
    refine PW.cI q_29_9 (by decide) fun c55 hc55 => ?_
    refine PW.cV (as := [_]) (rest := []) q_29_10 t_mv_29_137 kd_1 I.1 (by decide) rfl (by decide) rfl rfl (Nat.le_of_ble_eq_true rfl) (Nat.le_of_ble_eq_true rfl) (by decide) (by decide) ?_
    refine PW.up (by decide) (c_X7_fail (gTS) (StabS) G _ M I c55 fun x57 M56 IM56 GM56 hx57 kx57 => ?_)
    have FM56 := Fr.trans F GM56 (rfl)
    refine PW.rZ q_29_13 rfl (by omega) (by omega) (by decide) (by decide) ?_
    exact hK x57 M56 IM56 FM56 (by omega) (by omega)
theorem c_X3_readLine (G : pG) (Kr : pK) (M : pM) (I : Iv gTS M)  (hK : ∀ (x : Int32) (M1 : pM), Iv gTS M1 → Fr [1, 4, 27, 28, 29, 30, 31, 32, 33, 34, 35, 36] M M1 → 0 ≤ x.toInt → x.toInt ≤ 1 → Kr.1 (some (.int x)) 311 M1) : PW G false 5 23 (p_mc 23) (p_msl 23) Kr 0 (lv_args 0 [.ref 256, .ref 1]) [] 311 M 0 0 := by
  have F : Fr [1, 4, 27, 28, 29, 30, 31, 32, 33, 34, 35, 36] M M := Fr.refl
  refine PW.aload_n q_23_0 rfl ?_
  refine PW.gets q_23_1 t_st_23_94 ?_
  refine PW.cV (as := [_]) (rest := []) q_23_4 t_mv_23_100 kd_1 I.1 (by decide) rfl (by decide) rfl rfl (Nat.le_of_ble_eq_true rfl) (Nat.le_of_ble_eq_true rfl) (by decide) (by decide) ?_
  refine PW.up (by decide) (c_X7_sees (gTS) (StabS) G _ M I 0 (by decide) fun x2 M1 IM1 GM1 hx2 kx2 => ?_)
  have FM1 := Fr.trans F GM1 (rfl)
  refine PW.jz_eq q_23_7 rfl (fun h3 => ?_) (fun h3 => ?_)
  · skip
    refine PW.aload_n q_23_16 rfl ?_
    refine PW.gets q_23_17 t_st_23_107 ?_
    refine PW.cV (as := [_]) (rest := []) q_23_20 t_mv_23_100 kd_1 IM1.1 (by decide) rfl (by decide) rfl rfl (Nat.le_of_ble_eq_true rfl) (Nat.le_of_ble_eq_true rfl) (by decide) (by decide) ?_
    refine PW.up (by decide) (c_X7_sees (gTS) (StabS) G _ M1 IM1 1 (by decide) fun x5 M4 IM4 GM4 hx5 kx5 => ?_)
    have FM4 := Fr.trans FM1 GM4 (rfl)
    refine PW.jz_eq q_23_23 rfl (fun h6 => ?_) (fun h6 => ?_)
    · skip
      refine PW.aload_n q_23_32 rfl ?_
      refine PW.gets q_23_33 t_st_23_113 ?_
      refine PW.cV (as := [_]) (rest := []) q_23_36 t_mv_23_100 kd_1 IM4.1 (by decide) rfl (by decide) rfl rfl (Nat.le_of_ble_eq_true rfl) (Nat.le_of_ble_eq_true rfl) (by decide) (by decide) ?_
      refine PW.up (by decide) (c_X7_sees (gTS) (StabS) G _ M4 IM4 2 (by decide) fun x8 M7 IM7 GM7 hx8 kx8 => ?_)
      have FM7 := Fr.trans FM4 GM7 (rfl)
      refine PW.jz_eq q_23_39 rfl (fun h9 => ?_) (fun h9 => ?_)
      · skip
        refine PW.aload_n q_23_48 rfl ?_
        refine PW.gets q_23_49 t_st_23_119 ?_
        refine PW.cV (as := [_]) (rest := []) q_23_52 t_mv_23_100 kd_1 IM7.1 (by decide) rfl (by decide) rfl rfl (Nat.le_of_ble_eq_true rfl) (Nat.le_of_ble_eq_true rfl) (by decide) (by decide) ?_
        refine PW.up (by decide) (c_X7_sees (gTS) (StabS) G _ M7 IM7 3 (by decide) fun x11 M10 IM10 GM10 hx11 kx11 => ?_)
        have FM10 := Fr.trans FM7 GM10 (rfl)
        refine PW.jz_eq q_23_55 rfl (fun h12 => ?_) (fun h12 => ?_)
        · skip
          refine PW.aload_n q_23_64 rfl ?_
          refine PW.gets q_23_65 t_st_23_125 ?_
          refine PW.cV (as := [_]) (rest := []) q_23_68 t_mv_23_100 kd_1 IM10.1 (by decide) rfl (by decide) rfl rfl (Nat.le_of_ble_eq_true rfl) (Nat.le_of_ble_eq_true rfl) (by decide) (by decide) ?_
          refine PW.up (by decide) (c_X7_sees (gTS) (StabS) G _ M10 IM10 5 (by decide) fun x14 M13 IM13 GM13 hx14 kx14 => ?_)
          have FM13 := Fr.trans FM10 GM13 (rfl)
          refine PW.jz_eq q_23_71 rfl (fun h15 => ?_) (fun h15 => ?_)
          · skip
            refine PW.aload_n q_23_80 rfl ?_
            refine PW.gets q_23_81 t_st_23_131 ?_
            refine PW.cV (as := [_]) (rest := []) q_23_84 t_mv_23_100 kd_1 IM13.1 (by decide) rfl (by decide) rfl rfl (Nat.le_of_ble_eq_true rfl) (Nat.le_of_ble_eq_true rfl) (by decide) (by decide) ?_
            refine PW.up (by decide) (c_X7_sees (gTS) (StabS) G _ M13 IM13 10 (by decide) fun x17 M16 IM16 GM16 hx17 kx17 => ?_)
            have FM16 := Fr.trans FM13 GM16 (rfl)
            refine PW.jz_eq q_23_87 rfl (fun h18 => ?_) (fun h18 => ?_)
            · skip
              refine PW.aload_n q_23_96 rfl ?_
              refine PW.cI q_23_97 (by decide) fun c19 hc19 => ?_
              refine PW.cV (as := [_]) (rest := []) q_23_98 t_mv_23_137 kd_1 IM16.1 (by decide) rfl (by decide) rfl rfl (Nat.le_of_ble_eq_true rfl) (Nat.le_of_ble_eq_true rfl) (by decide) (by decide) ?_
              refine PW.up (by decide) (c_X7_fail (gTS) (StabS) G _ M16 IM16 c19 fun x21 M20 IM20 GM20 hx21 kx21 => ?_)
              have FM20 := Fr.trans FM16 GM20 (rfl)
              refine PW.rZ q_23_101 rfl (by omega) (by omega) (by decide) (by decide) ?_
              exact hK x21 M20 IM20 FM20 (by omega) (by omega)
            · skip
              refine PW.aload_n q_23_90 rfl ?_
              refine PW.aload_n q_23_91 rfl ?_
              refine PW.cV (as := [_]) (rest := []) q_23_92 t_mv_23_134 kd_256 IM16.1 (by decide) rfl (by decide) rfl rfl (Nat.le_of_ble_eq_true rfl) (Nat.le_of_ble_eq_true rfl) (by decide) (by decide) ?_
              refine PW.up (by decide) (c_X3_readTires (gTS) (StabS) G _ M16 IM16  fun x23 M22 IM22 GM22 hx23 kx23 => ?_)
              have FM22 := Fr.trans FM16 GM22 (rfl)
              refine PW.rZ q_23_95 rfl (by omega) (by omega) (by decide) (by decide) ?_
              exact hK x23 M22 IM22 FM22 (by omega) (by omega)
          · skip
            refine PW.aload_n q_23_74 rfl ?_
            refine PW.aload_n q_23_75 rfl ?_
            refine PW.cV (as := [_]) (rest := []) q_23_76 t_mv_23_128 kd_256 IM13.1 (by decide) rfl (by decide) rfl rfl (Nat.le_of_ble_eq_true rfl) (Nat.le_of_ble_eq_true rfl) (by decide) (by decide) ?_
            refine PW.up (by decide) (c_X3_readDog G _ M13 IM13  fun x25 M24 IM24 GM24 hx25 kx25 => ?_)
            have FM24 := Fr.trans FM13 GM24 (rfl)
            refine PW.rZ q_23_79 rfl (by omega) (by omega) (by decide) (by decide) ?_
            exact hK x25 M24 IM24 FM24 (by omega) (by omega)
        · skip
          refine PW.aload_n q_23_58 rfl ?_
          refine PW.aload_n q_23_59 rfl ?_
          refine PW.cV (as := [_]) (rest := []) q_23_60 t_mv_23_122 kd_256 IM10.1 (by decide) rfl (by decide) rfl rfl (Nat.le_of_ble_eq_true rfl) (Nat.le_of_ble_eq_true rfl) (by decide) (by decide) ?_
          refine PW.up (by decide) (c_X3_readWalker (gTS) (StabS) G _ M10 IM10  fun x27 M26 IM26 GM26 hx27 kx27 => ?_)
          have FM26 := Fr.trans FM10 GM26 (rfl)
          refine PW.rZ q_23_63 rfl (by omega) (by omega) (by decide) (by decide) ?_
          exact hK x27 M26 IM26 FM26 (by omega) (by omega)
      · skip
        refine PW.aload_n q_23_42 rfl ?_
        refine PW.aload_n q_23_43 rfl ?_
        refine PW.cV (as := [_]) (rest := []) q_23_44 t_mv_23_116 kd_256 IM7.1 (by decide) rfl (by decide) rfl rfl (Nat.le_of_ble_eq_true rfl) (Nat.le_of_ble_eq_true rfl) (by decide) (by decide) ?_
        refine PW.up (by decide) (c_X3_readKeeps (gTS) (StabS) G _ M7 IM7  fun x29 M28 IM28 GM28 hx29 kx29 => ?_)
        have FM28 := Fr.trans FM7 GM28 (rfl)
        refine PW.rZ q_23_47 rfl (by omega) (by omega) (by decide) (by decide) ?_
        exact hK x29 M28 IM28 FM28 (by omega) (by omega)
    · skip
      refine PW.aload_n q_23_26 rfl ?_
      refine PW.aload_n q_23_27 rfl ?_
      refine PW.cV (as := [_]) (rest := []) q_23_28 t_mv_23_110 kd_256 IM4.1 (by decide) rfl (by decide) rfl rfl (Nat.le_of_ble_eq_true rfl) (Nat.le_of_ble_eq_true rfl) (by decide) (by decide) ?_
      refine PW.up (by decide) (c_X3_readBody (gTS) (StabS) G _ M4 IM4  fun x31 M30 IM30 GM30 hx31 kx31 => ?_)
      have FM30 := Fr.trans FM4 GM30 (rfl)
      refine PW.rZ q_23_31 rfl (by omega) (by omega) (by decide) (by decide) ?_
      exact hK x31 M30 IM30 FM30 (by omega) (by omega)
  · skip
    refine PW.aload_n q_23_10 rfl ?_
    refine PW.aload_n q_23_11 rfl ?_
    refine PW.cV (as := [_]) (rest := []) q_23_12 t_mv_23_104 kd_256 IM1.1 (by decide) rfl (by decide) rfl rfl (Nat.le_of_ble_eq_true rfl) (Nat.le_of_ble_eq_true rfl) (by decide) (by decide) ?_
    refine PW.up (by decide) (c_X3_readLength (gTS) (StabS) G _ M1 IM1  fun x33 M32 IM32 GM32 hx33 kx33 => ?_)
    have FM32 := Fr.trans FM1 GM32 (rfl)
    refine PW.rZ q_23_15 rfl (by omega) (by omega) (by decide) (by decide) ?_
    exact hK x33 M32 IM32 FM32 (by omega) (by omega)
theorem c_X3_read (G : pG) (Kr : pK) (M : pM) (I : Iv gTT M)  (hK : ∀ (x : Int32) (M1 : pM), Iv gTS M1 → Fr [1, 4, 27, 28, 29, 30, 31, 32, 33, 34, 35, 36] M M1 → 0 ≤ x.toInt → x.toInt ≤ 1 → Kr.1 (some (.int x)) 311 M1) : PW G false 6 22 (p_mc 22) (p_msl 22) Kr 0 (lv_args 0 [.ref 256, .ref 1]) [] 311 M 0 0 := by
  have F : Fr [1, 4, 27, 28, 29, 30, 31, 32, 33, 34, 35, 36] M M := Fr.refl
  refine PW.aload_n q_22_0 rfl ?_
  refine PW.cV (as := []) (rest := []) q_22_1 t_mv_22_44 kd_256 I.1 (by decide) rfl (by decide) rfl rfl (Nat.le_of_ble_eq_true rfl) (Nat.le_of_ble_eq_true rfl) (by decide) (by decide) ?_
  refine PW.up (by decide) (c_X3_forget G _ M I fun M1 IM1 GM1 => ?_)
  have FM1 := Fr.trans F GM1 (rfl)
  refine PW.aload_n q_22_4 rfl ?_
  refine PW.cS q_22_5 (by decide) fun c2 hc2 => ?_
  refine PW.cV (as := [_]) (rest := []) q_22_8 t_mv_22_73 kd_1 IM1.1 (by decide) rfl (by decide) rfl rfl (Nat.le_of_ble_eq_true rfl) (Nat.le_of_ble_eq_true rfl) (by decide) (by decide) ?_
  refine PW.up (by decide) (c_X7_startText (gTS) (StabS) G _ M1 IM1 c2 fun M3 IM3 GM3 => ?_)
  have FM3 := Fr.trans FM1 GM3 (rfl)
  refine PW.cI q_22_11 (by decide) fun c4 hc4 => ?_
  refine PW.istore_n q_22_12 (by decide) ?_
  have L22_13_5 : ∀ (n : Nat) (ML22_13_5 : pM) (v6 : Int32), Iv (gTS) ML22_13_5 → Fr [1, 4, 27, 28, 29, 30, 31, 32, 33, 34, 35, 36] M ML22_13_5 → 0 ≤ v6.toInt → v6.toInt ≤ 901 → (901 - v6.toInt).toNat = n → PW G false 6 22 (p_mc 22) (p_msl 22) Kr 13 [(0, .ref 256), (1, .ref 1), (2, .int v6)] [] 311 ML22_13_5 0 0 := by
    intro n
    induction n using Nat.strongRecOn with
    | ind n ih_L22_13_5 =>
    intro ML22_13_5 v6 IML22_13_5 FML22_13_5 hbL22_13_50 hbL22_13_51 hmL22_13_5
    refine PW.iload_n q_22_13 rfl ?_
    refine PW.cS q_22_14 (by decide) fun c7 hc7 => ?_
    refine PW.jc_gt q_22_17 rfl (fun h8 => ?_) (fun h8 => ?_)
    · skip
      refine PW.aload_n q_22_62 rfl ?_
      refine PW.cV (as := []) (rest := []) q_22_63 t_mv_22_91 kd_1 IML22_13_5.1 (by decide) rfl (by decide) rfl rfl (Nat.le_of_ble_eq_true rfl) (Nat.le_of_ble_eq_true rfl) (by decide) (by decide) ?_
      refine PW.up (by decide) (c_X7_closes (gTS) (StabS) G _ ML22_13_5 IML22_13_5  fun x10 M9 IM9 GM9 hx10 kx10 => ?_)
      have FM9 := Fr.trans FML22_13_5 GM9 (rfl)
      refine PW.rZ q_22_66 rfl (by omega) (by omega) (by decide) (by decide) ?_
      exact hK x10 M9 IM9 FM9 (by omega) (by omega)
    · skip
      refine PW.aload_n q_22_20 rfl ?_
      refine PW.cV (as := []) (rest := []) q_22_21 t_mv_22_79 kd_1 IML22_13_5.1 (by decide) rfl (by decide) rfl rfl (Nat.le_of_ble_eq_true rfl) (Nat.le_of_ble_eq_true rfl) (by decide) (by decide) ?_
      refine PW.up (by decide) (c_X7_atEnd (gTS) (StabS) G _ ML22_13_5 IML22_13_5  fun x12 M11 IM11 GM11 hx12 kx12 => ?_)
      have FM11 := Fr.trans FML22_13_5 GM11 (rfl)
      refine PW.jz_ne q_22_24 rfl (fun h13 => ?_) (fun h13 => ?_)
      · skip
        refine PW.aload_n q_22_62 rfl ?_
        refine PW.cV (as := []) (rest := []) q_22_63 t_mv_22_91 kd_1 IM11.1 (by decide) rfl (by decide) rfl rfl (Nat.le_of_ble_eq_true rfl) (Nat.le_of_ble_eq_true rfl) (by decide) (by decide) ?_
        refine PW.up (by decide) (c_X7_closes (gTS) (StabS) G _ M11 IM11  fun x15 M14 IM14 GM14 hx15 kx15 => ?_)
        have FM14 := Fr.trans FM11 GM14 (rfl)
        refine PW.rZ q_22_66 rfl (by omega) (by omega) (by decide) (by decide) ?_
        exact hK x15 M14 IM14 FM14 (by omega) (by omega)
      · skip
        refine PW.aload_n q_22_27 rfl ?_
        refine PW.aload_n q_22_28 rfl ?_
        refine PW.cV (as := [_]) (rest := []) q_22_29 t_mv_22_83 kd_256 IM11.1 (by decide) rfl (by decide) rfl rfl (Nat.le_of_ble_eq_true rfl) (Nat.le_of_ble_eq_true rfl) (by decide) (by decide) ?_
        refine PW.up (by decide) (c_X3_readLine G _ M11 IM11  fun x17 M16 IM16 GM16 hx17 kx17 => ?_)
        have FM16 := Fr.trans FM11 GM16 (rfl)
        refine PW.jz_eq q_22_32 rfl (fun h18 => ?_) (fun h18 => ?_)
        · skip
          refine PW.cI q_22_44 (by decide) fun c19 hc19 => ?_
          refine PW.rZ q_22_45 rfl (by omega) (by omega) (by decide) (by decide) ?_
          exact hK c19 M16 IM16 FM16 (by omega) (by omega)
        · skip
          refine PW.aload_n q_22_35 rfl ?_
          refine PW.cB q_22_36 (by decide) fun c20 hc20 => ?_
          refine PW.cV (as := [_]) (rest := []) q_22_38 t_mv_22_87 kd_1 IM16.1 (by decide) rfl (by decide) rfl rfl (Nat.le_of_ble_eq_true rfl) (Nat.le_of_ble_eq_true rfl) (by decide) (by decide) ?_
          refine PW.up (by decide) (c_X7_needsSign (gTS) (StabS) G _ M16 IM16 c20 fun x22 M21 IM21 GM21 hx22 kx22 => ?_)
          have FM21 := Fr.trans FM16 GM21 (rfl)
          refine PW.jz_ne q_22_41 rfl (fun h23 => ?_) (fun h23 => ?_)
          · skip
            refine PW.aload_n q_22_46 rfl ?_
            refine PW.dup q_22_47 rfl ?_
            refine PW.gI q_22_48 (Or.inl t_ft_22_47) gF_4_0 kd_256 IM21.1 (by decide) fun x24 fx24 hx24 kx24 => ?_
            clear hx24 kx24
            refine PW.cI q_22_51 (by decide) fun c25 hc25 => ?_
            refine PW.addH q_22_52 fun x26 => ?_
            refine PW.pI q_22_53 (Or.inl t_ft_22_47) gF_4_0 gP_4_0 kd_256 StabS IM21 (by decide) rfl (n_lo _) (n_hi _) fun M27 IM27 fM27 UM27 => ?_
            have FM27 := Fr.pu FM21 UM27.1 kd_256 (rfl : List.contains [1, 4, 27, 28, 29, 30, 31, 32, 33, 34, 35, 36] 4 = true)
            refine PW.incN q_22_56 rfl (by decide) (by decide) (by omega) (by omega) fun x28 hx28 => ?_
            refine PW.goto q_22_59 rfl ?_
            refine PW.lvS (lk1 rfl (lk1 rfl (lk1 rfl lk0))) (ih_L22_13_5 _ ?_ M27 x28 IM27 FM27 (by omega) (by omega) rfl)
            omega
          · skip
            refine PW.cI q_22_44 (by decide) fun c29 hc29 => ?_
            refine PW.rZ q_22_45 rfl (by omega) (by omega) (by decide) (by decide) ?_
            exact hK c29 M21 IM21 FM21 (by omega) (by omega)
  exact PW.lvS (lk1 rfl (lk1 rfl (lk1 rfl lk0))) (L22_13_5 _ M3 c4 IM3 FM3 (by omega) (by omega) rfl)
