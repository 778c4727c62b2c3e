theorem q_1_0 : p_tb 1 0 = some (.aload_n 0, 1) := by decide +kernel
theorem q_1_1 : p_tb 1 1 = some (.iload_n 1, 1) := by decide +kernel
theorem q_1_2 : p_tb 1 2 = some (.putfield 25, 3) := by decide +kernel
theorem q_1_5 : p_tb 1 5 = some (.aload_n 0, 1) := by decide +kernel
theorem q_1_6 : p_tb 1 6 = some (.iload_n 2, 1) := by decide +kernel
theorem q_1_7 : p_tb 1 7 = some (.putfield 28, 3) := by decide +kernel
theorem q_1_10 : p_tb 1 10 = some (.aload_n 0, 1) := by decide +kernel
theorem q_1_11 : p_tb 1 11 = some (.iconst 0, 1) := by decide +kernel
theorem q_1_12 : p_tb 1 12 = some (.putfield 31, 3) := by decide +kernel
theorem q_1_15 : p_tb 1 15 = some (.aload_n 0, 1) := by decide +kernel
theorem q_1_16 : p_tb 1 16 = some (.iconst 0, 1) := by decide +kernel
theorem q_1_17 : p_tb 1 17 = some (.putfield 34, 3) := by decide +kernel
theorem q_1_20 : p_tb 1 20 = some (.aload_n 0, 1) := by decide +kernel
theorem q_1_21 : p_tb 1 21 = some (.iconst (-1), 1) := by decide +kernel
theorem q_1_22 : p_tb 1 22 = some (.putfield 9, 3) := by decide +kernel
theorem q_1_25 : p_tb 1 25 = some (.aload_n 0, 1) := by decide +kernel
theorem q_1_26 : p_tb 1 26 = some (.iconst 0, 1) := by decide +kernel
theorem q_1_27 : p_tb 1 27 = some (.putfield 37, 3) := by decide +kernel
theorem q_1_30 : p_tb 1 30 = some (.aload_n 0, 1) := by decide +kernel
theorem q_1_31 : p_tb 1 31 = some (.iload_n 3, 1) := by decide +kernel
theorem q_1_32 : p_tb 1 32 = some (.invokevirtual 40, 3) := by decide +kernel
theorem q_1_35 : p_tb 1 35 = some (.return_, 1) := by decide +kernel
theorem t_ft_1_25 : p_f2 p_ft (p_mK 1) 25 = some (0, 0) := by decide +kernel
theorem t_ft_1_28 : p_f2 p_ft (p_mK 1) 28 = some (0, 1) := by decide +kernel
theorem t_ft_1_31 : p_f2 p_ft (p_mK 1) 31 = some (0, 2) := by decide +kernel
theorem t_ft_1_34 : p_f2 p_ft (p_mK 1) 34 = some (0, 3) := by decide +kernel
theorem t_ft_1_37 : p_f2 p_ft (p_mK 1) 37 = some (0, 5) := by decide +kernel
theorem t_ft_1_9 : p_f2 p_ft (p_mK 1) 9 = some (0, 4) := by decide +kernel
theorem t_mv_1_40 : p_f2 p_mv (p_mK 1) 40 = some 2 := by decide +kernel
theorem q_3_0 : p_tb 3 0 = some (.aload_n 0, 1) := by decide +kernel
theorem q_3_1 : p_tb 3 1 = some (.aload_n 1, 1) := by decide +kernel
theorem q_3_2 : p_tb 3 2 = some (.getfield 25, 3) := by decide +kernel
theorem q_3_5 : p_tb 3 5 = some (.putfield 25, 3) := by decide +kernel
theorem q_3_8 : p_tb 3 8 = some (.aload_n 0, 1) := by decide +kernel
theorem q_3_9 : p_tb 3 9 = some (.aload_n 1, 1) := by decide +kernel
theorem q_3_10 : p_tb 3 10 = some (.getfield 28, 3) := by decide +kernel
theorem q_3_13 : p_tb 3 13 = some (.putfield 28, 3) := by decide +kernel
theorem q_3_16 : p_tb 3 16 = some (.aload_n 0, 1) := by decide +kernel
theorem q_3_17 : p_tb 3 17 = some (.aload_n 1, 1) := by decide +kernel
theorem q_3_18 : p_tb 3 18 = some (.getfield 31, 3) := by decide +kernel
theorem q_3_21 : p_tb 3 21 = some (.putfield 31, 3) := by decide +kernel
theorem q_3_24 : p_tb 3 24 = some (.aload_n 0, 1) := by decide +kernel
theorem q_3_25 : p_tb 3 25 = some (.aload_n 1, 1) := by decide +kernel
theorem q_3_26 : p_tb 3 26 = some (.getfield 34, 3) := by decide +kernel
theorem q_3_29 : p_tb 3 29 = some (.putfield 34, 3) := by decide +kernel
theorem q_3_32 : p_tb 3 32 = some (.aload_n 0, 1) := by decide +kernel
theorem q_3_33 : p_tb 3 33 = some (.aload_n 1, 1) := by decide +kernel
theorem q_3_34 : p_tb 3 34 = some (.getfield 9, 3) := by decide +kernel
theorem q_3_37 : p_tb 3 37 = some (.putfield 9, 3) := by decide +kernel
theorem q_3_40 : p_tb 3 40 = some (.aload_n 0, 1) := by decide +kernel
theorem q_3_41 : p_tb 3 41 = some (.aload_n 1, 1) := by decide +kernel
theorem q_3_42 : p_tb 3 42 = some (.getfield 37, 3) := by decide +kernel
theorem q_3_45 : p_tb 3 45 = some (.putfield 37, 3) := by decide +kernel
theorem q_3_48 : p_tb 3 48 = some (.aload_n 0, 1) := by decide +kernel
theorem q_3_49 : p_tb 3 49 = some (.aload_n 1, 1) := by decide +kernel
theorem q_3_50 : p_tb 3 50 = some (.getfield 44, 3) := by decide +kernel
theorem q_3_53 : p_tb 3 53 = some (.putfield 44, 3) := by decide +kernel
theorem q_3_56 : p_tb 3 56 = some (.aload_n 1, 1) := by decide +kernel
theorem q_3_57 : p_tb 3 57 = some (.getfield 15, 3) := by decide +kernel
theorem q_3_60 : p_tb 3 60 = some (.iconst 0, 1) := by decide +kernel
theorem q_3_61 : p_tb 3 61 = some (.aload_n 0, 1) := by decide +kernel
theorem q_3_62 : p_tb 3 62 = some (.getfield 15, 3) := by decide +kernel
theorem q_3_65 : p_tb 3 65 = some (.iconst 0, 1) := by decide +kernel
theorem q_3_66 : p_tb 3 66 = some (.bipush 6, 2) := by decide +kernel
theorem q_3_68 : p_tb 3 68 = some (.invokestatic 47, 3) := by decide +kernel
theorem q_3_71 : p_tb 3 71 = some (.aload_n 1, 1) := by decide +kernel
theorem q_3_72 : p_tb 3 72 = some (.getfield 19, 3) := by decide +kernel
theorem q_3_75 : p_tb 3 75 = some (.iconst 0, 1) := by decide +kernel
theorem q_3_76 : p_tb 3 76 = some (.aload_n 0, 1) := by decide +kernel
theorem q_3_77 : p_tb 3 77 = some (.getfield 19, 3) := by decide +kernel
theorem q_3_80 : p_tb 3 80 = some (.iconst 0, 1) := by decide +kernel
theorem q_3_81 : p_tb 3 81 = some (.bipush 20, 2) := by decide +kernel
theorem q_3_83 : p_tb 3 83 = some (.invokestatic 47, 3) := by decide +kernel
theorem q_3_86 : p_tb 3 86 = some (.aload_n 1, 1) := by decide +kernel
theorem q_3_87 : p_tb 3 87 = some (.getfield 22, 3) := by decide +kernel
theorem q_3_90 : p_tb 3 90 = some (.iconst 0, 1) := by decide +kernel
theorem q_3_91 : p_tb 3 91 = some (.aload_n 0, 1) := by decide +kernel
theorem q_3_92 : p_tb 3 92 = some (.getfield 22, 3) := by decide +kernel
theorem q_3_95 : p_tb 3 95 = some (.iconst 0, 1) := by decide +kernel
theorem q_3_96 : p_tb 3 96 = some (.bipush 20, 2) := by decide +kernel
theorem q_3_98 : p_tb 3 98 = some (.invokestatic 47, 3) := by decide +kernel
theorem q_3_101 : p_tb 3 101 = some (.return_, 1) := by decide +kernel
theorem t_ft_3_15 : p_f2 p_ft (p_mK 3) 15 = some (0, 7) := by decide +kernel
theorem t_ft_3_19 : p_f2 p_ft (p_mK 3) 19 = some (0, 8) := by decide +kernel
theorem t_ft_3_22 : p_f2 p_ft (p_mK 3) 22 = some (0, 9) := by decide +kernel
theorem t_ft_3_25 : p_f2 p_ft (p_mK 3) 25 = some (0, 0) := by decide +kernel
theorem t_ft_3_28 : p_f2 p_ft (p_mK 3) 28 = some (0, 1) := by decide +kernel
theorem t_ft_3_31 : p_f2 p_ft (p_mK 3) 31 = some (0, 2) := by decide +kernel
theorem t_ft_3_34 : p_f2 p_ft (p_mK 3) 34 = some (0, 3) := by decide +kernel
theorem t_ft_3_37 : p_f2 p_ft (p_mK 3) 37 = some (0, 5) := by decide +kernel
theorem t_ft_3_44 : p_f2 p_ft (p_mK 3) 44 = some (0, 6) := by decide +kernel
theorem t_ft_3_9 : p_f2 p_ft (p_mK 3) 9 = some (0, 4) := by decide +kernel
theorem t_mj_3_47 : p_f2 p_mj (p_mK 3) 47 = some 4 := by decide +kernel
theorem q_5_0 : p_tb 5 0 = some (.aload_n 0, 1) := by decide +kernel
theorem q_5_1 : p_tb 5 1 = some (.getfield 19, 3) := by decide +kernel
theorem q_5_4 : p_tb 5 4 = some (.aload_n 0, 1) := by decide +kernel
theorem q_5_5 : p_tb 5 5 = some (.getfield 34, 3) := by decide +kernel
theorem q_5_8 : p_tb 5 8 = some (.bipush 20, 2) := by decide +kernel
theorem q_5_10 : p_tb 5 10 = some (.irem, 1) := by decide +kernel
theorem q_5_11 : p_tb 5 11 = some (.iload_n 1, 1) := by decide +kernel
theorem q_5_12 : p_tb 5 12 = some (.iastore, 1) := by decide +kernel
theorem q_5_13 : p_tb 5 13 = some (.aload_n 0, 1) := by decide +kernel
theorem q_5_14 : p_tb 5 14 = some (.getfield 22, 3) := by decide +kernel
theorem q_5_17 : p_tb 5 17 = some (.aload_n 0, 1) := by decide +kernel
theorem q_5_18 : p_tb 5 18 = some (.getfield 34, 3) := by decide +kernel
theorem q_5_21 : p_tb 5 21 = some (.bipush 20, 2) := by decide +kernel
theorem q_5_23 : p_tb 5 23 = some (.irem, 1) := by decide +kernel
theorem q_5_24 : p_tb 5 24 = some (.aload_n 0, 1) := by decide +kernel
theorem q_5_25 : p_tb 5 25 = some (.getfield 25, 3) := by decide +kernel
theorem q_5_28 : p_tb 5 28 = some (.iastore, 1) := by decide +kernel
theorem q_5_29 : p_tb 5 29 = some (.aload_n 0, 1) := by decide +kernel
theorem q_5_30 : p_tb 5 30 = some (.dup, 1) := by decide +kernel
theorem q_5_31 : p_tb 5 31 = some (.getfield 34, 3) := by decide +kernel
theorem q_5_34 : p_tb 5 34 = some (.iconst 1, 1) := by decide +kernel
theorem q_5_35 : p_tb 5 35 = some (.iadd, 1) := by decide +kernel
theorem q_5_36 : p_tb 5 36 = some (.putfield 34, 3) := by decide +kernel
theorem q_5_39 : p_tb 5 39 = some (.aload_n 0, 1) := by decide +kernel
theorem q_5_40 : p_tb 5 40 = some (.iload_n 1, 1) := by decide +kernel
theorem q_5_41 : p_tb 5 41 = some (.iload_n 2, 1) := by decide +kernel
theorem q_5_42 : p_tb 5 42 = some (.invokevirtual 59, 3) := by decide +kernel
theorem q_5_45 : p_tb 5 45 = some (.aload_n 0, 1) := by decide +kernel
theorem q_5_46 : p_tb 5 46 = some (.iconst (-1), 1) := by decide +kernel
theorem q_5_47 : p_tb 5 47 = some (.putfield 9, 3) := by decide +kernel
theorem q_5_50 : p_tb 5 50 = some (.return_, 1) := by decide +kernel
theorem t_ft_5_19 : p_f2 p_ft (p_mK 5) 19 = some (0, 8) := by decide +kernel
theorem t_ft_5_22 : p_f2 p_ft (p_mK 5) 22 = some (0, 9) := by decide +kernel
theorem t_ft_5_25 : p_f2 p_ft (p_mK 5) 25 = some (0, 0) := by decide +kernel
theorem t_ft_5_34 : p_f2 p_ft (p_mK 5) 34 = some (0, 3) := by decide +kernel
theorem t_ft_5_9 : p_f2 p_ft (p_mK 5) 9 = some (0, 4) := by decide +kernel
theorem t_mv_5_59 : p_f2 p_mv (p_mK 5) 59 = some 6 := by decide +kernel
theorem gC_11_0_19 : gC 11 0 19 (-2147483648) 2147483647 := gC.of (by decide +kernel)
theorem gC_12_0_19 : gC 12 0 19 (-2147483648) 2147483647 := gC.of (by decide +kernel)
theorem q_60_0 : p_tb 60 0 = some (.aload_n 0, 1) := by decide +kernel
theorem q_60_1 : p_tb 60 1 = some (.getfield 27, 3) := by decide +kernel
theorem q_60_4 : p_tb 60 4 = some (.iload_n 2, 1) := by decide +kernel
theorem q_60_5 : p_tb 60 5 = some (.aaload, 1) := by decide +kernel
theorem q_60_6 : p_tb 60 6 = some (.astore_n 3, 1) := by decide +kernel
theorem q_60_7 : p_tb 60 7 = some (.aload_n 3, 1) := by decide +kernel
theorem q_60_8 : p_tb 60 8 = some (.getfield 151, 3) := by decide +kernel
theorem q_60_11 : p_tb 60 11 = some (.ifCond .le 14, 3) := by decide +kernel
theorem q_60_14 : p_tb 60 14 = some (.aload_n 3, 1) := by decide +kernel
theorem q_60_15 : p_tb 60 15 = some (.dup, 1) := by decide +kernel
theorem q_60_16 : p_tb 60 16 = some (.getfield 151, 3) := by decide +kernel
theorem q_60_19 : p_tb 60 19 = some (.iconst 1, 1) := by decide +kernel
theorem q_60_20 : p_tb 60 20 = some (.isub, 1) := by decide +kernel
theorem q_60_21 : p_tb 60 21 = some (.putfield 151, 3) := by decide +kernel
theorem q_60_24 : p_tb 60 24 = some (.return_, 1) := by decide +kernel
theorem q_60_25 : p_tb 60 25 = some (.aload_n 3, 1) := by decide +kernel
theorem q_60_26 : p_tb 60 26 = some (.getfield 94, 3) := by decide +kernel
theorem q_60_29 : p_tb 60 29 = some (.iconst (-1), 1) := by decide +kernel
theorem q_60_30 : p_tb 60 30 = some (.if_icmp .ne 22, 3) := by decide +kernel
theorem q_60_33 : p_tb 60 33 = some (.aload_n 3, 1) := by decide +kernel
theorem q_60_34 : p_tb 60 34 = some (.aload_n 0, 1) := by decide +kernel
theorem q_60_35 : p_tb 60 35 = some (.aload_n 1, 1) := by decide +kernel
theorem q_60_36 : p_tb 60 36 = some (.getfield 117, 3) := by decide +kernel
theorem q_60_39 : p_tb 60 39 = some (.aload_n 3, 1) := by decide +kernel
theorem q_60_40 : p_tb 60 40 = some (.aload_n 1, 1) := by decide +kernel
theorem q_60_41 : p_tb 60 41 = some (.getfield 154, 3) := by decide +kernel
theorem q_60_44 : p_tb 60 44 = some (.iload_n 2, 1) := by decide +kernel
theorem q_60_45 : p_tb 60 45 = some (.iaload, 1) := by decide +kernel
theorem q_60_46 : p_tb 60 46 = some (.invokevirtual 157, 3) := by decide +kernel
theorem q_60_49 : p_tb 60 49 = some (.putfield 94, 3) := by decide +kernel
theorem q_60_52 : p_tb 60 52 = some (.aload_n 3, 1) := by decide +kernel
theorem q_60_53 : p_tb 60 53 = some (.getfield 94, 3) := by decide +kernel
theorem q_60_56 : p_tb 60 56 = some (.istore 4, 2) := by decide +kernel
theorem q_60_58 : p_tb 60 58 = some (.iload 4, 2) := by decide +kernel
theorem q_60_60 : p_tb 60 60 = some (.ifCond .lt 122, 3) := by decide +kernel
theorem q_60_63 : p_tb 60 63 = some (.iload 4, 2) := by decide +kernel
theorem q_60_65 : p_tb 60 65 = some (.aload_n 1, 1) := by decide +kernel
theorem q_60_66 : p_tb 60 66 = some (.getfield 117, 3) := by decide +kernel
theorem q_60_69 : p_tb 60 69 = some (.if_icmp .ge 113, 3) := by decide +kernel
theorem q_60_72 : p_tb 60 72 = some (.aload_n 3, 1) := by decide +kernel
theorem q_60_73 : p_tb 60 73 = some (.aload_n 0, 1) := by decide +kernel
theorem q_60_74 : p_tb 60 74 = some (.getfield 20, 3) := by decide +kernel
theorem q_60_77 : p_tb 60 77 = some (.iload 4, 2) := by decide +kernel
theorem q_60_79 : p_tb 60 79 = some (.aaload, 1) := by decide +kernel
theorem q_60_80 : p_tb 60 80 = some (.getfield 76, 3) := by decide +kernel
theorem q_60_83 : p_tb 60 83 = some (.invokevirtual 161, 3) := by decide +kernel
theorem q_60_86 : p_tb 60 86 = some (.ifCond .eq 96, 3) := by decide +kernel
theorem q_60_89 : p_tb 60 89 = some (.aload_n 0, 1) := by decide +kernel
theorem q_60_90 : p_tb 60 90 = some (.getfield 32, 3) := by decide +kernel
theorem q_60_93 : p_tb 60 93 = some (.aload_n 3, 1) := by decide +kernel
theorem q_60_94 : p_tb 60 94 = some (.getfield 165, 3) := by decide +kernel
theorem q_60_97 : p_tb 60 97 = some (.bipush 6, 2) := by decide +kernel
theorem q_60_99 : p_tb 60 99 = some (.imul, 1) := by decide +kernel
theorem q_60_100 : p_tb 60 100 = some (.iload 4, 2) := by decide +kernel
theorem q_60_102 : p_tb 60 102 = some (.iadd, 1) := by decide +kernel
theorem q_60_103 : p_tb 60 103 = some (.dup2, 1) := by decide +kernel
theorem q_60_104 : p_tb 60 104 = some (.iaload, 1) := by decide +kernel
theorem q_60_105 : p_tb 60 105 = some (.iconst 1, 1) := by decide +kernel
theorem q_60_106 : p_tb 60 106 = some (.iadd, 1) := by decide +kernel
theorem q_60_107 : p_tb 60 107 = some (.iastore, 1) := by decide +kernel
theorem q_60_108 : p_tb 60 108 = some (.aload_n 3, 1) := by decide +kernel
theorem q_60_109 : p_tb 60 109 = some (.iload 4, 2) := by decide +kernel
theorem q_60_111 : p_tb 60 111 = some (.aload_n 0, 1) := by decide +kernel
theorem q_60_112 : p_tb 60 112 = some (.getfield 36, 3) := by decide +kernel
theorem q_60_115 : p_tb 60 115 = some (.invokevirtual 168, 3) := by decide +kernel
theorem q_60_118 : p_tb 60 118 = some (.aload_n 3, 1) := by decide +kernel
theorem q_60_119 : p_tb 60 119 = some (.aload_n 1, 1) := by decide +kernel
theorem q_60_120 : p_tb 60 120 = some (.getfield 171, 3) := by decide +kernel
theorem q_60_123 : p_tb 60 123 = some (.iload_n 2, 1) := by decide +kernel
theorem q_60_124 : p_tb 60 124 = some (.iaload, 1) := by decide +kernel
theorem q_60_125 : p_tb 60 125 = some (.putfield 151, 3) := by decide +kernel
theorem q_60_128 : p_tb 60 128 = some (.aload_n 3, 1) := by decide +kernel
theorem q_60_129 : p_tb 60 129 = some (.aload_n 1, 1) := by decide +kernel
theorem q_60_130 : p_tb 60 130 = some (.getfield 174, 3) := by decide +kernel
theorem q_60_133 : p_tb 60 133 = some (.iload_n 2, 1) := by decide +kernel
theorem q_60_134 : p_tb 60 134 = some (.iaload, 1) := by decide +kernel
theorem q_60_135 : p_tb 60 135 = some (.invokevirtual 177, 3) := by decide +kernel
theorem q_60_138 : p_tb 60 138 = some (.aload_n 0, 1) := by decide +kernel
theorem q_60_139 : p_tb 60 139 = some (.getfield 20, 3) := by decide +kernel
theorem q_60_142 : p_tb 60 142 = some (.iload 4, 2) := by decide +kernel
theorem q_60_144 : p_tb 60 144 = some (.aaload, 1) := by decide +kernel
theorem q_60_145 : p_tb 60 145 = some (.dup, 1) := by decide +kernel
theorem q_60_146 : p_tb 60 146 = some (.getfield 181, 3) := by decide +kernel
theorem q_60_149 : p_tb 60 149 = some (.iconst 1, 1) := by decide +kernel
theorem q_60_150 : p_tb 60 150 = some (.iadd, 1) := by decide +kernel
theorem q_60_151 : p_tb 60 151 = some (.putfield 181, 3) := by decide +kernel
theorem q_60_154 : p_tb 60 154 = some (.aload_n 0, 1) := by decide +kernel
theorem q_60_155 : p_tb 60 155 = some (.getfield 20, 3) := by decide +kernel
theorem q_60_158 : p_tb 60 158 = some (.iload 4, 2) := by decide +kernel
theorem q_60_160 : p_tb 60 160 = some (.aaload, 1) := by decide +kernel
theorem q_60_161 : p_tb 60 161 = some (.aload_n 0, 1) := by decide +kernel
theorem q_60_162 : p_tb 60 162 = some (.getfield 36, 3) := by decide +kernel
theorem q_60_165 : p_tb 60 165 = some (.putfield 136, 3) := by decide +kernel
theorem q_60_168 : p_tb 60 168 = some (.aload_n 0, 1) := by decide +kernel
theorem q_60_169 : p_tb 60 169 = some (.getfield 9, 3) := by decide +kernel
theorem q_60_172 : p_tb 60 172 = some (.iload 4, 2) := by decide +kernel
theorem q_60_174 : p_tb 60 174 = some (.if_icmp .ne 8, 3) := by decide +kernel
theorem q_60_177 : p_tb 60 177 = some (.aload_n 0, 1) := by decide +kernel
theorem q_60_178 : p_tb 60 178 = some (.iconst (-1), 1) := by decide +kernel
theorem q_60_179 : p_tb 60 179 = some (.putfield 9, 3) := by decide +kernel
theorem q_60_182 : p_tb 60 182 = some (.return_, 1) := by decide +kernel
theorem t_fN_60_117 : p_f2 p_fN (p_mK 60) 117 = some (3, 6) := by decide +kernel
theorem t_fN_60_136 : p_f2 p_fN (p_mK 60) 136 = some (8, 7) := by decide +kernel
theorem t_fN_60_151 : p_f2 p_fN (p_mK 60) 151 = some (0, 5) := by decide +kernel
theorem t_fN_60_154 : p_f2 p_fN (p_mK 60) 154 = some (3, 16) := by decide +kernel
theorem t_fN_60_165 : p_f2 p_fN (p_mK 60) 165 = some (0, 6) := by decide +kernel
theorem t_fN_60_171 : p_f2 p_fN (p_mK 60) 171 = some (3, 15) := by decide +kernel
theorem t_fN_60_174 : p_f2 p_fN (p_mK 60) 174 = some (3, 17) := by decide +kernel
theorem t_fN_60_181 : p_f2 p_fN (p_mK 60) 181 = some (8, 5) := by decide +kernel
theorem t_fN_60_76 : p_f2 p_fN (p_mK 60) 76 = some (8, 0) := by decide +kernel
theorem t_fN_60_94 : p_f2 p_fN (p_mK 60) 94 = some (0, 4) := by decide +kernel
theorem t_ft_60_20 : p_f2 p_ft (p_mK 60) 20 = some (5, 3) := by decide +kernel
theorem t_ft_60_27 : p_f2 p_ft (p_mK 60) 27 = some (5, 4) := by decide +kernel
theorem t_ft_60_32 : p_f2 p_ft (p_mK 60) 32 = some (5, 5) := by decide +kernel
theorem t_ft_60_36 : p_f2 p_ft (p_mK 60) 36 = some (5, 0) := by decide +kernel
theorem t_ft_60_9 : p_f2 p_ft (p_mK 60) 9 = some (5, 1) := by decide +kernel
theorem t_mv_60_157 : p_f2 p_mv (p_mK 60) 157 = some 61 := by decide +kernel
theorem t_mv_60_161 : p_f2 p_mv (p_mK 60) 161 = some 4 := by decide +kernel
theorem t_mv_60_168 : p_f2 p_mv (p_mK 60) 168 = some 5 := by decide +kernel
theorem t_mv_60_177 : p_f2 p_mv (p_mK 60) 177 = some 7 := by decide +kernel
theorem gC_13_0_35 : gC 13 0 35 (-2147483648) 2147483647 := gC.of (by decide +kernel)
theorem q_56_0 : p_tb 56 0 = some (.aload_n 0, 1) := by decide +kernel
theorem q_56_1 : p_tb 56 1 = some (.getfield 36, 3) := by decide +kernel
theorem q_56_4 : p_tb 56 4 = some (.sipush 600, 3) := by decide +kernel
theorem q_56_7 : p_tb 56 7 = some (.if_icmp .lt 5, 3) := by decide +kernel
theorem q_56_10 : p_tb 56 10 = some (.iconst 0, 1) := by decide +kernel
theorem q_56_11 : p_tb 56 11 = some (.ireturn, 1) := by decide +kernel
theorem q_56_12 : p_tb 56 12 = some (.iconst 0, 1) := by decide +kernel
theorem q_56_13 : p_tb 56 13 = some (.istore_n 2, 1) := by decide +kernel
theorem q_56_14 : p_tb 56 14 = some (.iload_n 2, 1) := by decide +kernel
theorem q_56_15 : p_tb 56 15 = some (.aload_n 1, 1) := by decide +kernel
theorem q_56_16 : p_tb 56 16 = some (.getfield 117, 3) := by decide +kernel
theorem q_56_19 : p_tb 56 19 = some (.if_icmp .ge 28, 3) := by decide +kernel
theorem q_56_22 : p_tb 56 22 = some (.aload_n 0, 1) := by decide +kernel
theorem q_56_23 : p_tb 56 23 = some (.getfield 20, 3) := by decide +kernel
theorem q_56_26 : p_tb 56 26 = some (.iload_n 2, 1) := by decide +kernel
theorem q_56_27 : p_tb 56 27 = some (.aaload, 1) := by decide +kernel
theorem q_56_28 : p_tb 56 28 = some (.aload_n 1, 1) := by decide +kernel
theorem q_56_29 : p_tb 56 29 = some (.getfield 119, 3) := by decide +kernel
theorem q_56_32 : p_tb 56 32 = some (.iload_n 2, 1) := by decide +kernel
theorem q_56_33 : p_tb 56 33 = some (.iaload, 1) := by decide +kernel
theorem q_56_34 : p_tb 56 34 = some (.aload_n 1, 1) := by decide +kernel
theorem q_56_35 : p_tb 56 35 = some (.getfield 122, 3) := by decide +kernel
theorem q_56_38 : p_tb 56 38 = some (.invokevirtual 125, 3) := by decide +kernel
theorem q_56_41 : p_tb 56 41 = some (.iinc 2 1, 3) := by decide +kernel
theorem q_56_44 : p_tb 56 44 = some (.goto (-30), 3) := by decide +kernel
theorem q_56_47 : p_tb 56 47 = some (.iconst 0, 1) := by decide +kernel
theorem q_56_48 : p_tb 56 48 = some (.istore_n 2, 1) := by decide +kernel
theorem q_56_49 : p_tb 56 49 = some (.iload_n 2, 1) := by decide +kernel
theorem q_56_50 : p_tb 56 50 = some (.aload_n 1, 1) := by decide +kernel
theorem q_56_51 : p_tb 56 51 = some (.getfield 52, 3) := by decide +kernel
theorem q_56_54 : p_tb 56 54 = some (.if_icmp .ge 15, 3) := by decide +kernel
theorem q_56_57 : p_tb 56 57 = some (.aload_n 0, 1) := by decide +kernel
theorem q_56_58 : p_tb 56 58 = some (.aload_n 1, 1) := by decide +kernel
theorem q_56_59 : p_tb 56 59 = some (.iload_n 2, 1) := by decide +kernel
theorem q_56_60 : p_tb 56 60 = some (.invokevirtual 129, 3) := by decide +kernel
theorem q_56_63 : p_tb 56 63 = some (.iinc 2 1, 3) := by decide +kernel
theorem q_56_66 : p_tb 56 66 = some (.goto (-17), 3) := by decide +kernel
theorem q_56_69 : p_tb 56 69 = some (.iconst 0, 1) := by decide +kernel
theorem q_56_70 : p_tb 56 70 = some (.istore_n 2, 1) := by decide +kernel
theorem q_56_71 : p_tb 56 71 = some (.iload_n 2, 1) := by decide +kernel
theorem q_56_72 : p_tb 56 72 = some (.aload_n 1, 1) := by decide +kernel
theorem q_56_73 : p_tb 56 73 = some (.getfield 117, 3) := by decide +kernel
theorem q_56_76 : p_tb 56 76 = some (.if_icmp .ge 52, 3) := by decide +kernel
theorem q_56_79 : p_tb 56 79 = some (.aload_n 0, 1) := by decide +kernel
theorem q_56_80 : p_tb 56 80 = some (.getfield 20, 3) := by decide +kernel
theorem q_56_83 : p_tb 56 83 = some (.iload_n 2, 1) := by decide +kernel
theorem q_56_84 : p_tb 56 84 = some (.aaload, 1) := by decide +kernel
theorem q_56_85 : p_tb 56 85 = some (.aload_n 1, 1) := by decide +kernel
theorem q_56_86 : p_tb 56 86 = some (.getfield 133, 3) := by decide +kernel
theorem q_56_89 : p_tb 56 89 = some (.iconst (-1), 1) := by decide +kernel
theorem q_56_90 : p_tb 56 90 = some (.if_icmp .eq 28, 3) := by decide +kernel
theorem q_56_93 : p_tb 56 93 = some (.aload_n 0, 1) := by decide +kernel
theorem q_56_94 : p_tb 56 94 = some (.getfield 36, 3) := by decide +kernel
theorem q_56_97 : p_tb 56 97 = some (.aload_n 0, 1) := by decide +kernel
theorem q_56_98 : p_tb 56 98 = some (.getfield 20, 3) := by decide +kernel
theorem q_56_101 : p_tb 56 101 = some (.iload_n 2, 1) := by decide +kernel
theorem q_56_102 : p_tb 56 102 = some (.aaload, 1) := by decide +kernel
theorem q_56_103 : p_tb 56 103 = some (.getfield 136, 3) := by decide +kernel
theorem q_56_106 : p_tb 56 106 = some (.isub, 1) := by decide +kernel
theorem q_56_107 : p_tb 56 107 = some (.aload_n 1, 1) := by decide +kernel
theorem q_56_108 : p_tb 56 108 = some (.getfield 133, 3) := by decide +kernel
theorem q_56_111 : p_tb 56 111 = some (.if_icmp .lt 7, 3) := by decide +kernel
theorem q_56_114 : p_tb 56 114 = some (.iconst 1, 1) := by decide +kernel
theorem q_56_115 : p_tb 56 115 = some (.goto 4, 3) := by decide +kernel
theorem q_56_118 : p_tb 56 118 = some (.iconst 0, 1) := by decide +kernel
theorem q_56_119 : p_tb 56 119 = some (.putfield 84, 3) := by decide +kernel
theorem q_56_122 : p_tb 56 122 = some (.iinc 2 1, 3) := by decide +kernel
theorem q_56_125 : p_tb 56 125 = some (.goto (-54), 3) := by decide +kernel
theorem q_56_128 : p_tb 56 128 = some (.aload_n 0, 1) := by decide +kernel
theorem q_56_129 : p_tb 56 129 = some (.dup, 1) := by decide +kernel
theorem q_56_130 : p_tb 56 130 = some (.getfield 36, 3) := by decide +kernel
theorem q_56_133 : p_tb 56 133 = some (.iconst 1, 1) := by decide +kernel
theorem q_56_134 : p_tb 56 134 = some (.iadd, 1) := by decide +kernel
theorem q_56_135 : p_tb 56 135 = some (.putfield 36, 3) := by decide +kernel
theorem q_56_138 : p_tb 56 138 = some (.iconst 1, 1) := by decide +kernel
theorem q_56_139 : p_tb 56 139 = some (.ireturn, 1) := by decide +kernel
theorem t_fN_56_117 : p_f2 p_fN (p_mK 56) 117 = some (3, 6) := by decide +kernel
theorem t_fN_56_119 : p_f2 p_fN (p_mK 56) 119 = some (3, 10) := by decide +kernel
theorem t_fN_56_122 : p_f2 p_fN (p_mK 56) 122 = some (3, 1) := by decide +kernel
theorem t_fN_56_133 : p_f2 p_fN (p_mK 56) 133 = some (3, 3) := by decide +kernel
theorem t_fN_56_136 : p_f2 p_fN (p_mK 56) 136 = some (8, 7) := by decide +kernel
theorem t_fN_56_52 : p_f2 p_fN (p_mK 56) 52 = some (3, 7) := by decide +kernel
theorem t_fN_56_84 : p_f2 p_fN (p_mK 56) 84 = some (8, 3) := by decide +kernel
theorem t_ft_56_20 : p_f2 p_ft (p_mK 56) 20 = some (5, 3) := by decide +kernel
theorem t_ft_56_36 : p_f2 p_ft (p_mK 56) 36 = some (5, 0) := by decide +kernel
theorem t_mv_56_125 : p_f2 p_mv (p_mK 56) 125 = some 96 := by decide +kernel
theorem t_mv_56_129 : p_f2 p_mv (p_mK 56) 129 = some 60 := by decide +kernel
theorem q_48_0 : p_tb 48 0 = some (.aload_n 0, 1) := by decide +kernel
theorem q_48_1 : p_tb 48 1 = some (.aload_n 1, 1) := by decide +kernel
theorem q_48_2 : p_tb 48 2 = some (.getfield 36, 3) := by decide +kernel
theorem q_48_5 : p_tb 48 5 = some (.putfield 36, 3) := by decide +kernel
theorem q_48_8 : p_tb 48 8 = some (.aload_n 0, 1) := by decide +kernel
theorem q_48_9 : p_tb 48 9 = some (.aload_n 1, 1) := by decide +kernel
theorem q_48_10 : p_tb 48 10 = some (.getfield 9, 3) := by decide +kernel
theorem q_48_13 : p_tb 48 13 = some (.putfield 9, 3) := by decide +kernel
theorem q_48_16 : p_tb 48 16 = some (.aload_n 0, 1) := by decide +kernel
theorem q_48_17 : p_tb 48 17 = some (.aload_n 1, 1) := by decide +kernel
theorem q_48_18 : p_tb 48 18 = some (.getfield 15, 3) := by decide +kernel
theorem q_48_21 : p_tb 48 21 = some (.putfield 15, 3) := by decide +kernel
theorem q_48_24 : p_tb 48 24 = some (.iconst 0, 1) := by decide +kernel
theorem q_48_25 : p_tb 48 25 = some (.istore_n 2, 1) := by decide +kernel
theorem q_48_26 : p_tb 48 26 = some (.iload_n 2, 1) := by decide +kernel
theorem q_48_27 : p_tb 48 27 = some (.bipush 6, 2) := by decide +kernel
theorem q_48_29 : p_tb 48 29 = some (.if_icmp .ge 24, 3) := by decide +kernel
theorem q_48_32 : p_tb 48 32 = some (.aload_n 0, 1) := by decide +kernel
theorem q_48_33 : p_tb 48 33 = some (.getfield 20, 3) := by decide +kernel
theorem q_48_36 : p_tb 48 36 = some (.iload_n 2, 1) := by decide +kernel
theorem q_48_37 : p_tb 48 37 = some (.aaload, 1) := by decide +kernel
theorem q_48_38 : p_tb 48 38 = some (.aload_n 1, 1) := by decide +kernel
theorem q_48_39 : p_tb 48 39 = some (.getfield 20, 3) := by decide +kernel
theorem q_48_42 : p_tb 48 42 = some (.iload_n 2, 1) := by decide +kernel
theorem q_48_43 : p_tb 48 43 = some (.aaload, 1) := by decide +kernel
theorem q_48_44 : p_tb 48 44 = some (.invokevirtual 63, 3) := by decide +kernel
theorem q_48_47 : p_tb 48 47 = some (.iinc 2 1, 3) := by decide +kernel
theorem q_48_50 : p_tb 48 50 = some (.goto (-24), 3) := by decide +kernel
theorem q_48_53 : p_tb 48 53 = some (.iconst 0, 1) := by decide +kernel
theorem q_48_54 : p_tb 48 54 = some (.istore_n 2, 1) := by decide +kernel
theorem q_48_55 : p_tb 48 55 = some (.iload_n 2, 1) := by decide +kernel
theorem q_48_56 : p_tb 48 56 = some (.iconst 2, 1) := by decide +kernel
theorem q_48_57 : p_tb 48 57 = some (.if_icmp .ge 24, 3) := by decide +kernel
theorem q_48_60 : p_tb 48 60 = some (.aload_n 0, 1) := by decide +kernel
theorem q_48_61 : p_tb 48 61 = some (.getfield 27, 3) := by decide +kernel
theorem q_48_64 : p_tb 48 64 = some (.iload_n 2, 1) := by decide +kernel
theorem q_48_65 : p_tb 48 65 = some (.aaload, 1) := by decide +kernel
theorem q_48_66 : p_tb 48 66 = some (.aload_n 1, 1) := by decide +kernel
theorem q_48_67 : p_tb 48 67 = some (.getfield 27, 3) := by decide +kernel
theorem q_48_70 : p_tb 48 70 = some (.iload_n 2, 1) := by decide +kernel
theorem q_48_71 : p_tb 48 71 = some (.aaload, 1) := by decide +kernel
theorem q_48_72 : p_tb 48 72 = some (.invokevirtual 67, 3) := by decide +kernel
theorem q_48_75 : p_tb 48 75 = some (.iinc 2 1, 3) := by decide +kernel
theorem q_48_78 : p_tb 48 78 = some (.goto (-23), 3) := by decide +kernel
theorem q_48_81 : p_tb 48 81 = some (.aload_n 1, 1) := by decide +kernel
theorem q_48_82 : p_tb 48 82 = some (.getfield 32, 3) := by decide +kernel
theorem q_48_85 : p_tb 48 85 = some (.iconst 0, 1) := by decide +kernel
theorem q_48_86 : p_tb 48 86 = some (.aload_n 0, 1) := by decide +kernel
theorem q_48_87 : p_tb 48 87 = some (.getfield 32, 3) := by decide +kernel
theorem q_48_90 : p_tb 48 90 = some (.iconst 0, 1) := by decide +kernel
theorem q_48_91 : p_tb 48 91 = some (.aload_n 0, 1) := by decide +kernel
theorem q_48_92 : p_tb 48 92 = some (.getfield 32, 3) := by decide +kernel
theorem q_48_95 : p_tb 48 95 = some (.arraylength, 1) := by decide +kernel
theorem q_48_96 : p_tb 48 96 = some (.invokestatic 70, 3) := by decide +kernel
theorem q_48_99 : p_tb 48 99 = some (.return_, 1) := by decide +kernel
theorem t_ft_48_15 : p_f2 p_ft (p_mK 48) 15 = some (5, 2) := by decide +kernel
theorem t_ft_48_20 : p_f2 p_ft (p_mK 48) 20 = some (5, 3) := by decide +kernel
theorem t_ft_48_27 : p_f2 p_ft (p_mK 48) 27 = some (5, 4) := by decide +kernel
theorem t_ft_48_32 : p_f2 p_ft (p_mK 48) 32 = some (5, 5) := by decide +kernel
theorem t_ft_48_36 : p_f2 p_ft (p_mK 48) 36 = some (5, 0) := by decide +kernel
theorem t_ft_48_9 : p_f2 p_ft (p_mK 48) 9 = some (5, 1) := by decide +kernel
theorem t_mj_48_70 : p_f2 p_mj (p_mK 48) 70 = some 4 := by decide +kernel
theorem t_mv_48_63 : p_f2 p_mv (p_mK 48) 63 = some 95 := by decide +kernel
theorem t_mv_48_67 : p_f2 p_mv (p_mK 48) 67 = some 3 := by decide +kernel
theorem q_47_0 : p_tb 47 0 = some (.aload_n 0, 1) := by decide +kernel
theorem q_47_1 : p_tb 47 1 = some (.iconst 0, 1) := by decide +kernel
theorem q_47_2 : p_tb 47 2 = some (.putfield 36, 3) := by decide +kernel
theorem q_47_5 : p_tb 47 5 = some (.aload_n 0, 1) := by decide +kernel
theorem q_47_6 : p_tb 47 6 = some (.iconst (-1), 1) := by decide +kernel
theorem q_47_7 : p_tb 47 7 = some (.putfield 9, 3) := by decide +kernel
theorem q_47_10 : p_tb 47 10 = some (.aload_n 0, 1) := by decide +kernel
theorem q_47_11 : p_tb 47 11 = some (.iconst (-1), 1) := by decide +kernel
theorem q_47_12 : p_tb 47 12 = some (.putfield 15, 3) := by decide +kernel
theorem q_47_15 : p_tb 47 15 = some (.iconst 0, 1) := by decide +kernel
theorem q_47_16 : p_tb 47 16 = some (.istore_n 2, 1) := by decide +kernel
theorem q_47_17 : p_tb 47 17 = some (.iload_n 2, 1) := by decide +kernel
theorem q_47_18 : p_tb 47 18 = some (.bipush 6, 2) := by decide +kernel
theorem q_47_20 : p_tb 47 20 = some (.if_icmp .ge 30, 3) := by decide +kernel
theorem q_47_23 : p_tb 47 23 = some (.aload_n 0, 1) := by decide +kernel
theorem q_47_24 : p_tb 47 24 = some (.getfield 20, 3) := by decide +kernel
theorem q_47_27 : p_tb 47 27 = some (.iload_n 2, 1) := by decide +kernel
theorem q_47_28 : p_tb 47 28 = some (.aaload, 1) := by decide +kernel
theorem q_47_29 : p_tb 47 29 = some (.aload_n 1, 1) := by decide +kernel
theorem q_47_30 : p_tb 47 30 = some (.getfield 39, 3) := by decide +kernel
theorem q_47_33 : p_tb 47 33 = some (.iload_n 2, 1) := by decide +kernel
theorem q_47_34 : p_tb 47 34 = some (.iaload, 1) := by decide +kernel
theorem q_47_35 : p_tb 47 35 = some (.aload_n 1, 1) := by decide +kernel
theorem q_47_36 : p_tb 47 36 = some (.getfield 44, 3) := by decide +kernel
theorem q_47_39 : p_tb 47 39 = some (.iload_n 2, 1) := by decide +kernel
theorem q_47_40 : p_tb 47 40 = some (.baload, 1) := by decide +kernel
theorem q_47_41 : p_tb 47 41 = some (.invokevirtual 48, 3) := by decide +kernel
theorem q_47_44 : p_tb 47 44 = some (.iinc 2 1, 3) := by decide +kernel
theorem q_47_47 : p_tb 47 47 = some (.goto (-30), 3) := by decide +kernel
theorem q_47_50 : p_tb 47 50 = some (.iconst 0, 1) := by decide +kernel
theorem q_47_51 : p_tb 47 51 = some (.istore_n 2, 1) := by decide +kernel
theorem q_47_52 : p_tb 47 52 = some (.iload_n 2, 1) := by decide +kernel
theorem q_47_53 : p_tb 47 53 = some (.iconst 2, 1) := by decide +kernel
theorem q_47_54 : p_tb 47 54 = some (.if_icmp .ge 71, 3) := by decide +kernel
theorem q_47_57 : p_tb 47 57 = some (.iload_n 2, 1) := by decide +kernel
theorem q_47_58 : p_tb 47 58 = some (.aload_n 1, 1) := by decide +kernel
theorem q_47_59 : p_tb 47 59 = some (.getfield 52, 3) := by decide +kernel
theorem q_47_62 : p_tb 47 62 = some (.if_icmp .ge 7, 3) := by decide +kernel
theorem q_47_65 : p_tb 47 65 = some (.iconst 1, 1) := by decide +kernel
theorem q_47_66 : p_tb 47 66 = some (.goto 4, 3) := by decide +kernel
theorem q_47_69 : p_tb 47 69 = some (.iconst 0, 1) := by decide +kernel
theorem q_47_70 : p_tb 47 70 = some (.istore_n 3, 1) := by decide +kernel
theorem q_47_71 : p_tb 47 71 = some (.iload_n 3, 1) := by decide +kernel
theorem q_47_72 : p_tb 47 72 = some (.ifCond .eq 12, 3) := by decide +kernel
theorem q_47_75 : p_tb 47 75 = some (.aload_n 1, 1) := by decide +kernel
theorem q_47_76 : p_tb 47 76 = some (.getfield 54, 3) := by decide +kernel
theorem q_47_79 : p_tb 47 79 = some (.iload_n 2, 1) := by decide +kernel
theorem q_47_80 : p_tb 47 80 = some (.iaload, 1) := by decide +kernel
theorem q_47_81 : p_tb 47 81 = some (.goto 4, 3) := by decide +kernel
theorem q_47_84 : p_tb 47 84 = some (.iconst 0, 1) := by decide +kernel
theorem q_47_85 : p_tb 47 85 = some (.istore 4, 2) := by decide +kernel
theorem q_47_87 : p_tb 47 87 = some (.aload_n 0, 1) := by decide +kernel
theorem q_47_88 : p_tb 47 88 = some (.getfield 27, 3) := by decide +kernel
theorem q_47_91 : p_tb 47 91 = some (.iload_n 2, 1) := by decide +kernel
theorem q_47_92 : p_tb 47 92 = some (.aaload, 1) := by decide +kernel
theorem q_47_93 : p_tb 47 93 = some (.aload_n 1, 1) := by decide +kernel
theorem q_47_94 : p_tb 47 94 = some (.getfield 39, 3) := by decide +kernel
theorem q_47_97 : p_tb 47 97 = some (.iload 4, 2) := by decide +kernel
theorem q_47_99 : p_tb 47 99 = some (.iaload, 1) := by decide +kernel
theorem q_47_100 : p_tb 47 100 = some (.iload_n 3, 1) := by decide +kernel
theorem q_47_101 : p_tb 47 101 = some (.ifCond .eq 12, 3) := by decide +kernel
theorem q_47_104 : p_tb 47 104 = some (.aload_n 1, 1) := by decide +kernel
theorem q_47_105 : p_tb 47 105 = some (.getfield 57, 3) := by decide +kernel
theorem q_47_108 : p_tb 47 108 = some (.iload_n 2, 1) := by decide +kernel
theorem q_47_109 : p_tb 47 109 = some (.iaload, 1) := by decide +kernel
theorem q_47_110 : p_tb 47 110 = some (.goto 4, 3) := by decide +kernel
theorem q_47_113 : p_tb 47 113 = some (.iconst 1, 1) := by decide +kernel
theorem q_47_114 : p_tb 47 114 = some (.iload 4, 2) := by decide +kernel
theorem q_47_116 : p_tb 47 116 = some (.invokevirtual 60, 3) := by decide +kernel
theorem q_47_119 : p_tb 47 119 = some (.iinc 2 1, 3) := by decide +kernel
theorem q_47_122 : p_tb 47 122 = some (.goto (-70), 3) := by decide +kernel
theorem q_47_125 : p_tb 47 125 = some (.iconst 0, 1) := by decide +kernel
theorem q_47_126 : p_tb 47 126 = some (.istore_n 2, 1) := by decide +kernel
theorem q_47_127 : p_tb 47 127 = some (.iload_n 2, 1) := by decide +kernel
theorem q_47_128 : p_tb 47 128 = some (.aload_n 0, 1) := by decide +kernel
theorem q_47_129 : p_tb 47 129 = some (.getfield 32, 3) := by decide +kernel
theorem q_47_132 : p_tb 47 132 = some (.arraylength, 1) := by decide +kernel
theorem q_47_133 : p_tb 47 133 = some (.if_icmp .ge 16, 3) := by decide +kernel
theorem q_47_136 : p_tb 47 136 = some (.aload_n 0, 1) := by decide +kernel
theorem q_47_137 : p_tb 47 137 = some (.getfield 32, 3) := by decide +kernel
theorem q_47_140 : p_tb 47 140 = some (.iload_n 2, 1) := by decide +kernel
theorem q_47_141 : p_tb 47 141 = some (.iconst 0, 1) := by decide +kernel
theorem q_47_142 : p_tb 47 142 = some (.iastore, 1) := by decide +kernel
theorem q_47_143 : p_tb 47 143 = some (.iinc 2 1, 3) := by decide +kernel
theorem q_47_146 : p_tb 47 146 = some (.goto (-19), 3) := by decide +kernel
theorem q_47_149 : p_tb 47 149 = some (.return_, 1) := by decide +kernel
theorem t_fN_47_39 : p_f2 p_fN (p_mK 47) 39 = some (3, 9) := by decide +kernel
theorem t_fN_47_44 : p_f2 p_fN (p_mK 47) 44 = some (3, 11) := by decide +kernel
theorem t_fN_47_52 : p_f2 p_fN (p_mK 47) 52 = some (3, 7) := by decide +kernel
theorem t_fN_47_54 : p_f2 p_fN (p_mK 47) 54 = some (3, 13) := by decide +kernel
theorem t_fN_47_57 : p_f2 p_fN (p_mK 47) 57 = some (3, 14) := by decide +kernel
theorem t_ft_47_15 : p_f2 p_ft (p_mK 47) 15 = some (5, 2) := by decide +kernel
theorem t_ft_47_20 : p_f2 p_ft (p_mK 47) 20 = some (5, 3) := by decide +kernel
theorem t_ft_47_27 : p_f2 p_ft (p_mK 47) 27 = some (5, 4) := by decide +kernel
theorem t_ft_47_32 : p_f2 p_ft (p_mK 47) 32 = some (5, 5) := by decide +kernel
theorem t_ft_47_36 : p_f2 p_ft (p_mK 47) 36 = some (5, 0) := by decide +kernel
theorem t_ft_47_9 : p_f2 p_ft (p_mK 47) 9 = some (5, 1) := by decide +kernel
theorem t_mv_47_48 : p_f2 p_mv (p_mK 47) 48 = some 94 := by decide +kernel
theorem t_mv_47_60 : p_f2 p_mv (p_mK 47) 60 = some 1 := by decide +kernel
theorem gB_30_0_5 : gB 30 0 5 0 1 := gB.of (by decide +kernel)
theorem gB_32_0_0 : gB 32 0 0 (-1) 5 := gB.of (by decide +kernel)
theorem gB_32_1_1 : gB 32 1 1 (-1) 5 := gB.of (by decide +kernel)
theorem q_57_0 : p_tb 57 0 = some (.iconst 0, 1) := by decide +kernel
theorem q_57_1 : p_tb 57 1 = some (.istore_n 3, 1) := by decide +kernel
theorem q_57_2 : p_tb 57 2 = some (.iload_n 3, 1) := by decide +kernel
theorem q_57_3 : p_tb 57 3 = some (.iload_n 2, 1) := by decide +kernel
theorem q_57_4 : p_tb 57 4 = some (.if_icmp .ge 15, 3) := by decide +kernel
theorem q_57_7 : p_tb 57 7 = some (.aload_n 0, 1) := by decide +kernel
theorem q_57_8 : p_tb 57 8 = some (.aload_n 1, 1) := by decide +kernel
theorem q_57_9 : p_tb 57 9 = some (.invokevirtual 139, 3) := by decide +kernel
theorem q_57_12 : p_tb 57 12 = some (.pop, 1) := by decide +kernel
theorem q_57_13 : p_tb 57 13 = some (.iinc 3 1, 3) := by decide +kernel
theorem q_57_16 : p_tb 57 16 = some (.goto (-14), 3) := by decide +kernel
theorem q_57_19 : p_tb 57 19 = some (.return_, 1) := by decide +kernel
theorem t_mv_57_139 : p_f2 p_mv (p_mK 57) 139 = some 56 := by decide +kernel
theorem q_58_0 : p_tb 58 0 = some (.iload_n 3, 1) := by decide +kernel
theorem q_58_1 : p_tb 58 1 = some (.istore 4, 2) := by decide +kernel
theorem q_58_3 : p_tb 58 3 = some (.iconst 0, 1) := by decide +kernel
theorem q_58_4 : p_tb 58 4 = some (.istore 5, 2) := by decide +kernel
theorem q_58_6 : p_tb 58 6 = some (.iload 5, 2) := by decide +kernel
theorem q_58_8 : p_tb 58 8 = some (.iload_n 2, 1) := by decide +kernel
theorem q_58_9 : p_tb 58 9 = some (.if_icmp .ge 68, 3) := by decide +kernel
theorem q_58_12 : p_tb 58 12 = some (.aload_n 0, 1) := by decide +kernel
theorem q_58_13 : p_tb 58 13 = some (.getfield 36, 3) := by decide +kernel
theorem q_58_16 : p_tb 58 16 = some (.sipush 600, 3) := by decide +kernel
theorem q_58_19 : p_tb 58 19 = some (.if_icmp .ge 58, 3) := by decide +kernel
theorem q_58_22 : p_tb 58 22 = some (.iconst 0, 1) := by decide +kernel
theorem q_58_23 : p_tb 58 23 = some (.istore 6, 2) := by decide +kernel
theorem q_58_25 : p_tb 58 25 = some (.iload 6, 2) := by decide +kernel
theorem q_58_27 : p_tb 58 27 = some (.aload_n 1, 1) := by decide +kernel
theorem q_58_28 : p_tb 58 28 = some (.getfield 117, 3) := by decide +kernel
theorem q_58_31 : p_tb 58 31 = some (.if_icmp .ge 34, 3) := by decide +kernel
theorem q_58_34 : p_tb 58 34 = some (.iload 4, 2) := by decide +kernel
theorem q_58_36 : p_tb 58 36 = some (.ldc 143, 2) := by decide +kernel
theorem q_58_38 : p_tb 58 38 = some (.imul, 1) := by decide +kernel
theorem q_58_39 : p_tb 58 39 = some (.sipush 12345, 3) := by decide +kernel
theorem q_58_42 : p_tb 58 42 = some (.iadd, 1) := by decide +kernel
theorem q_58_43 : p_tb 58 43 = some (.istore 4, 2) := by decide +kernel
theorem q_58_45 : p_tb 58 45 = some (.aload_n 0, 1) := by decide +kernel
theorem q_58_46 : p_tb 58 46 = some (.iload 4, 2) := by decide +kernel
theorem q_58_48 : p_tb 58 48 = some (.bipush 8, 2) := by decide +kernel
theorem q_58_50 : p_tb 58 50 = some (.iushr, 1) := by decide +kernel
theorem q_58_51 : p_tb 58 51 = some (.bipush 12, 2) := by decide +kernel
theorem q_58_53 : p_tb 58 53 = some (.irem, 1) := by decide +kernel
theorem q_58_54 : p_tb 58 54 = some (.iload 6, 2) := by decide +kernel
theorem q_58_56 : p_tb 58 56 = some (.invokevirtual 144, 3) := by decide +kernel
theorem q_58_59 : p_tb 58 59 = some (.iinc 6 1, 3) := by decide +kernel
theorem q_58_62 : p_tb 58 62 = some (.goto (-37), 3) := by decide +kernel
theorem q_58_65 : p_tb 58 65 = some (.aload_n 0, 1) := by decide +kernel
theorem q_58_66 : p_tb 58 66 = some (.aload_n 1, 1) := by decide +kernel
theorem q_58_67 : p_tb 58 67 = some (.invokevirtual 139, 3) := by decide +kernel
theorem q_58_70 : p_tb 58 70 = some (.pop, 1) := by decide +kernel
theorem q_58_71 : p_tb 58 71 = some (.iinc 5 1, 3) := by decide +kernel
theorem q_58_74 : p_tb 58 74 = some (.goto (-68), 3) := by decide +kernel
theorem q_58_77 : p_tb 58 77 = some (.return_, 1) := by decide +kernel
theorem t_fN_58_117 : p_f2 p_fN (p_mK 58) 117 = some (3, 6) := by decide +kernel
theorem t_ft_58_36 : p_f2 p_ft (p_mK 58) 36 = some (5, 0) := by decide +kernel
theorem t_it_58_143 : p_f2 p_it (p_mK 58) 143 = some (1103515245) := by decide +kernel
theorem t_mv_58_139 : p_f2 p_mv (p_mK 58) 139 = some 56 := by decide +kernel
theorem t_mv_58_144 : p_f2 p_mv (p_mK 58) 144 = some 59 := by decide +kernel
theorem c_X0_begin (fs fd : Nat → Value) (G : pG) (Kr : pK) (M : pM) (I : Iv (gSp fs fd) M) (k0 : Nat) (hk_k0 : g_kd k0 = 9) (a1 : Int32) (a2 : Int32) (a3 : Int32) (hl_a3 : 0 ≤ a3.toInt) (hh_a3 : a3.toInt ≤ 5) (hK : ∀ (M1 : pM) (fd1 : Nat → Value), (∀ a, a ≠ k0 → fd1 a = fd a) → gvi (fd1 k0) = 0 → Iv (gSp fs fd1) M1 → Fr [9, 10] M M1 → Kr.1 none 311 M1) : PW G false 1 1 (p_mc 1) (p_msl 1) Kr 0 (lv_args 0 [.ref k0, .int a1, .int a2, .int a3]) [] 311 M 0 0 := by
  have F : Fr [9, 10] M M := Fr.refl
  refine PW.aload_n q_1_0 rfl ?_
  refine PW.iload_n q_1_1 rfl ?_
  refine PW.pI q_1_2 (Or.inl t_ft_1_25) gF_9_0 gP_9_0 hk_k0 (gSpS _ _) I (by decide) rfl (n_lo _) (n_hi _) fun M1 IM1 fM1 UM1 => ?_
  have FM1 := Fr.pu F UM1.1 hk_k0 (rfl : List.contains [9, 10] 9 = true)
  refine PW.aload_n q_1_5 rfl ?_
  refine PW.iload_n q_1_6 rfl ?_
  refine PW.pI q_1_7 (Or.inl t_ft_1_28) gF_9_1 gP_9_1 hk_k0 (gSpS _ _) IM1 (by decide) rfl (n_lo _) (n_hi _) fun M2 IM2 fM2 UM2 => ?_
  have FM2 := Fr.pu FM1 UM2.1 hk_k0 (rfl : List.contains [9, 10] 9 = true)
  refine PW.aload_n q_1_10 rfl ?_
  refine PW.cI q_1_11 (by decide) fun c3 hc3 => ?_
  refine PW.pI q_1_12 (Or.inl t_ft_1_31) gF_9_2 gP_9_2 hk_k0 (gSpS _ _) IM2 (by decide) rfl (n_lo _) (n_hi _) fun M4 IM4 fM4 UM4 => ?_
  have FM4 := Fr.pu FM2 UM4.1 hk_k0 (rfl : List.contains [9, 10] 9 = true)
  refine PW.aload_n q_1_15 rfl ?_
  refine PW.cI q_1_16 (by decide) fun c5 hc5 => ?_
  refine PW.pD q_1_17 (Or.inl t_ft_1_34) gF_9_3 gP_9_3 hk_k0 IM4 (by decide) ⟨rfl, rfl⟩ (by omega) (by omega) fun M6 IM6 fM6 UM6 => ?_
  have FM6 := Fr.pu FM4 UM6.1 hk_k0 (rfl : List.contains [9, 10] 9 = true)
  have htz : gvi (.int c5) = 0 := by show c5.toInt = 0; omega
  refine PW.aload_n q_1_20 rfl ?_
  refine PW.cI q_1_21 (by decide) fun c7 hc7 => ?_
  refine PW.pI q_1_22 (Or.inl t_ft_1_9) gF_9_4 gP_9_4 hk_k0 (gSpS _ _) IM6 (by decide) rfl (n_lo _) (n_hi _) fun M8 IM8 fM8 UM8 => ?_
  have FM8 := Fr.pu FM6 UM8.1 hk_k0 (rfl : List.contains [9, 10] 9 = true)
  refine PW.aload_n q_1_25 rfl ?_
  refine PW.cI q_1_26 (by decide) fun c9 hc9 => ?_
  refine PW.pI q_1_27 (Or.inl t_ft_1_37) gF_9_5 gP_9_5 hk_k0 (gSpS _ _) IM8 (by decide) rfl (n_lo _) (n_hi _) fun M10 IM10 fM10 UM10 => ?_
  have FM10 := Fr.pu FM8 UM10.1 hk_k0 (rfl : List.contains [9, 10] 9 = true)
  refine PW.aload_n q_1_30 rfl ?_
  refine PW.iload_n q_1_31 rfl ?_
  refine PW.cV (as := [_]) (rest := []) q_1_32 t_mv_1_40 hk_k0 IM10.1 (by decide) rfl (by decide) rfl rfl (Nat.le_of_ble_eq_true rfl) (Nat.le_of_ble_eq_true rfl) (by decide) (by decide) ?_
  refine PW.up (by decide) (c_X0_sitBy (gSp fs (gUp fd k0 (.int c5))) ((gSpS _ _)) G _ M10 IM10 k0 hk_k0 a3 (by omega) (by omega) fun M11 IM11 GM11 => ?_)
  have FM11 := Fr.trans FM10 GM11 (rfl)
  refine PW.vret q_1_35 rfl (by decide) (by decide) ?_
  exact hK M11 _ (fun a h => gUp_ne h) (by rw [gUp_eq]; show _ = _; exact htz) IM11 FM11
theorem c_X0_copyFrom (fs fd : Nat → Value) (G : pG) (Kr : pK) (M : pM) (I : Iv (gSp fs fd) M) (k0 : Nat) (hk_k0 : g_kd k0 = 9) (k1 : Nat) (hk_k1 : g_kd k1 = 9) (hK : ∀ (M1 : pM) (fd1 : Nat → Value), (∀ a, a ≠ k0 → fd1 a = fd a) → fd1 k0 = fd k1 → Iv (gSp fs fd1) M1 → Fr [9, 10, 11, 12] M M1 → Kr.1 none 311 M1) : PW G false 2 3 (p_mc 3) (p_msl 3) Kr 0 (lv_args 0 [.ref k0, .ref k1]) [] 311 M 0 0 := by
  have F : Fr [9, 10, 11, 12] M M := Fr.refl
  refine PW.aload_n q_3_0 rfl ?_
  refine PW.aload_n q_3_1 rfl ?_
  refine PW.gI q_3_2 (Or.inl t_ft_3_25) gF_9_0 hk_k1 I.1 (by decide) fun x1 fx1 hx1 kx1 => ?_
  clear hx1 kx1
  refine PW.pI q_3_5 (Or.inl t_ft_3_25) gF_9_0 gP_9_0 hk_k0 (gSpS _ _) I (by decide) rfl (n_lo _) (n_hi _) fun M2 IM2 fM2 UM2 => ?_
  have FM2 := Fr.pu F UM2.1 hk_k0 (rfl : List.contains [9, 10, 11, 12] 9 = true)
  refine PW.aload_n q_3_8 rfl ?_
  refine PW.aload_n q_3_9 rfl ?_
  refine PW.gI q_3_10 (Or.inl t_ft_3_28) gF_9_1 hk_k1 IM2.1 (by decide) fun x3 fx3 hx3 kx3 => ?_
  clear hx3 kx3
  refine PW.pI q_3_13 (Or.inl t_ft_3_28) gF_9_1 gP_9_1 hk_k0 (gSpS _ _) IM2 (by decide) rfl (n_lo _) (n_hi _) fun M4 IM4 fM4 UM4 => ?_
  have FM4 := Fr.pu FM2 UM4.1 hk_k0 (rfl : List.contains [9, 10, 11, 12] 9 = true)
  refine PW.aload_n q_3_16 rfl ?_
  refine PW.aload_n q_3_17 rfl ?_
  refine PW.gI q_3_18 (Or.inl t_ft_3_31) gF_9_2 hk_k1 IM4.1 (by decide) fun x5 fx5 hx5 kx5 => ?_
  clear hx5 kx5
  refine PW.pI q_3_21 (Or.inl t_ft_3_31) gF_9_2 gP_9_2 hk_k0 (gSpS _ _) IM4 (by decide) rfl (n_lo _) (n_hi _) fun M6 IM6 fM6 UM6 => ?_
  have FM6 := Fr.pu FM4 UM6.1 hk_k0 (rfl : List.contains [9, 10, 11, 12] 9 = true)
  refine PW.aload_n q_3_24 rfl ?_
  refine PW.aload_n q_3_25 rfl ?_
  refine PW.gI q_3_26 (Or.inl t_ft_3_34) gF_9_3 hk_k1 IM6.1 (by decide) fun x7 fx7 hx7 kx7 => ?_
  have htz : fd k1 = .int x7 := (IM6.2.2.1 k1 hk_k1).symm.trans fx7
  refine PW.pD q_3_29 (Or.inl t_ft_3_34) gF_9_3 gP_9_3 hk_k0 IM6 (by decide) ⟨rfl, rfl⟩ (by omega) (by omega) fun M8 IM8 fM8 UM8 => ?_
  have FM8 := Fr.pu FM6 UM8.1 hk_k0 (rfl : List.contains [9, 10, 11, 12] 9 = true)
  refine PW.aload_n q_3_32 rfl ?_
  refine PW.aload_n q_3_33 rfl ?_
  refine PW.gI q_3_34 (Or.inl t_ft_3_9) gF_9_4 hk_k1 IM8.1 (by decide) fun x9 fx9 hx9 kx9 => ?_
  clear hx9 kx9
  refine PW.pI q_3_37 (Or.inl t_ft_3_9) gF_9_4 gP_9_4 hk_k0 (gSpS _ _) IM8 (by decide) rfl (n_lo _) (n_hi _) fun M10 IM10 fM10 UM10 => ?_
  have FM10 := Fr.pu FM8 UM10.1 hk_k0 (rfl : List.contains [9, 10, 11, 12] 9 = true)
  refine PW.aload_n q_3_40 rfl ?_
  refine PW.aload_n q_3_41 rfl ?_
  refine PW.gI q_3_42 (Or.inl t_ft_3_37) gF_9_5 hk_k1 IM10.1 (by decide) fun x11 fx11 hx11 kx11 => ?_
  clear hx11 kx11
  refine PW.pI q_3_45 (Or.inl t_ft_3_37) gF_9_5 gP_9_5 hk_k0 (gSpS _ _) IM10 (by decide) rfl (n_lo _) (n_hi _) fun M12 IM12 fM12 UM12 => ?_
  have FM12 := Fr.pu FM10 UM12.1 hk_k0 (rfl : List.contains [9, 10, 11, 12] 9 = true)
  refine PW.aload_n q_3_48 rfl ?_
  refine PW.aload_n q_3_49 rfl ?_
  refine PW.gI q_3_50 (Or.inl t_ft_3_44) gF_9_6 hk_k1 IM12.1 (by decide) fun x13 fx13 hx13 kx13 => ?_
  refine PW.pI q_3_53 (Or.inl t_ft_3_44) gF_9_6 gP_9_6 hk_k0 (gSpS _ _) IM12 (by decide) rfl (by omega) (by omega) fun M14 IM14 fM14 UM14 => ?_
  have FM14 := Fr.pu FM12 UM14.1 hk_k0 (rfl : List.contains [9, 10, 11, 12] 9 = true)
  refine PW.aload_n q_3_56 rfl ?_
  refine PW.gRk q_3_57 (Or.inl t_ft_3_15) gF_9_7 hk_k1 IM14.1 (by decide) fun b15 hk_b15 e_b15 => ?_
  refine PW.cI q_3_60 (by decide) fun c16 hc16 => ?_
  refine PW.aload_n q_3_61 rfl ?_
  refine PW.gRk q_3_62 (Or.inl t_ft_3_15) gF_9_7 hk_k0 IM14.1 (by decide) fun b17 hk_b17 e_b17 => ?_
  refine PW.cI q_3_65 (by decide) fun c18 hc18 => ?_
  refine PW.cB q_3_66 (by decide) fun c19 hc19 => ?_
  refine PW.cp q_3_68 t_mj_3_47 gA_10 hk_b15 hk_b17 (gSpS _ _) IM14 (by decide) rfl (by omega) (by omega) (by omega) (by omega) (fun _ _ => rfl) (by decide) (Nat.le_of_ble_eq_true rfl) fun M20 IM20 UM20 => ?_
  have FM20 := Fr.pu FM14 UM20 hk_b17 (rfl : List.contains [9, 10, 11, 12] 10 = true)
  refine PW.aload_n q_3_71 rfl ?_
  refine PW.gRk q_3_72 (Or.inl t_ft_3_19) gF_9_8 hk_k1 IM20.1 (by decide) fun b21 hk_b21 e_b21 => ?_
  refine PW.cI q_3_75 (by decide) fun c22 hc22 => ?_
  refine PW.aload_n q_3_76 rfl ?_
  refine PW.gRk q_3_77 (Or.inl t_ft_3_19) gF_9_8 hk_k0 IM20.1 (by decide) fun b23 hk_b23 e_b23 => ?_
  refine PW.cI q_3_80 (by decide) fun c24 hc24 => ?_
  refine PW.cB q_3_81 (by decide) fun c25 hc25 => ?_
  refine PW.cp q_3_83 t_mj_3_47 gA_11 hk_b21 hk_b23 (gSpS _ _) IM20 (by decide) rfl (by omega) (by omega) (by omega) (by omega) (fun _ _ => rfl) (by decide) (Nat.le_of_ble_eq_true rfl) fun M26 IM26 UM26 => ?_
  have FM26 := Fr.pu FM20 UM26 hk_b23 (rfl : List.contains [9, 10, 11, 12] 11 = true)
  refine PW.aload_n q_3_86 rfl ?_
  refine PW.gRk q_3_87 (Or.inl t_ft_3_22) gF_9_9 hk_k1 IM26.1 (by decide) fun b27 hk_b27 e_b27 => ?_
  refine PW.cI q_3_90 (by decide) fun c28 hc28 => ?_
  refine PW.aload_n q_3_91 rfl ?_
  refine PW.gRk q_3_92 (Or.inl t_ft_3_22) gF_9_9 hk_k0 IM26.1 (by decide) fun b29 hk_b29 e_b29 => ?_
  refine PW.cI q_3_95 (by decide) fun c30 hc30 => ?_
  refine PW.cB q_3_96 (by decide) fun c31 hc31 => ?_
  refine PW.cp q_3_98 t_mj_3_47 gA_12 hk_b27 hk_b29 (gSpS _ _) IM26 (by decide) rfl (by omega) (by omega) (by omega) (by omega) (fun _ _ => rfl) (by decide) (Nat.le_of_ble_eq_true rfl) fun M32 IM32 UM32 => ?_
  have FM32 := Fr.pu FM26 UM32 hk_b29 (rfl : List.contains [9, 10, 11, 12] 12 = true)
  refine PW.vret q_3_101 rfl (by decide) (by decide) ?_
  exact hK M32 _ (fun a h => gUp_ne h) (by rw [gUp_eq]; exact htz.symm) IM32 FM32
theorem c_X0_see (fs fd : Nat → Value) (G : pG) (Kr : pK) (M : pM) (I : Iv (gSp fs fd) M) (k0 : Nat) (hk_k0 : g_kd k0 = 9) (a1 : Int32) (a2 : Int32) (hp_0 : gvi (fd k0) ≤ 599) (hK : ∀ (M1 : pM) (fd1 : Nat → Value), (∀ a, a ≠ k0 → fd1 a = fd a) → gvi (fd1 k0) = gvi (fd k0) + 1 → Iv (gSp fs fd1) M1 → Fr [9, 10, 11, 12] M M1 → Kr.1 none 311 M1) : PW G false 1 5 (p_mc 5) (p_msl 5) Kr 0 (lv_args 0 [.ref k0, .int a1, .int a2]) [] 311 M 0 0 := by
  have F : Fr [9, 10, 11, 12] M M := Fr.refl
  refine PW.aload_n q_5_0 rfl ?_
  refine PW.gRk q_5_1 (Or.inl t_ft_5_19) gF_9_8 hk_k0 I.1 (by decide) fun b1 hk_b1 e_b1 => ?_
  refine PW.aload_n q_5_4 rfl ?_
  refine PW.gI q_5_5 (Or.inl t_ft_5_34) gF_9_3 hk_k0 I.1 (by decide) fun x2 fx2 hx2 kx2 => ?_
  have htz : gvi (fd k0) = x2.toInt := by rw [← I.2.2.1 k0 hk_k0, fx2]; rfl
  refine PW.cB q_5_8 (by decide) fun c3 hc3 => ?_
  refine PW.remP q_5_10 (by omega) (by omega) fun x4 hx4 kx4 ex4 => ?_
  clear ex4
  refine PW.iload_n q_5_11 rfl ?_
  refine PW.wI q_5_12 gA_11 hk_b1 (gSpS _ _) I (by decide) rfl gC_11_0_19 (by decide) (by omega) (by omega) (n_lo _) (n_hi _) fun M5 IM5 fM5 UM5 => ?_
  have FM5 := Fr.pu F UM5.1 hk_b1 (rfl : List.contains [9, 10, 11, 12] 11 = true)
  refine PW.aload_n q_5_13 rfl ?_
  refine PW.gRk q_5_14 (Or.inl t_ft_5_22) gF_9_9 hk_k0 IM5.1 (by decide) fun b6 hk_b6 e_b6 => ?_
  refine PW.aload_n q_5_17 rfl ?_
  refine PW.gE q_5_18 (Or.inl t_ft_5_34) gF_9_3 hk_k0 IM5.1 (by decide) ((congrArg (fun e => o_f e 3) (UM5.1 _ (g_ne hk_k0 hk_b1 (by decide)))).trans fx2) ?_
  refine PW.cB q_5_21 (by decide) fun c7 hc7 => ?_
  refine PW.remP q_5_23 (by omega) (by omega) fun x8 hx8 kx8 ex8 => ?_
  clear ex8
  refine PW.aload_n q_5_24 rfl ?_
  refine PW.gI q_5_25 (Or.inl t_ft_5_25) gF_9_0 hk_k0 IM5.1 (by decide) fun x9 fx9 hx9 kx9 => ?_
  clear hx9 kx9
  refine PW.wI q_5_28 gA_12 hk_b6 (gSpS _ _) IM5 (by decide) rfl gC_12_0_19 (by decide) (by omega) (by omega) (n_lo _) (n_hi _) fun M10 IM10 fM10 UM10 => ?_
  have FM10 := Fr.pu FM5 UM10.1 hk_b6 (rfl : List.contains [9, 10, 11, 12] 12 = true)
  refine PW.aload_n q_5_29 rfl ?_
  refine PW.dup q_5_30 rfl ?_
  refine PW.gE q_5_31 (Or.inl t_ft_5_34) gF_9_3 hk_k0 IM10.1 (by decide) ((congrArg (fun e => o_f e 3) (UM10.1 _ (g_ne hk_k0 hk_b6 (by decide)))).trans ((congrArg (fun e => o_f e 3) (UM5.1 _ (g_ne hk_k0 hk_b1 (by decide)))).trans fx2)) ?_
  refine PW.cI q_5_34 (by decide) fun c11 hc11 => ?_
  refine PW.addN q_5_35 (by omega) (by omega) fun x12 hx12 => ?_
  refine PW.pD q_5_36 (Or.inl t_ft_5_34) gF_9_3 gP_9_3 hk_k0 IM10 (by decide) ⟨rfl, rfl⟩ (by omega) (by omega) fun M13 IM13 fM13 UM13 => ?_
  have FM13 := Fr.pu FM10 UM13.1 hk_k0 (rfl : List.contains [9, 10, 11, 12] 9 = true)
  have hty : gvi (.int x12) = gvi (fd k0) + 1 := by show x12.toInt = _; omega
  refine PW.aload_n q_5_39 rfl ?_
  refine PW.iload_n q_5_40 rfl ?_
  refine PW.iload_n q_5_41 rfl ?_
  refine PW.cV (as := [_, _]) (rest := []) q_5_42 t_mv_5_59 hk_k0 IM13.1 (by decide) rfl (by decide) rfl rfl (Nat.le_of_ble_eq_true rfl) (Nat.le_of_ble_eq_true rfl) (by decide) (by decide) ?_
  refine PW.up (by decide) (c_X0_remember (gSp fs (gUp fd k0 (.int x12))) ((gSpS _ _)) G _ M13 IM13 k0 hk_k0 a1 a2 fun M14 IM14 GM14 => ?_)
  have FM14 := Fr.trans FM13 GM14 (rfl)
  refine PW.aload_n q_5_45 rfl ?_
  refine PW.cI q_5_46 (by decide) fun c15 hc15 => ?_
  refine PW.pI q_5_47 (Or.inl t_ft_5_9) gF_9_4 gP_9_4 hk_k0 (gSpS _ _) IM14 (by decide) rfl (n_lo _) (n_hi _) fun M16 IM16 fM16 UM16 => ?_
  have FM16 := Fr.pu FM14 UM16.1 hk_k0 (rfl : List.contains [9, 10, 11, 12] 9 = true)
  refine PW.vret q_5_50 rfl (by decide) (by decide) ?_
  exact hK M16 _ (fun a h => gUp_ne h) (by rw [gUp_eq]; exact hty) IM16 FM16
theorem c_X5_letRun (fs fd : Nat → Value) (G : pG) (Kr : pK) (M : pM) (I : Iv (gSp fs fd) M) (k0 : Nat) (hk_k0 : g_kd k0 = 5) (k1 : Nat) (hk_k1 : g_kd k1 = 4) (a2 : Int32) (hl_a2 : 0 ≤ a2.toInt) (hh_a2 : a2.toInt ≤ 1) (c : Nat) (hp_0 : c = k0 + 9 + 4 * a2.toInt.toNat) (hp_1 : gvi (fd c) ≤ 599) (hK : ∀ (M1 : pM) (fd1 : Nat → Value), (∀ a, a ≠ c → fd1 a = fd a) → gvi (fd1 c) ≤ gvi (fd c) + 1 → Iv (gSp fs fd1) M1 → Fr [5, 7, 9, 10, 11, 12, 13] M M1 → Kr.1 none 311 M1) : PW G false 3 60 (p_mc 60) (p_msl 60) Kr 0 (lv_args 0 [.ref k0, .ref k1, .int a2]) [] 311 M 0 0 := by
  have F : Fr [5, 7, 9, 10, 11, 12, 13] M M := Fr.refl
  refine PW.aload_n q_60_0 rfl ?_
  refine PW.gRk q_60_1 (Or.inl t_ft_60_27) gF_5_4 hk_k0 I.1 (by decide) fun b1 hk_b1 e_b1 => ?_
  refine PW.iload_n q_60_4 rfl ?_
  refine PW.aRk q_60_5 rfl (by decide) (by decide) hk_b1 I.1 (by decide) (by omega) (by omega) fun b2 hk_b2 e_b2 => ?_
  obtain rfl : b2 = c := by rw [e_b2, e_b1, hp_0]; show k0 + 8 + 1 + 4 * _ = _; omega
  refine PW.astore_n q_60_6 (by decide) ?_
  refine PW.aload_n q_60_7 rfl ?_
  refine PW.gI q_60_8 (Or.inr t_fN_60_151) gF_9_5 hk_b2 I.1 (by decide) fun x3 fx3 hx3 kx3 => ?_
  clear hx3 kx3
  refine PW.jz_le q_60_11 rfl (fun h4 => ?_) (fun h4 => ?_)
  · skip
    refine PW.aload_n q_60_25 rfl ?_
    refine PW.gI q_60_26 (Or.inr t_fN_60_94) gF_9_4 hk_b2 I.1 (by decide) fun x5 fx5 hx5 kx5 => ?_
    clear hx5 kx5
    refine PW.cI q_60_29 (by decide) fun c6 hc6 => ?_
    have J52_8 : ∀ (MJ52_8 : pM), Iv (gSp fs fd) MJ52_8 → Fr [5, 7, 9, 10, 11, 12, 13] M MJ52_8 → o_f (MJ52_8 b2) 5 = .int x3 → PW G false 3 60 (p_mc 60) (p_msl 60) Kr 52 [(0, .ref k0), (1, .ref k1), (2, .int a2), (3, .ref b2)] [] 311 MJ52_8 0 0 := by
      intro MJ52_8  IMJ52_8 FMJ52_8 hbJ52_80
      refine PW.aload_n q_60_52 rfl ?_
      refine PW.gI q_60_53 (Or.inr t_fN_60_94) gF_9_4 hk_b2 IMJ52_8.1 (by decide) fun x9 fx9 hx9 kx9 => ?_
      clear hx9 kx9
      refine PW.istore q_60_56 (by decide) ?_
      refine PW.iload q_60_58 rfl ?_
      refine PW.jz_lt q_60_60 rfl (fun h10 => ?_) (fun h10 => ?_)
      · skip
        refine PW.vret q_60_182 rfl (by decide) (by decide) ?_
        exact hK MJ52_8 fd (fun _ _ => rfl) (by omega) IMJ52_8 FMJ52_8
      · skip
        refine PW.iload q_60_63 rfl ?_
        refine PW.aload_n q_60_65 rfl ?_
        refine PW.gI q_60_66 (Or.inr t_fN_60_117) gF_4_6 hk_k1 IMJ52_8.1 (by decide) fun x11 fx11 hx11 kx11 => ?_
        refine PW.jc_ge q_60_69 rfl (fun h12 => ?_) (fun h12 => ?_)
        · skip
          refine PW.vret q_60_182 rfl (by decide) (by decide) ?_
          exact hK MJ52_8 fd (fun _ _ => rfl) (by omega) IMJ52_8 FMJ52_8
        · skip
          refine PW.aload_n q_60_72 rfl ?_
          refine PW.aload_n q_60_73 rfl ?_
          refine PW.gRk q_60_74 (Or.inl t_ft_60_20) gF_5_3 hk_k0 IMJ52_8.1 (by decide) fun b13 hk_b13 e_b13 => ?_
          refine PW.iload q_60_77 rfl ?_
          refine PW.aRk q_60_79 rfl (by decide) (by decide) hk_b13 IMJ52_8.1 (by decide) (by omega) (by omega) fun b14 hk_b14 e_b14 => ?_
          refine PW.gI q_60_80 (Or.inr t_fN_60_76) gF_7_0 hk_b14 IMJ52_8.1 (by decide) fun x15 fx15 hx15 kx15 => ?_
          clear hx15 kx15
          refine PW.cV (as := [_]) (rest := []) q_60_83 t_mv_60_161 hk_b2 IMJ52_8.1 (by decide) rfl (by decide) rfl rfl (Nat.le_of_ble_eq_true rfl) (Nat.le_of_ble_eq_true rfl) (by decide) (by decide) ?_
          refine PW.up (by decide) (c_X0_runTo (gSp fs fd) ((gSpS _ _)) G _ MJ52_8 IMJ52_8 b2 hk_b2 x15 fun x17 M16 IM16 GM16 hx17 kx17 => ?_)
          have FM16 := Fr.trans FMJ52_8 GM16 (rfl)
          refine PW.jz_eq q_60_86 rfl (fun h18 => ?_) (fun h18 => ?_)
          · skip
            refine PW.vret q_60_182 rfl (by decide) (by decide) ?_
            exact hK M16 fd (fun _ _ => rfl) (by omega) IM16 FM16
          · skip
            refine PW.aload_n q_60_89 rfl ?_
            refine PW.gRk q_60_90 (Or.inl t_ft_60_32) gF_5_5 hk_k0 IM16.1 (by decide) fun b19 hk_b19 e_b19 => ?_
            refine PW.aload_n q_60_93 rfl ?_
            refine PW.gI q_60_94 (Or.inr t_fN_60_165) gF_9_6 hk_b2 IM16.1 (by decide) fun x20 fx20 hx20 kx20 => ?_
            refine PW.cB q_60_97 (by decide) fun c21 hc21 => ?_
            refine PW.mulN q_60_99 (6) (by omega) x20 (fun h => n_eq.mpr (by omega)) (fun h => n_eq.mpr (by omega)) (by omega) (by omega) fun x22 hx22 => ?_
            refine PW.iload q_60_100 rfl ?_
            refine PW.addN q_60_102 (by have := n_lo x9; have := n_hi x9; omega) (by have := n_lo x9; have := n_hi x9; omega) fun x23 hx23 => ?_
            refine PW.dup2 q_60_103 rfl rfl ?_
            refine PW.aH q_60_104 gA_13 hk_b19 IM16.1 (by decide) (by omega) (by omega) fun x24 fx24 => ?_
            refine PW.cI q_60_105 (by decide) fun c25 hc25 => ?_
            refine PW.addH q_60_106 fun x26 => ?_
            refine PW.wI q_60_107 gA_13 hk_b19 (gSpS _ _) IM16 (by decide) rfl gC_13_0_35 (by decide) (by omega) (by omega) (n_lo _) (n_hi _) fun M27 IM27 fM27 UM27 => ?_
            have FM27 := Fr.pu FM16 UM27.1 hk_b19 (rfl : List.contains [5, 7, 9, 10, 11, 12, 13] 13 = true)
            refine PW.aload_n q_60_108 rfl ?_
            refine PW.iload q_60_109 rfl ?_
            refine PW.aload_n q_60_111 rfl ?_
            refine PW.gI q_60_112 (Or.inl t_ft_60_36) gF_5_0 hk_k0 IM27.1 (by decide) fun x28 fx28 hx28 kx28 => ?_
            refine PW.cV (as := [_, _]) (rest := []) q_60_115 t_mv_60_168 hk_b2 IM27.1 (by decide) rfl (by decide) rfl rfl (Nat.le_of_ble_eq_true rfl) (Nat.le_of_ble_eq_true rfl) (by decide) (by decide) ?_
            refine PW.up (by decide) (c_X0_see fs fd G _ M27 IM27 b2 hk_b2 x9 x28 (by omega) fun M29 fd30 hnfd30 hvfd30 IM29 GM29 => ?_)
            have FM29 := Fr.trans FM27 GM29 (rfl)
            refine PW.aload_n q_60_118 rfl ?_
            refine PW.aload_n q_60_119 rfl ?_
            refine PW.gRk q_60_120 (Or.inr t_fN_60_171) gF_4_15 hk_k1 IM29.1 (by decide) fun b31 hk_b31 e_b31 => ?_
            refine PW.iload_n q_60_123 rfl ?_
            refine PW.aH q_60_124 gA_34 hk_b31 IM29.1 (by decide) (by omega) (by omega) fun x32 fx32 => ?_
            refine PW.pI q_60_125 (Or.inr t_fN_60_151) gF_9_5 gP_9_5 hk_b2 (gSpS _ _) IM29 (by decide) rfl (n_lo _) (n_hi _) fun M33 IM33 fM33 UM33 => ?_
            have FM33 := Fr.pu FM29 UM33.1 hk_b2 (rfl : List.contains [5, 7, 9, 10, 11, 12, 13] 9 = true)
            refine PW.aload_n q_60_128 rfl ?_
            refine PW.aload_n q_60_129 rfl ?_
            refine PW.gRk q_60_130 (Or.inr t_fN_60_174) gF_4_17 hk_k1 IM33.1 (by decide) fun b34 hk_b34 e_b34 => ?_
            refine PW.iload_n q_60_133 rfl ?_
            refine PW.aH q_60_134 gA_36 hk_b34 IM33.1 (by decide) (by omega) (by omega) fun x35 fx35 => ?_
            refine PW.cV (as := [_]) (rest := []) q_60_135 t_mv_60_177 hk_b2 IM33.1 (by decide) rfl (by decide) rfl rfl (Nat.le_of_ble_eq_true rfl) (Nat.le_of_ble_eq_true rfl) (by decide) (by decide) ?_
            refine PW.up (by decide) (c_X0_tire (gSp fs fd30) ((gSpS _ _)) G _ M33 IM33 b2 hk_b2 x35 fun M36 IM36 GM36 => ?_)
            have FM36 := Fr.trans FM33 GM36 (rfl)
            refine PW.aload_n q_60_138 rfl ?_
            refine PW.gRk q_60_139 (Or.inl t_ft_60_20) gF_5_3 hk_k0 IM36.1 (by decide) fun b37 hk_b37 e_b37 => ?_
            refine PW.iload q_60_142 rfl ?_
            refine PW.aRk q_60_144 rfl (by decide) (by decide) hk_b37 IM36.1 (by decide) (by omega) (by omega) fun b38 hk_b38 e_b38 => ?_
            refine PW.dup q_60_145 rfl ?_
            refine PW.gI q_60_146 (Or.inr t_fN_60_181) gF_7_5 hk_b38 IM36.1 (by decide) fun x39 fx39 hx39 kx39 => ?_
            clear hx39 kx39
            refine PW.cI q_60_149 (by decide) fun c40 hc40 => ?_
            refine PW.addH q_60_150 fun x41 => ?_
            refine PW.pI q_60_151 (Or.inr t_fN_60_181) gF_7_5 gP_7_5 hk_b38 (gSpS _ _) IM36 (by decide) rfl (n_lo _) (n_hi _) fun M42 IM42 fM42 UM42 => ?_
            have FM42 := Fr.pu FM36 UM42.1 hk_b38 (rfl : List.contains [5, 7, 9, 10, 11, 12, 13] 7 = true)
            refine PW.aload_n q_60_154 rfl ?_
            refine PW.gRk q_60_155 (Or.inl t_ft_60_20) gF_5_3 hk_k0 IM42.1 (by decide) fun b43 hk_b43 e_b43 => ?_
            refine PW.iload q_60_158 rfl ?_
            refine PW.aRk q_60_160 rfl (by decide) (by decide) hk_b43 IM42.1 (by decide) (by omega) (by omega) fun b44 hk_b44 e_b44 => ?_
            refine PW.aload_n q_60_161 rfl ?_
            refine PW.gE q_60_162 (Or.inl t_ft_60_36) gF_5_0 hk_k0 IM42.1 (by decide) ((UM42.f (Or.inl (g_ne hk_k0 hk_b38 (by decide)))).trans ((congrArg (fun e => o_f e 0) (Fr.at GM36 hk_k0 (by decide))).trans ((UM33.f (Or.inl (g_ne hk_k0 hk_b2 (by decide)))).trans ((congrArg (fun e => o_f e 0) (Fr.at GM29 hk_k0 (by decide))).trans fx28)))) ?_
            refine PW.pI q_60_165 (Or.inr t_fN_60_136) gF_7_7 gP_7_7 hk_b44 (gSpS _ _) IM42 (by decide) rfl (n_lo _) (n_hi _) fun M45 IM45 fM45 UM45 => ?_
            have FM45 := Fr.pu FM42 UM45.1 hk_b44 (rfl : List.contains [5, 7, 9, 10, 11, 12, 13] 7 = true)
            refine PW.aload_n q_60_168 rfl ?_
            refine PW.gI q_60_169 (Or.inl t_ft_60_9) gF_5_1 hk_k0 IM45.1 (by decide) fun x46 fx46 hx46 kx46 => ?_
            clear hx46 kx46
            refine PW.iload q_60_172 rfl ?_
            refine PW.jc_ne q_60_174 rfl (fun h47 => ?_) (fun h47 => ?_)
            · skip
              refine PW.vret q_60_182 rfl (by decide) (by decide) ?_
              exact hK M45 fd30 hnfd30 (by omega) IM45 FM45
            · skip
              refine PW.aload_n q_60_177 rfl ?_
              refine PW.cI q_60_178 (by decide) fun c48 hc48 => ?_
              refine PW.pI q_60_179 (Or.inl t_ft_60_9) gF_5_1 gP_5_1 hk_k0 (gSpS _ _) IM45 (by decide) rfl (n_lo _) (n_hi _) fun M49 IM49 fM49 UM49 => ?_
              have FM49 := Fr.pu FM45 UM49.1 hk_k0 (rfl : List.contains [5, 7, 9, 10, 11, 12, 13] 5 = true)
              refine PW.vret q_60_182 rfl (by decide) (by decide) ?_
              exact hK M49 fd30 hnfd30 (by omega) IM49 FM49
    refine PW.jc_ne q_60_30 rfl (fun h7 => ?_) (fun h7 => ?_)
    · skip
      exact PW.lvS (lk1 rfl (lk1 rfl (lk1 rfl (lk1 rfl lk0)))) (J52_8 M  I F fx3)
    · skip
      refine PW.aload_n q_60_33 rfl ?_
      refine PW.aload_n q_60_34 rfl ?_
      refine PW.aload_n q_60_35 rfl ?_
      refine PW.gI q_60_36 (Or.inr t_fN_60_117) gF_4_6 hk_k1 I.1 (by decide) fun x50 fx50 hx50 kx50 => ?_
      refine PW.aload_n q_60_39 rfl ?_
      refine PW.aload_n q_60_40 rfl ?_
      refine PW.gRk q_60_41 (Or.inr t_fN_60_154) gF_4_16 hk_k1 I.1 (by decide) fun b51 hk_b51 e_b51 => ?_
      refine PW.iload_n q_60_44 rfl ?_
      refine PW.aH q_60_45 gA_35 hk_b51 I.1 (by decide) (by omega) (by omega) fun x52 fx52 => ?_
      refine PW.cV (as := [_, _, _]) (rest := [_]) q_60_46 t_mv_60_157 hk_k0 I.1 (by decide) rfl (by decide) rfl rfl (Nat.le_of_ble_eq_true rfl) (Nat.le_of_ble_eq_true rfl) (by decide) (by decide) ?_
      refine PW.up (by decide) (c_X5_choice (gSp fs fd) ((gSpS _ _)) G _ M I k0 hk_k0 x50 b2 hk_b2 x52 (by omega) (by omega) fun x54 M53 IM53 GM53 => ?_)
      have FM53 := Fr.trans F GM53 (rfl)
      refine PW.pI q_60_49 (Or.inr t_fN_60_94) gF_9_4 gP_9_4 hk_b2 (gSpS _ _) IM53 (by decide) rfl (n_lo _) (n_hi _) fun M55 IM55 fM55 UM55 => ?_
      have FM55 := Fr.pu FM53 UM55.1 hk_b2 (rfl : List.contains [5, 7, 9, 10, 11, 12, 13] 9 = true)
      exact PW.lvS (lk1 rfl (lk1 rfl (lk1 rfl (lk1 rfl lk0)))) (J52_8 M55  IM55 FM55 ((UM55.f (Or.inr (by decide))).trans ((congrArg (fun e => o_f e 5) (Fr.at GM53 hk_b2 (by decide))).trans fx3)))
  · skip
    refine PW.aload_n q_60_14 rfl ?_
    refine PW.dup q_60_15 rfl ?_
    refine PW.gE q_60_16 (Or.inr t_fN_60_151) gF_9_5 hk_b2 I.1 (by decide) fx3 ?_
    refine PW.cI q_60_19 (by decide) fun c56 hc56 => ?_
    refine PW.subN q_60_20 (by have := n_lo x3; have := n_hi x3; omega) (by have := n_lo x3; have := n_hi x3; omega) fun x57 hx57 => ?_
    refine PW.pI q_60_21 (Or.inr t_fN_60_151) gF_9_5 gP_9_5 hk_b2 (gSpS _ _) I (by decide) rfl (n_lo _) (n_hi _) fun M58 IM58 fM58 UM58 => ?_
    have FM58 := Fr.pu F UM58.1 hk_b2 (rfl : List.contains [5, 7, 9, 10, 11, 12, 13] 9 = true)
    refine PW.vret q_60_24 rfl (by decide) (by decide) ?_
    exact hK M58 fd (fun _ _ => rfl) (by omega) IM58 FM58
theorem c_X5_pass (G : pG) (Kr : pK) (M : pM) (I : Iv gTT M) (k0 : Nat) (hk_k0 : g_kd k0 = 5) (k1 : Nat) (hk_k1 : g_kd k1 = 4) (hK : ∀ (x : Int32) (M1 : pM), Iv gTT M1 → Fr [5, 7, 9, 10, 11, 12, 13] M M1 → 0 ≤ x.toInt → x.toInt ≤ 1 → Kr.1 (some (.int x)) 311 M1) : PW G false 4 56 (p_mc 56) (p_msl 56) Kr 0 (lv_args 0 [.ref k0, .ref k1]) [] 311 M 0 0 := by
  have F : Fr [5, 7, 9, 10, 11, 12, 13] M M := Fr.refl
  refine PW.aload_n q_56_0 rfl ?_
  refine PW.gI q_56_1 (Or.inl t_ft_56_36) gF_5_0 hk_k0 I.1 (by decide) fun x1 fx1 hx1 kx1 => ?_
  refine PW.cS q_56_4 (by decide) fun c2 hc2 => ?_
  refine PW.jc_lt q_56_7 rfl (fun h3 => ?_) (fun h3 => ?_)
  · skip
    have Q4 := gSp.of I
    refine PW.cI q_56_12 (by decide) fun c5 hc5 => ?_
    refine PW.istore_n q_56_13 (by decide) ?_
    have L56_14_6 : ∀ (n : Nat) (ML56_14_6 : pM) (v7 : Int32), Iv (gSp (gFs M) (gFd M)) ML56_14_6 → Fr [5, 7, 9, 10, 11, 12, 13] M ML56_14_6 → 0 ≤ v7.toInt → v7.toInt ≤ 6 → (6 - v7.toInt).toNat = n → PW G false 4 56 (p_mc 56) (p_msl 56) Kr 14 [(0, .ref k0), (1, .ref k1), (2, .int v7)] [] 311 ML56_14_6 0 0 := by
      intro n
      induction n using Nat.strongRecOn with
      | ind n ih_L56_14_6 =>
      intro ML56_14_6 v7 IML56_14_6 FML56_14_6 hbL56_14_60 hbL56_14_61 hmL56_14_6
      refine PW.iload_n q_56_14 rfl ?_
      refine PW.aload_n q_56_15 rfl ?_
      refine PW.gI q_56_16 (Or.inr t_fN_56_117) gF_4_6 hk_k1 IML56_14_6.1 (by decide) fun x8 fx8 hx8 kx8 => ?_
      refine PW.jc_ge q_56_19 rfl (fun h9 => ?_) (fun h9 => ?_)
      · skip
        refine PW.cI q_56_47 (by decide) fun c10 hc10 => ?_
        refine PW.istore_n q_56_48 (by decide) ?_
        refine PW.iload_n q_56_49 rfl ?_
        refine PW.aload_n q_56_50 rfl ?_
        refine PW.gI q_56_51 (Or.inr t_fN_56_52) gF_4_7 hk_k1 IML56_14_6.1 (by decide) fun x11 fx11 hx11 kx11 => ?_
        refine PW.jc_ge q_56_54 rfl (fun h12 => ?_) (fun h12 => ?_)
        · skip
          refine PW.cI q_56_69 (by decide) fun c13 hc13 => ?_
          refine PW.istore_n q_56_70 (by decide) ?_
          have L56_71_14 : ∀ (n : Nat) (ML56_71_14 : pM) (v15 : Int32), Iv (gSp (gFs M) (gFd M)) ML56_71_14 → Fr [5, 7, 9, 10, 11, 12, 13] M ML56_71_14 → 0 ≤ v15.toInt → v15.toInt ≤ 6 → (6 - v15.toInt).toNat = n → PW G false 4 56 (p_mc 56) (p_msl 56) Kr 71 [(0, .ref k0), (1, .ref k1), (2, .int v15)] [] 311 ML56_71_14 0 0 := by
            intro n
            induction n using Nat.strongRecOn with
            | ind n ih_L56_71_14 =>
            intro ML56_71_14 v15 IML56_71_14 FML56_71_14 hbL56_71_140 hbL56_71_141 hmL56_71_14
            refine PW.iload_n q_56_71 rfl ?_
            refine PW.aload_n q_56_72 rfl ?_
            refine PW.gI q_56_73 (Or.inr t_fN_56_117) gF_4_6 hk_k1 IML56_71_14.1 (by decide) fun x16 fx16 hx16 kx16 => ?_
            refine PW.jc_ge q_56_76 rfl (fun h17 => ?_) (fun h17 => ?_)
            · skip
              refine PW.aload_n q_56_128 rfl ?_
              refine PW.dup q_56_129 rfl ?_
              refine PW.gI q_56_130 (Or.inl t_ft_56_36) gF_5_0 hk_k0 IML56_71_14.1 (by decide) fun x18 fx18 hx18 kx18 => ?_
              have hzx18 : x18.toInt = x1.toInt := by have q : (Value.int x18) = .int x1 := (fx18.symm.trans (IML56_71_14.2.1 k0 hk_k0)).trans fx1; cases q; rfl
              refine PW.cI q_56_133 (by decide) fun c19 hc19 => ?_
              refine PW.addN q_56_134 (by omega) (by omega) fun x20 hx20 => ?_
              refine PW.pC q_56_135 (Or.inl t_ft_56_36) gF_5_0 gP_5_0 hk_k0 IML56_71_14 (by decide) ⟨rfl, rfl⟩ (by omega) (by omega) fun M21 IM21 fM21 UM21 => ?_
              have FM21 := Fr.pu FML56_71_14 UM21.1 hk_k0 (rfl : List.contains [5, 7, 9, 10, 11, 12, 13] 5 = true)
              refine PW.cI q_56_138 (by decide) fun c22 hc22 => ?_
              refine PW.rZ q_56_139 rfl (by omega) (by omega) (by decide) (by decide) ?_
              have T23 : gTT M21 := by
                have qT := I.2.1 k0 hk_k0
                rw [o_i_gvi, o_i_gvi, o_i_gvi, fx1] at qT
                have q1 : gvi (gFd M (k0 + 9)) ≤ x1.toInt := qT.1
                have q2 : gvi (gFd M (k0 + 13)) ≤ x1.toInt := qT.2
                have qz : x20.toInt = x1.toInt + 1 := by omega
                refine gSp.T (k := k0) I.2.1 IM21.2 hk_k0 (fun a h => gUp_ne h) (fun a h h13 => ?_) ?_ ?_
                · rfl
                · rw [gUp_eq]; show _ ≤ x20.toInt; omega
                · rw [gUp_eq]; show _ ≤ x20.toInt; omega
              exact hK c22 M21 ⟨IM21.1, T23⟩ FM21 (by omega) (by omega)
            · skip
              refine PW.aload_n q_56_79 rfl ?_
              refine PW.gRk q_56_80 (Or.inl t_ft_56_20) gF_5_3 hk_k0 IML56_71_14.1 (by decide) fun b24 hk_b24 e_b24 => ?_
              refine PW.iload_n q_56_83 rfl ?_
              refine PW.aRk q_56_84 rfl (by decide) (by decide) hk_b24 IML56_71_14.1 (by decide) (by omega) (by omega) fun b25 hk_b25 e_b25 => ?_
              refine PW.aload_n q_56_85 rfl ?_
              refine PW.gI q_56_86 (Or.inr t_fN_56_133) gF_4_3 hk_k1 IML56_71_14.1 (by decide) fun x26 fx26 hx26 kx26 => ?_
              clear hx26 kx26
              refine PW.cI q_56_89 (by decide) fun c27 hc27 => ?_
              have J119_29 : ∀ (MJ119_29 : pM) (s30 : Int32), Iv (gSp (gFs M) (gFd M)) MJ119_29 → Fr [5, 7, 9, 10, 11, 12, 13] M MJ119_29 → 0 ≤ s30.toInt → s30.toInt ≤ 1 → o_f (MJ119_29 k1) 6 = .int x16 → o_f (MJ119_29 k1) 3 = .int x26 → PW G false 4 56 (p_mc 56) (p_msl 56) Kr 119 [(0, .ref k0), (1, .ref k1), (2, .int v15)] [.int s30, .ref b25] 311 MJ119_29 0 0 := by
                intro MJ119_29 s30 IMJ119_29 FMJ119_29 hbJ119_290 hbJ119_291 hbJ119_292 hbJ119_293
                refine PW.pI q_56_119 (Or.inr t_fN_56_84) gF_7_3 gP_7_3 hk_b25 (gSpS _ _) IMJ119_29 (by decide) rfl (by omega) (by omega) fun M31 IM31 fM31 UM31 => ?_
                have FM31 := Fr.pu FMJ119_29 UM31.1 hk_b25 (rfl : List.contains [5, 7, 9, 10, 11, 12, 13] 7 = true)
                refine PW.incN q_56_122 rfl (by decide) (by decide) (by omega) (by omega) fun x32 hx32 => ?_
                refine PW.goto q_56_125 rfl ?_
                refine PW.lvS (lk1 rfl (lk1 rfl (lk1 rfl lk0))) (ih_L56_71_14 _ ?_ M31 x32 IM31 FM31 (by omega) (by omega) rfl)
                omega
              refine PW.jc_eq q_56_90 rfl (fun h28 => ?_) (fun h28 => ?_)
              · skip
                refine PW.cI q_56_118 (by decide) fun c33 hc33 => ?_
                exact PW.lvS (lk1 rfl (lk1 rfl (lk1 rfl lk0))) (J119_29 ML56_71_14 c33 IML56_71_14 FML56_71_14 (by omega) (by omega) fx16 fx26)
              · skip
                refine PW.aload_n q_56_93 rfl ?_
                refine PW.gI q_56_94 (Or.inl t_ft_56_36) gF_5_0 hk_k0 IML56_71_14.1 (by decide) fun x34 fx34 hx34 kx34 => ?_
                refine PW.aload_n q_56_97 rfl ?_
                refine PW.gRk q_56_98 (Or.inl t_ft_56_20) gF_5_3 hk_k0 IML56_71_14.1 (by decide) fun b35 hk_b35 e_b35 => ?_
                refine PW.iload_n q_56_101 rfl ?_
                refine PW.aRk q_56_102 rfl (by decide) (by decide) hk_b35 IML56_71_14.1 (by decide) (by omega) (by omega) fun b36 hk_b36 e_b36 => ?_
                refine PW.gI q_56_103 (Or.inr t_fN_56_136) gF_7_7 hk_b36 IML56_71_14.1 (by decide) fun x37 fx37 hx37 kx37 => ?_
                clear hx37 kx37
                refine PW.subH q_56_106 fun x38 => ?_
                refine PW.aload_n q_56_107 rfl ?_
                refine PW.gE q_56_108 (Or.inr t_fN_56_133) gF_4_3 hk_k1 IML56_71_14.1 (by decide) fx26 ?_
                refine PW.jc_lt q_56_111 rfl (fun h39 => ?_) (fun h39 => ?_)
                · skip
                  refine PW.cI q_56_118 (by decide) fun c40 hc40 => ?_
                  exact PW.lvS (lk1 rfl (lk1 rfl (lk1 rfl lk0))) (J119_29 ML56_71_14 c40 IML56_71_14 FML56_71_14 (by omega) (by omega) fx16 fx26)
                · skip
                  refine PW.cI q_56_114 (by decide) fun c41 hc41 => ?_
                  refine PW.goto q_56_115 rfl ?_
                  exact PW.lvS (lk1 rfl (lk1 rfl (lk1 rfl lk0))) (J119_29 ML56_71_14 c41 IML56_71_14 FML56_71_14 (by omega) (by omega) fx16 fx26)
          exact PW.lvS (lk1 rfl (lk1 rfl (lk1 rfl lk0))) (L56_71_14 _ ML56_14_6 c13 IML56_14_6 FML56_14_6 (by omega) (by omega) rfl)
        · skip
          refine PW.aload_n q_56_57 rfl ?_
          refine PW.aload_n q_56_58 rfl ?_
          refine PW.iload_n q_56_59 rfl ?_
          refine PW.cV (as := [_, _]) (rest := []) q_56_60 t_mv_56_129 hk_k0 IML56_14_6.1 (by decide) rfl (by decide) rfl rfl (Nat.le_of_ble_eq_true rfl) (Nat.le_of_ble_eq_true rfl) (by decide) (by decide) ?_
          refine PW.up (by decide) (c_X5_letRun (gFs M) (gFd M) G _ ML56_14_6 IML56_14_6 k0 hk_k0 k1 hk_k1 c10 (by omega) (by omega) (k0 + 9) (by omega) (by show gvi (o_f (M (k0 + 9)) 3) ≤ 599; have q := (I.2.1 k0 hk_k0).1; rw [o_i_gvi, o_i_gvi, fx1] at q; exact Int.le_trans q (by show x1.toInt ≤ 599; omega)) fun M42 fd43 hnfd43 hvfd43 IM42 GM42 => ?_)
          have FM42 := Fr.trans FML56_14_6 GM42 (rfl)
          refine PW.incN q_56_63 rfl (by decide) (by decide) (by omega) (by omega) fun x44 hx44 => ?_
          refine PW.goto q_56_66 rfl ?_
          refine PW.iload_n q_56_49 rfl ?_
          refine PW.aload_n q_56_50 rfl ?_
          refine PW.gE q_56_51 (Or.inr t_fN_56_52) gF_4_7 hk_k1 IM42.1 (by decide) ((congrArg (fun e => o_f e 7) (Fr.at GM42 hk_k1 (by decide))).trans fx11) ?_
          refine PW.jc_ge q_56_54 rfl (fun h45 => ?_) (fun h45 => ?_)
          · skip
            refine PW.cI q_56_69 (by decide) fun c46 hc46 => ?_
            refine PW.istore_n q_56_70 (by decide) ?_
            have L56_71_47 : ∀ (n : Nat) (ML56_71_47 : pM) (v48 : Int32), Iv (gSp (gFs M) fd43) ML56_71_47 → Fr [5, 7, 9, 10, 11, 12, 13] M ML56_71_47 → 0 ≤ v48.toInt → v48.toInt ≤ 6 → (6 - v48.toInt).toNat = n → PW G false 4 56 (p_mc 56) (p_msl 56) Kr 71 [(0, .ref k0), (1, .ref k1), (2, .int v48)] [] 311 ML56_71_47 0 0 := by
              intro n
              induction n using Nat.strongRecOn with
              | ind n ih_L56_71_47 =>
              intro ML56_71_47 v48 IML56_71_47 FML56_71_47 hbL56_71_470 hbL56_71_471 hmL56_71_47
              refine PW.iload_n q_56_71 rfl ?_
              refine PW.aload_n q_56_72 rfl ?_
              refine PW.gI q_56_73 (Or.inr t_fN_56_117) gF_4_6 hk_k1 IML56_71_47.1 (by decide) fun x49 fx49 hx49 kx49 => ?_
              refine PW.jc_ge q_56_76 rfl (fun h50 => ?_) (fun h50 => ?_)
              · skip
                refine PW.aload_n q_56_128 rfl ?_
                refine PW.dup q_56_129 rfl ?_
                refine PW.gI q_56_130 (Or.inl t_ft_56_36) gF_5_0 hk_k0 IML56_71_47.1 (by decide) fun x51 fx51 hx51 kx51 => ?_
                have hzx51 : x51.toInt = x1.toInt := by have q : (Value.int x51) = .int x1 := (fx51.symm.trans (IML56_71_47.2.1 k0 hk_k0)).trans fx1; cases q; rfl
                refine PW.cI q_56_133 (by decide) fun c52 hc52 => ?_
                refine PW.addN q_56_134 (by omega) (by omega) fun x53 hx53 => ?_
                refine PW.pC q_56_135 (Or.inl t_ft_56_36) gF_5_0 gP_5_0 hk_k0 IML56_71_47 (by decide) ⟨rfl, rfl⟩ (by omega) (by omega) fun M54 IM54 fM54 UM54 => ?_
                have FM54 := Fr.pu FML56_71_47 UM54.1 hk_k0 (rfl : List.contains [5, 7, 9, 10, 11, 12, 13] 5 = true)
                refine PW.cI q_56_138 (by decide) fun c55 hc55 => ?_
                refine PW.rZ q_56_139 rfl (by omega) (by omega) (by decide) (by decide) ?_
                have T56 : gTT M54 := by
                  have qT := I.2.1 k0 hk_k0
                  rw [o_i_gvi, o_i_gvi, o_i_gvi, fx1] at qT
                  have q1 : gvi (gFd M (k0 + 9)) ≤ x1.toInt := qT.1
                  have q2 : gvi (gFd M (k0 + 13)) ≤ x1.toInt := qT.2
                  have qz : x53.toInt = x1.toInt + 1 := by omega
                  have r0 : gvi (fd43 (k0 + 13)) = gvi ((gFd M) (k0 + 13)) := by rw [hnfd43 (k0 + 13) (by omega)]
                  refine gSp.T (k := k0) I.2.1 IM54.2 hk_k0 (fun a h => gUp_ne h) (fun a h h13 => ?_) ?_ ?_
                  · rw [hnfd43 a h]
                  · rw [gUp_eq]; show _ ≤ x53.toInt; omega
                  · rw [gUp_eq]; show _ ≤ x53.toInt; omega
                exact hK c55 M54 ⟨IM54.1, T56⟩ FM54 (by omega) (by omega)
              · skip
                refine PW.aload_n q_56_79 rfl ?_
                refine PW.gRk q_56_80 (Or.inl t_ft_56_20) gF_5_3 hk_k0 IML56_71_47.1 (by decide) fun b57 hk_b57 e_b57 => ?_
                refine PW.iload_n q_56_83 rfl ?_
                refine PW.aRk q_56_84 rfl (by decide) (by decide) hk_b57 IML56_71_47.1 (by decide) (by omega) (by omega) fun b58 hk_b58 e_b58 => ?_
                refine PW.aload_n q_56_85 rfl ?_
                refine PW.gI q_56_86 (Or.inr t_fN_56_133) gF_4_3 hk_k1 IML56_71_47.1 (by decide) fun x59 fx59 hx59 kx59 => ?_
                clear hx59 kx59
                refine PW.cI q_56_89 (by decide) fun c60 hc60 => ?_
                have J119_62 : ∀ (MJ119_62 : pM) (s63 : Int32), Iv (gSp (gFs M) fd43) MJ119_62 → Fr [5, 7, 9, 10, 11, 12, 13] M MJ119_62 → 0 ≤ s63.toInt → s63.toInt ≤ 1 → o_f (MJ119_62 k1) 6 = .int x49 → o_f (MJ119_62 k1) 3 = .int x59 → PW G false 4 56 (p_mc 56) (p_msl 56) Kr 119 [(0, .ref k0), (1, .ref k1), (2, .int v48)] [.int s63, .ref b58] 311 MJ119_62 0 0 := by
                  intro MJ119_62 s63 IMJ119_62 FMJ119_62 hbJ119_620 hbJ119_621 hbJ119_622 hbJ119_623
                  refine PW.pI q_56_119 (Or.inr t_fN_56_84) gF_7_3 gP_7_3 hk_b58 (gSpS _ _) IMJ119_62 (by decide) rfl (by omega) (by omega) fun M64 IM64 fM64 UM64 => ?_
                  have FM64 := Fr.pu FMJ119_62 UM64.1 hk_b58 (rfl : List.contains [5, 7, 9, 10, 11, 12, 13] 7 = true)
                  refine PW.incN q_56_122 rfl (by decide) (by decide) (by omega) (by omega) fun x65 hx65 => ?_
                  refine PW.goto q_56_125 rfl ?_
                  refine PW.lvS (lk1 rfl (lk1 rfl (lk1 rfl lk0))) (ih_L56_71_47 _ ?_ M64 x65 IM64 FM64 (by omega) (by omega) rfl)
                  omega
                refine PW.jc_eq q_56_90 rfl (fun h61 => ?_) (fun h61 => ?_)
                · skip
                  refine PW.cI q_56_118 (by decide) fun c66 hc66 => ?_
                  exact PW.lvS (lk1 rfl (lk1 rfl (lk1 rfl lk0))) (J119_62 ML56_71_47 c66 IML56_71_47 FML56_71_47 (by omega) (by omega) fx49 fx59)
                · skip
                  refine PW.aload_n q_56_93 rfl ?_
                  refine PW.gI q_56_94 (Or.inl t_ft_56_36) gF_5_0 hk_k0 IML56_71_47.1 (by decide) fun x67 fx67 hx67 kx67 => ?_
                  refine PW.aload_n q_56_97 rfl ?_
                  refine PW.gRk q_56_98 (Or.inl t_ft_56_20) gF_5_3 hk_k0 IML56_71_47.1 (by decide) fun b68 hk_b68 e_b68 => ?_
                  refine PW.iload_n q_56_101 rfl ?_
                  refine PW.aRk q_56_102 rfl (by decide) (by decide) hk_b68 IML56_71_47.1 (by decide) (by omega) (by omega) fun b69 hk_b69 e_b69 => ?_
                  refine PW.gI q_56_103 (Or.inr t_fN_56_136) gF_7_7 hk_b69 IML56_71_47.1 (by decide) fun x70 fx70 hx70 kx70 => ?_
                  clear hx70 kx70
                  refine PW.subH q_56_106 fun x71 => ?_
                  refine PW.aload_n q_56_107 rfl ?_
                  refine PW.gE q_56_108 (Or.inr t_fN_56_133) gF_4_3 hk_k1 IML56_71_47.1 (by decide) fx59 ?_
                  refine PW.jc_lt q_56_111 rfl (fun h72 => ?_) (fun h72 => ?_)
                  · skip
                    refine PW.cI q_56_118 (by decide) fun c73 hc73 => ?_
                    exact PW.lvS (lk1 rfl (lk1 rfl (lk1 rfl lk0))) (J119_62 ML56_71_47 c73 IML56_71_47 FML56_71_47 (by omega) (by omega) fx49 fx59)
                  · skip
                    refine PW.cI q_56_114 (by decide) fun c74 hc74 => ?_
                    refine PW.goto q_56_115 rfl ?_
                    exact PW.lvS (lk1 rfl (lk1 rfl (lk1 rfl lk0))) (J119_62 ML56_71_47 c74 IML56_71_47 FML56_71_47 (by omega) (by omega) fx49 fx59)
            exact PW.lvS (lk1 rfl (lk1 rfl (lk1 rfl lk0))) (L56_71_47 _ M42 c46 IM42 FM42 (by omega) (by omega) rfl)
          · skip
            refine PW.aload_n q_56_57 rfl ?_
            refine PW.aload_n q_56_58 rfl ?_
            refine PW.iload_n q_56_59 rfl ?_
            refine PW.cV (as := [_, _]) (rest := []) q_56_60 t_mv_56_129 hk_k0 IM42.1 (by decide) rfl (by decide) rfl rfl (Nat.le_of_ble_eq_true rfl) (Nat.le_of_ble_eq_true rfl) (by decide) (by decide) ?_
            refine PW.up (by decide) (c_X5_letRun (gFs M) fd43 G _ M42 IM42 k0 hk_k0 k1 hk_k1 x44 (by omega) (by omega) (k0 + 13) (by omega) (by rw [hnfd43 (k0 + 13) (by omega)]; show gvi (o_f (M (k0 + 13)) 3) ≤ 599; have q := (I.2.1 k0 hk_k0).2; rw [o_i_gvi, o_i_gvi, fx1] at q; exact Int.le_trans q (by show x1.toInt ≤ 599; omega)) fun M75 fd76 hnfd76 hvfd76 IM75 GM75 => ?_)
            have FM75 := Fr.trans FM42 GM75 (rfl)
            refine PW.incN q_56_63 rfl (by decide) (by decide) (by omega) (by omega) fun x77 hx77 => ?_
            refine PW.goto q_56_66 rfl ?_
            refine PW.iload_n q_56_49 rfl ?_
            refine PW.aload_n q_56_50 rfl ?_
            refine PW.gE q_56_51 (Or.inr t_fN_56_52) gF_4_7 hk_k1 IM75.1 (by decide) ((congrArg (fun e => o_f e 7) (Fr.at GM75 hk_k1 (by decide))).trans ((congrArg (fun e => o_f e 7) (Fr.at GM42 hk_k1 (by decide))).trans fx11)) ?_
            refine PW.jc_ge q_56_54 rfl (fun h78 => ?_) (fun h78 => False.elim (by omega))
            refine PW.cI q_56_69 (by decide) fun c79 hc79 => ?_
            refine PW.istore_n q_56_70 (by decide) ?_
            have L56_71_80 : ∀ (n : Nat) (ML56_71_80 : pM) (v81 : Int32), Iv (gSp (gFs M) fd76) ML56_71_80 → Fr [5, 7, 9, 10, 11, 12, 13] M ML56_71_80 → 0 ≤ v81.toInt → v81.toInt ≤ 6 → (6 - v81.toInt).toNat = n → PW G false 4 56 (p_mc 56) (p_msl 56) Kr 71 [(0, .ref k0), (1, .ref k1), (2, .int v81)] [] 311 ML56_71_80 0 0 := by
              intro n
              induction n using Nat.strongRecOn with
              | ind n ih_L56_71_80 =>
              intro ML56_71_80 v81 IML56_71_80 FML56_71_80 hbL56_71_800 hbL56_71_801 hmL56_71_80
              refine PW.iload_n q_56_71 rfl ?_
              refine PW.aload_n q_56_72 rfl ?_
              refine PW.gI q_56_73 (Or.inr t_fN_56_117) gF_4_6 hk_k1 IML56_71_80.1 (by decide) fun x82 fx82 hx82 kx82 => ?_
              refine PW.jc_ge q_56_76 rfl (fun h83 => ?_) (fun h83 => ?_)
              · skip
                refine PW.aload_n q_56_128 rfl ?_
                refine PW.dup q_56_129 rfl ?_
                refine PW.gI q_56_130 (Or.inl t_ft_56_36) gF_5_0 hk_k0 IML56_71_80.1 (by decide) fun x84 fx84 hx84 kx84 => ?_
                have hzx84 : x84.toInt = x1.toInt := by have q : (Value.int x84) = .int x1 := (fx84.symm.trans (IML56_71_80.2.1 k0 hk_k0)).trans fx1; cases q; rfl
                refine PW.cI q_56_133 (by decide) fun c85 hc85 => ?_
                refine PW.addN q_56_134 (by omega) (by omega) fun x86 hx86 => ?_
                refine PW.pC q_56_135 (Or.inl t_ft_56_36) gF_5_0 gP_5_0 hk_k0 IML56_71_80 (by decide) ⟨rfl, rfl⟩ (by omega) (by omega) fun M87 IM87 fM87 UM87 => ?_
                have FM87 := Fr.pu FML56_71_80 UM87.1 hk_k0 (rfl : List.contains [5, 7, 9, 10, 11, 12, 13] 5 = true)
                refine PW.cI q_56_138 (by decide) fun c88 hc88 => ?_
                refine PW.rZ q_56_139 rfl (by omega) (by omega) (by decide) (by decide) ?_
                have T89 : gTT M87 := by
                  have qT := I.2.1 k0 hk_k0
                  rw [o_i_gvi, o_i_gvi, o_i_gvi, fx1] at qT
                  have q1 : gvi (gFd M (k0 + 9)) ≤ x1.toInt := qT.1
                  have q2 : gvi (gFd M (k0 + 13)) ≤ x1.toInt := qT.2
                  have qz : x86.toInt = x1.toInt + 1 := by omega
                  have r0 : gvi (fd43 (k0 + 13)) = gvi ((gFd M) (k0 + 13)) := by rw [hnfd43 (k0 + 13) (by omega)]
                  have r1 : gvi (fd76 (k0 + 9)) = gvi (fd43 (k0 + 9)) := by rw [hnfd76 (k0 + 9) (by omega)]
                  refine gSp.T (k := k0) I.2.1 IM87.2 hk_k0 (fun a h => gUp_ne h) (fun a h h13 => ?_) ?_ ?_
                  · rw [hnfd76 a h13, hnfd43 a h]
                  · rw [gUp_eq]; show _ ≤ x86.toInt; omega
                  · rw [gUp_eq]; show _ ≤ x86.toInt; omega
                exact hK c88 M87 ⟨IM87.1, T89⟩ FM87 (by omega) (by omega)
              · skip
                refine PW.aload_n q_56_79 rfl ?_
                refine PW.gRk q_56_80 (Or.inl t_ft_56_20) gF_5_3 hk_k0 IML56_71_80.1 (by decide) fun b90 hk_b90 e_b90 => ?_
                refine PW.iload_n q_56_83 rfl ?_
                refine PW.aRk q_56_84 rfl (by decide) (by decide) hk_b90 IML56_71_80.1 (by decide) (by omega) (by omega) fun b91 hk_b91 e_b91 => ?_
                refine PW.aload_n q_56_85 rfl ?_
                refine PW.gI q_56_86 (Or.inr t_fN_56_133) gF_4_3 hk_k1 IML56_71_80.1 (by decide) fun x92 fx92 hx92 kx92 => ?_
                clear hx92 kx92
                refine PW.cI q_56_89 (by decide) fun c93 hc93 => ?_
                have J119_95 : ∀ (MJ119_95 : pM) (s96 : Int32), Iv (gSp (gFs M) fd76) MJ119_95 → Fr [5, 7, 9, 10, 11, 12, 13] M MJ119_95 → 0 ≤ s96.toInt → s96.toInt ≤ 1 → o_f (MJ119_95 k1) 6 = .int x82 → o_f (MJ119_95 k1) 3 = .int x92 → PW G false 4 56 (p_mc 56) (p_msl 56) Kr 119 [(0, .ref k0), (1, .ref k1), (2, .int v81)] [.int s96, .ref b91] 311 MJ119_95 0 0 := by
                  intro MJ119_95 s96 IMJ119_95 FMJ119_95 hbJ119_950 hbJ119_951 hbJ119_952 hbJ119_953
                  refine PW.pI q_56_119 (Or.inr t_fN_56_84) gF_7_3 gP_7_3 hk_b91 (gSpS _ _) IMJ119_95 (by decide) rfl (by omega) (by omega) fun M97 IM97 fM97 UM97 => ?_
                  have FM97 := Fr.pu FMJ119_95 UM97.1 hk_b91 (rfl : List.contains [5, 7, 9, 10, 11, 12, 13] 7 = true)
                  refine PW.incN q_56_122 rfl (by decide) (by decide) (by omega) (by omega) fun x98 hx98 => ?_
                  refine PW.goto q_56_125 rfl ?_
                  refine PW.lvS (lk1 rfl (lk1 rfl (lk1 rfl lk0))) (ih_L56_71_80 _ ?_ M97 x98 IM97 FM97 (by omega) (by omega) rfl)
                  omega
                refine PW.jc_eq q_56_90 rfl (fun h94 => ?_) (fun h94 => ?_)
                · skip
                  refine PW.cI q_56_118 (by decide) fun c99 hc99 => ?_
                  exact PW.lvS (lk1 rfl (lk1 rfl (lk1 rfl lk0))) (J119_95 ML56_71_80 c99 IML56_71_80 FML56_71_80 (by omega) (by omega) fx82 fx92)
                · skip
                  refine PW.aload_n q_56_93 rfl ?_
                  refine PW.gI q_56_94 (Or.inl t_ft_56_36) gF_5_0 hk_k0 IML56_71_80.1 (by decide) fun x100 fx100 hx100 kx100 => ?_
                  refine PW.aload_n q_56_97 rfl ?_
                  refine PW.gRk q_56_98 (Or.inl t_ft_56_20) gF_5_3 hk_k0 IML56_71_80.1 (by decide) fun b101 hk_b101 e_b101 => ?_
                  refine PW.iload_n q_56_101 rfl ?_
                  refine PW.aRk q_56_102 rfl (by decide) (by decide) hk_b101 IML56_71_80.1 (by decide) (by omega) (by omega) fun b102 hk_b102 e_b102 => ?_
                  refine PW.gI q_56_103 (Or.inr t_fN_56_136) gF_7_7 hk_b102 IML56_71_80.1 (by decide) fun x103 fx103 hx103 kx103 => ?_
                  clear hx103 kx103
                  refine PW.subH q_56_106 fun x104 => ?_
                  refine PW.aload_n q_56_107 rfl ?_
                  refine PW.gE q_56_108 (Or.inr t_fN_56_133) gF_4_3 hk_k1 IML56_71_80.1 (by decide) fx92 ?_
                  refine PW.jc_lt q_56_111 rfl (fun h105 => ?_) (fun h105 => ?_)
                  · skip
                    refine PW.cI q_56_118 (by decide) fun c106 hc106 => ?_
                    exact PW.lvS (lk1 rfl (lk1 rfl (lk1 rfl lk0))) (J119_95 ML56_71_80 c106 IML56_71_80 FML56_71_80 (by omega) (by omega) fx82 fx92)
                  · skip
                    refine PW.cI q_56_114 (by decide) fun c107 hc107 => ?_
                    refine PW.goto q_56_115 rfl ?_
                    exact PW.lvS (lk1 rfl (lk1 rfl (lk1 rfl lk0))) (J119_95 ML56_71_80 c107 IML56_71_80 FML56_71_80 (by omega) (by omega) fx82 fx92)
            exact PW.lvS (lk1 rfl (lk1 rfl (lk1 rfl lk0))) (L56_71_80 _ M75 c79 IM75 FM75 (by omega) (by omega) rfl)
      · skip
        refine PW.aload_n q_56_22 rfl ?_
        refine PW.gRk q_56_23 (Or.inl t_ft_56_20) gF_5_3 hk_k0 IML56_14_6.1 (by decide) fun b108 hk_b108 e_b108 => ?_
        refine PW.iload_n q_56_26 rfl ?_
        refine PW.aRk q_56_27 rfl (by decide) (by decide) hk_b108 IML56_14_6.1 (by decide) (by omega) (by omega) fun b109 hk_b109 e_b109 => ?_
        refine PW.aload_n q_56_28 rfl ?_
        refine PW.gRk q_56_29 (Or.inr t_fN_56_119) gF_4_10 hk_k1 IML56_14_6.1 (by decide) fun b110 hk_b110 e_b110 => ?_
        refine PW.iload_n q_56_32 rfl ?_
        refine PW.aH q_56_33 gA_29 hk_b110 IML56_14_6.1 (by decide) (by omega) (by omega) fun x111 fx111 => ?_
        refine PW.aload_n q_56_34 rfl ?_
        refine PW.gI q_56_35 (Or.inr t_fN_56_122) gF_4_1 hk_k1 IML56_14_6.1 (by decide) fun x112 fx112 hx112 kx112 => ?_
        clear hx112 kx112
        refine PW.cV (as := [_, _]) (rest := []) q_56_38 t_mv_56_125 hk_b109 IML56_14_6.1 (by decide) rfl (by decide) rfl rfl (Nat.le_of_ble_eq_true rfl) (Nat.le_of_ble_eq_true rfl) (by decide) (by decide) ?_
        refine PW.up (by decide) (c_X8_step (gSp (gFs M) (gFd M)) ((gSpS _ _)) G _ ML56_14_6 IML56_14_6 b109 hk_b109 x111 x112 fun M113 IM113 GM113 => ?_)
        have FM113 := Fr.trans FML56_14_6 GM113 (rfl)
        refine PW.incN q_56_41 rfl (by decide) (by decide) (by omega) (by omega) fun x114 hx114 => ?_
        refine PW.goto q_56_44 rfl ?_
        refine PW.lvS (lk1 rfl (lk1 rfl (lk1 rfl lk0))) (ih_L56_14_6 _ ?_ M113 x114 IM113 FM113 (by omega) (by omega) rfl)
        omega
    exact PW.lvS (lk1 rfl (lk1 rfl (lk1 rfl lk0))) (L56_14_6 _ M c5 Q4 F (by omega) (by omega) rfl)
  · skip
    refine PW.cI q_56_10 (by decide) fun c115 hc115 => ?_
    refine PW.rZ q_56_11 rfl (by omega) (by omega) (by decide) (by decide) ?_
    exact hK c115 M I F (by omega) (by omega)
theorem c_X5_copyFrom (G : pG) (Kr : pK) (M : pM) (I : Iv gTT M) (k0 : Nat) (hk_k0 : g_kd k0 = 5) (k1 : Nat) (hk_k1 : g_kd k1 = 5) (hK : ∀ (M1 : pM), Iv gTT M1 → Fr [5, 7, 9, 10, 11, 12, 13] M M1 → Kr.1 none 311 M1) : PW G false 3 48 (p_mc 48) (p_msl 48) Kr 0 (lv_args 0 [.ref k0, .ref k1]) [] 311 M 0 0 := by
  have F : Fr [5, 7, 9, 10, 11, 12, 13] M M := Fr.refl
  have Q1 := gSp.of I
  refine PW.aload_n q_48_0 rfl ?_
  refine PW.aload_n q_48_1 rfl ?_
  refine PW.gI q_48_2 (Or.inl t_ft_48_36) gF_5_0 hk_k1 Q1.1 (by decide) fun x2 fx2 hx2 kx2 => ?_
  refine PW.pC q_48_5 (Or.inl t_ft_48_36) gF_5_0 gP_5_0 hk_k0 Q1 (by decide) ⟨rfl, rfl⟩ (by omega) (by omega) fun M3 IM3 fM3 UM3 => ?_
  have FM3 := Fr.pu F UM3.1 hk_k0 (rfl : List.contains [5, 7, 9, 10, 11, 12, 13] 5 = true)
  refine PW.aload_n q_48_8 rfl ?_
  refine PW.aload_n q_48_9 rfl ?_
  refine PW.gI q_48_10 (Or.inl t_ft_48_9) gF_5_1 hk_k1 IM3.1 (by decide) fun x4 fx4 hx4 kx4 => ?_
  clear hx4 kx4
  refine PW.pI q_48_13 (Or.inl t_ft_48_9) gF_5_1 gP_5_1 hk_k0 (gSpS _ _) IM3 (by decide) rfl (n_lo _) (n_hi _) fun M5 IM5 fM5 UM5 => ?_
  have FM5 := Fr.pu FM3 UM5.1 hk_k0 (rfl : List.contains [5, 7, 9, 10, 11, 12, 13] 5 = true)
  refine PW.aload_n q_48_16 rfl ?_
  refine PW.aload_n q_48_17 rfl ?_
  refine PW.gI q_48_18 (Or.inl t_ft_48_15) gF_5_2 hk_k1 IM5.1 (by decide) fun x6 fx6 hx6 kx6 => ?_
  clear hx6 kx6
  refine PW.pI q_48_21 (Or.inl t_ft_48_15) gF_5_2 gP_5_2 hk_k0 (gSpS _ _) IM5 (by decide) rfl (n_lo _) (n_hi _) fun M7 IM7 fM7 UM7 => ?_
  have FM7 := Fr.pu FM5 UM7.1 hk_k0 (rfl : List.contains [5, 7, 9, 10, 11, 12, 13] 5 = true)
  refine PW.cI q_48_24 (by decide) fun c8 hc8 => ?_
  refine PW.istore_n q_48_25 (by decide) ?_
  have L48_26_9 : ∀ (n : Nat) (ML48_26_9 : pM) (v10 : Int32), Iv (gSp (gUp (gFs M) k0 (.int x2)) (gFd M)) ML48_26_9 → Fr [5, 7, 9, 10, 11, 12, 13] M ML48_26_9 → 0 ≤ v10.toInt → v10.toInt ≤ 6 → (6 - v10.toInt).toNat = n → PW G false 3 48 (p_mc 48) (p_msl 48) Kr 26 [(0, .ref k0), (1, .ref k1), (2, .int v10)] [] 311 ML48_26_9 0 0 := by
    intro n
    induction n using Nat.strongRecOn with
    | ind n ih_L48_26_9 =>
    intro ML48_26_9 v10 IML48_26_9 FML48_26_9 hbL48_26_90 hbL48_26_91 hmL48_26_9
    refine PW.iload_n q_48_26 rfl ?_
    refine PW.cB q_48_27 (by decide) fun c11 hc11 => ?_
    refine PW.jc_ge q_48_29 rfl (fun h12 => ?_) (fun h12 => ?_)
    · skip
      refine PW.cI q_48_53 (by decide) fun c13 hc13 => ?_
      refine PW.istore_n q_48_54 (by decide) ?_
      refine PW.iload_n q_48_55 rfl ?_
      refine PW.cI q_48_56 (by decide) fun c14 hc14 => ?_
      refine PW.jc_ge q_48_57 rfl (fun h15 => False.elim (by omega)) (fun h15 => ?_)
      refine PW.aload_n q_48_60 rfl ?_
      refine PW.gRk q_48_61 (Or.inl t_ft_48_27) gF_5_4 hk_k0 IML48_26_9.1 (by decide) fun b16 hk_b16 e_b16 => ?_
      refine PW.iload_n q_48_64 rfl ?_
      refine PW.aRk q_48_65 rfl (by decide) (by decide) hk_b16 IML48_26_9.1 (by decide) (by omega) (by omega) fun b17 hk_b17 e_b17 => ?_
      have hb_b17 : b17 = k0 + 9 := by rw [e_b17, e_b16]; show k0 + 8 + 1 + 4 * _ = _; omega
      refine PW.aload_n q_48_66 rfl ?_
      refine PW.gRk q_48_67 (Or.inl t_ft_48_27) gF_5_4 hk_k1 IML48_26_9.1 (by decide) fun b18 hk_b18 e_b18 => ?_
      refine PW.iload_n q_48_70 rfl ?_
      refine PW.aRk q_48_71 rfl (by decide) (by decide) hk_b18 IML48_26_9.1 (by decide) (by omega) (by omega) fun b19 hk_b19 e_b19 => ?_
      have hb_b19 : b19 = k1 + 9 := by rw [e_b19, e_b18]; show k1 + 8 + 1 + 4 * _ = _; omega
      refine PW.cV (as := [_]) (rest := []) q_48_72 t_mv_48_67 hk_b17 IML48_26_9.1 (by decide) rfl (by decide) rfl rfl (Nat.le_of_ble_eq_true rfl) (Nat.le_of_ble_eq_true rfl) (by decide) (by decide) ?_
      refine PW.up (by decide) (c_X0_copyFrom (gUp (gFs M) k0 (.int x2)) (gFd M) G _ ML48_26_9 IML48_26_9 b17 hk_b17 b19 hk_b19 fun M20 fd21 hnfd21 hvfd21 IM20 GM20 => ?_)
      have FM20 := Fr.trans FML48_26_9 GM20 (rfl)
      refine PW.incN q_48_75 rfl (by decide) (by decide) (by omega) (by omega) fun x22 hx22 => ?_
      refine PW.goto q_48_78 rfl ?_
      refine PW.iload_n q_48_55 rfl ?_
      refine PW.cI q_48_56 (by decide) fun c23 hc23 => ?_
      refine PW.jc_ge q_48_57 rfl (fun h24 => False.elim (by omega)) (fun h24 => ?_)
      refine PW.aload_n q_48_60 rfl ?_
      refine PW.gRk q_48_61 (Or.inl t_ft_48_27) gF_5_4 hk_k0 IM20.1 (by decide) fun b25 hk_b25 e_b25 => ?_
      refine PW.iload_n q_48_64 rfl ?_
      refine PW.aRk q_48_65 rfl (by decide) (by decide) hk_b25 IM20.1 (by decide) (by omega) (by omega) fun b26 hk_b26 e_b26 => ?_
      have hb_b26 : b26 = k0 + 13 := by rw [e_b26, e_b25]; show k0 + 8 + 1 + 4 * _ = _; omega
      refine PW.aload_n q_48_66 rfl ?_
      refine PW.gRk q_48_67 (Or.inl t_ft_48_27) gF_5_4 hk_k1 IM20.1 (by decide) fun b27 hk_b27 e_b27 => ?_
      refine PW.iload_n q_48_70 rfl ?_
      refine PW.aRk q_48_71 rfl (by decide) (by decide) hk_b27 IM20.1 (by decide) (by omega) (by omega) fun b28 hk_b28 e_b28 => ?_
      have hb_b28 : b28 = k1 + 13 := by rw [e_b28, e_b27]; show k1 + 8 + 1 + 4 * _ = _; omega
      refine PW.cV (as := [_]) (rest := []) q_48_72 t_mv_48_67 hk_b26 IM20.1 (by decide) rfl (by decide) rfl rfl (Nat.le_of_ble_eq_true rfl) (Nat.le_of_ble_eq_true rfl) (by decide) (by decide) ?_
      refine PW.up (by decide) (c_X0_copyFrom (gUp (gFs M) k0 (.int x2)) fd21 G _ M20 IM20 b26 hk_b26 b28 hk_b28 fun M29 fd30 hnfd30 hvfd30 IM29 GM29 => ?_)
      have FM29 := Fr.trans FM20 GM29 (rfl)
      refine PW.incN q_48_75 rfl (by decide) (by decide) (by omega) (by omega) fun x31 hx31 => ?_
      refine PW.goto q_48_78 rfl ?_
      refine PW.iload_n q_48_55 rfl ?_
      refine PW.cI q_48_56 (by decide) fun c32 hc32 => ?_
      refine PW.jc_ge q_48_57 rfl (fun h33 => ?_) (fun h33 => False.elim (by omega))
      refine PW.aload_n q_48_81 rfl ?_
      refine PW.gRk q_48_82 (Or.inl t_ft_48_32) gF_5_5 hk_k1 IM29.1 (by decide) fun b34 hk_b34 e_b34 => ?_
      refine PW.cI q_48_85 (by decide) fun c35 hc35 => ?_
      refine PW.aload_n q_48_86 rfl ?_
      refine PW.gRk q_48_87 (Or.inl t_ft_48_32) gF_5_5 hk_k0 IM29.1 (by decide) fun b36 hk_b36 e_b36 => ?_
      refine PW.cI q_48_90 (by decide) fun c37 hc37 => ?_
      refine PW.aload_n q_48_91 rfl ?_
      refine PW.gRk q_48_92 (Or.inl t_ft_48_32) gF_5_5 hk_k0 IM29.1 (by decide) fun b38 hk_b38 e_b38 => ?_
      refine PW.al1 q_48_95 rfl hk_b38 IM29.1 (by decide) (by decide) fun c39 hc39 => ?_
      refine PW.cp q_48_96 t_mj_48_70 gA_13 hk_b34 hk_b36 (gSpS _ _) IM29 (by decide) rfl (by omega) (by omega) (by omega) (by omega) (fun _ _ => rfl) (by decide) (Nat.le_of_ble_eq_true rfl) fun M40 IM40 UM40 => ?_
      have FM40 := Fr.pu FM29 UM40 hk_b36 (rfl : List.contains [5, 7, 9, 10, 11, 12, 13] 13 = true)
      refine PW.vret q_48_99 rfl (by decide) (by decide) ?_
      have T41 : gTT M40 := by
        have qT := I.2.1 k1 hk_k1
        rw [o_i_gvi, o_i_gvi, o_i_gvi, fx2] at qT
        have hne : k1 + 13 ≠ k0 + 9 := by
          by_cases e : k1 = k0
          · omega
          · exact (g_dd hk_k1 hk_k0 e).2.2.1
        refine gSp.T (k := k0) I.2.1 IM40.2 hk_k0 (fun a h => gUp_ne h) (fun a h h13 => ?_) ?_ ?_
        · rw [hnfd30 a (by rw [hb_b26]; exact h13), hnfd21 a (by rw [hb_b17]; exact h)]
        · rw [gUp_eq, hnfd30 (k0 + 9) (by rw [hb_b26]; omega), ← hb_b17, hvfd21, hb_b19]; exact qT.1
        · rw [gUp_eq, ← hb_b26, hvfd30, hb_b28, hnfd21 (k1 + 13) (by rw [hb_b17]; exact hne)]; exact qT.2
      exact hK M40 ⟨IM40.1, T41⟩ FM40
    · skip
      refine PW.aload_n q_48_32 rfl ?_
      refine PW.gRk q_48_33 (Or.inl t_ft_48_20) gF_5_3 hk_k0 IML48_26_9.1 (by decide) fun b42 hk_b42 e_b42 => ?_
      refine PW.iload_n q_48_36 rfl ?_
      refine PW.aRk q_48_37 rfl (by decide) (by decide) hk_b42 IML48_26_9.1 (by decide) (by omega) (by omega) fun b43 hk_b43 e_b43 => ?_
      refine PW.aload_n q_48_38 rfl ?_
      refine PW.gRk q_48_39 (Or.inl t_ft_48_20) gF_5_3 hk_k1 IML48_26_9.1 (by decide) fun b44 hk_b44 e_b44 => ?_
      refine PW.iload_n q_48_42 rfl ?_
      refine PW.aRk q_48_43 rfl (by decide) (by decide) hk_b44 IML48_26_9.1 (by decide) (by omega) (by omega) fun b45 hk_b45 e_b45 => ?_
      refine PW.cV (as := [_]) (rest := []) q_48_44 t_mv_48_63 hk_b43 IML48_26_9.1 (by decide) rfl (by decide) rfl rfl (Nat.le_of_ble_eq_true rfl) (Nat.le_of_ble_eq_true rfl) (by decide) (by decide) ?_
      refine PW.up (by decide) (c_X8_copyFrom (gSp (gUp (gFs M) k0 (.int x2)) (gFd M)) ((gSpS _ _)) G _ ML48_26_9 IML48_26_9 b43 hk_b43 b45 hk_b45 fun M46 IM46 GM46 => ?_)
      have FM46 := Fr.trans FML48_26_9 GM46 (rfl)
      refine PW.incN q_48_47 rfl (by decide) (by decide) (by omega) (by omega) fun x47 hx47 => ?_
      refine PW.goto q_48_50 rfl ?_
      refine PW.lvS (lk1 rfl (lk1 rfl (lk1 rfl lk0))) (ih_L48_26_9 _ ?_ M46 x47 IM46 FM46 (by omega) (by omega) rfl)
      omega
  exact PW.lvS (lk1 rfl (lk1 rfl (lk1 rfl lk0))) (L48_26_9 _ M7 c8 IM7 FM7 (by omega) (by omega) rfl)
theorem c_X5_begin (G : pG) (Kr : pK) (M : pM) (I : Iv gTT M) (k0 : Nat) (hk_k0 : g_kd k0 = 5) (k1 : Nat) (hk_k1 : g_kd k1 = 4) (hp_0 : gS1 k1 M) (hK : ∀ (M1 : pM), Iv gTT M1 → Fr [5, 7, 9, 10, 13] M M1 → Kr.1 none 311 M1) : PW G false 2 47 (p_mc 47) (p_msl 47) Kr 0 (lv_args 0 [.ref k0, .ref k1]) [] 311 M 0 0 := by
  have F : Fr [5, 7, 9, 10, 13] M M := Fr.refl
  have Q1 := gSp.of I
  refine PW.aload_n q_47_0 rfl ?_
  refine PW.cI q_47_1 (by decide) fun c2 hc2 => ?_
  refine PW.pC q_47_2 (Or.inl t_ft_47_36) gF_5_0 gP_5_0 hk_k0 Q1 (by decide) ⟨rfl, rfl⟩ (by omega) (by omega) fun M3 IM3 fM3 UM3 => ?_
  have FM3 := Fr.pu F UM3.1 hk_k0 (rfl : List.contains [5, 7, 9, 10, 13] 5 = true)
  refine PW.aload_n q_47_5 rfl ?_
  refine PW.cI q_47_6 (by decide) fun c4 hc4 => ?_
  refine PW.pI q_47_7 (Or.inl t_ft_47_9) gF_5_1 gP_5_1 hk_k0 (gSpS _ _) IM3 (by decide) rfl (n_lo _) (n_hi _) fun M5 IM5 fM5 UM5 => ?_
  have FM5 := Fr.pu FM3 UM5.1 hk_k0 (rfl : List.contains [5, 7, 9, 10, 13] 5 = true)
  refine PW.aload_n q_47_10 rfl ?_
  refine PW.cI q_47_11 (by decide) fun c6 hc6 => ?_
  refine PW.pI q_47_12 (Or.inl t_ft_47_15) gF_5_2 gP_5_2 hk_k0 (gSpS _ _) IM5 (by decide) rfl (n_lo _) (n_hi _) fun M7 IM7 fM7 UM7 => ?_
  have FM7 := Fr.pu FM5 UM7.1 hk_k0 (rfl : List.contains [5, 7, 9, 10, 13] 5 = true)
  refine PW.cI q_47_15 (by decide) fun c8 hc8 => ?_
  refine PW.istore_n q_47_16 (by decide) ?_
  have L47_17_9 : ∀ (n : Nat) (ML47_17_9 : pM) (v10 : Int32), Iv (gSp (gUp (gFs M) k0 (.int c2)) (gFd M)) ML47_17_9 → Fr [5, 7, 9, 10, 13] M ML47_17_9 → 0 ≤ v10.toInt → v10.toInt ≤ 6 → (6 - v10.toInt).toNat = n → PW G false 2 47 (p_mc 47) (p_msl 47) Kr 17 [(0, .ref k0), (1, .ref k1), (2, .int v10)] [] 311 ML47_17_9 0 0 := by
    intro n
    induction n using Nat.strongRecOn with
    | ind n ih_L47_17_9 =>
    intro ML47_17_9 v10 IML47_17_9 FML47_17_9 hbL47_17_90 hbL47_17_91 hmL47_17_9
    refine PW.iload_n q_47_17 rfl ?_
    refine PW.cB q_47_18 (by decide) fun c11 hc11 => ?_
    refine PW.jc_ge q_47_20 rfl (fun h12 => ?_) (fun h12 => ?_)
    · skip
      refine PW.cI q_47_50 (by decide) fun c13 hc13 => ?_
      refine PW.istore_n q_47_51 (by decide) ?_
      refine PW.iload_n q_47_52 rfl ?_
      refine PW.cI q_47_53 (by decide) fun c14 hc14 => ?_
      refine PW.jc_ge q_47_54 rfl (fun h15 => False.elim (by omega)) (fun h15 => ?_)
      refine PW.iload_n q_47_57 rfl ?_
      refine PW.aload_n q_47_58 rfl ?_
      refine PW.gI q_47_59 (Or.inr t_fN_47_52) gF_4_7 hk_k1 IML47_17_9.1 (by decide) fun x16 fx16 hx16 kx16 => ?_
      refine PW.jc_ge q_47_62 rfl (fun h17 => ?_) (fun h17 => ?_)
      · skip
        refine PW.cI q_47_69 (by decide) fun c18 hc18 => ?_
        refine PW.istore_n q_47_70 (by decide) ?_
        refine PW.iload_n q_47_71 rfl ?_
        refine PW.jz_eq q_47_72 rfl (fun h19 => ?_) (fun h19 => False.elim (by omega))
        refine PW.cI q_47_84 (by decide) fun c20 hc20 => ?_
        refine PW.istore q_47_85 (by decide) ?_
        refine PW.aload_n q_47_87 rfl ?_
        refine PW.gRk q_47_88 (Or.inl t_ft_47_27) gF_5_4 hk_k0 IML47_17_9.1 (by decide) fun b21 hk_b21 e_b21 => ?_
        refine PW.iload_n q_47_91 rfl ?_
        refine PW.aRk q_47_92 rfl (by decide) (by decide) hk_b21 IML47_17_9.1 (by decide) (by omega) (by omega) fun b22 hk_b22 e_b22 => ?_
        have hb_b22 : b22 = k0 + 9 := by rw [e_b22, e_b21]; show k0 + 8 + 1 + 4 * _ = _; omega
        refine PW.aload_n q_47_93 rfl ?_
        refine PW.gRk q_47_94 (Or.inr t_fN_47_39) gF_4_9 hk_k1 IML47_17_9.1 (by decide) fun b23 hk_b23 e_b23 => ?_
        refine PW.iload q_47_97 rfl ?_
        refine PW.aH q_47_99 gA_28 hk_b23 IML47_17_9.1 (by decide) (by omega) (by omega) fun x24 fx24 => ?_
        refine PW.iload_n q_47_100 rfl ?_
        refine PW.jz_eq q_47_101 rfl (fun h25 => ?_) (fun h25 => False.elim (by omega))
        refine PW.cI q_47_113 (by decide) fun c26 hc26 => ?_
        refine PW.iload q_47_114 rfl ?_
        refine PW.cV (as := [_, _, _]) (rest := []) q_47_116 t_mv_47_60 hk_b22 IML47_17_9.1 (by decide) rfl (by decide) rfl rfl (Nat.le_of_ble_eq_true rfl) (Nat.le_of_ble_eq_true rfl) (by decide) (by decide) ?_
        refine PW.up (by decide) (c_X0_begin (gUp (gFs M) k0 (.int c2)) (gFd M) G _ ML47_17_9 IML47_17_9 b22 hk_b22 x24 c26 c20 (by omega) (by omega) fun M27 fd28 hnfd28 hvfd28 IM27 GM27 => ?_)
        have FM27 := Fr.trans FML47_17_9 GM27 (rfl)
        refine PW.incN q_47_119 rfl (by decide) (by decide) (by omega) (by omega) fun x29 hx29 => ?_
        refine PW.goto q_47_122 rfl ?_
        refine PW.iload_n q_47_52 rfl ?_
        refine PW.cI q_47_53 (by decide) fun c30 hc30 => ?_
        refine PW.jc_ge q_47_54 rfl (fun h31 => False.elim (by omega)) (fun h31 => ?_)
        refine PW.iload_n q_47_57 rfl ?_
        refine PW.aload_n q_47_58 rfl ?_
        refine PW.gE q_47_59 (Or.inr t_fN_47_52) gF_4_7 hk_k1 IM27.1 (by decide) ((congrArg (fun e => o_f e 7) (Fr.at GM27 hk_k1 (by decide))).trans fx16) ?_
        refine PW.jc_ge q_47_62 rfl (fun h32 => ?_) (fun h32 => False.elim (by omega))
        refine PW.cI q_47_69 (by decide) fun c33 hc33 => ?_
        refine PW.istore_n q_47_70 (by decide) ?_
        refine PW.iload_n q_47_71 rfl ?_
        refine PW.jz_eq q_47_72 rfl (fun h34 => ?_) (fun h34 => False.elim (by omega))
        refine PW.cI q_47_84 (by decide) fun c35 hc35 => ?_
        refine PW.istore q_47_85 (by decide) ?_
        refine PW.aload_n q_47_87 rfl ?_
        refine PW.gRk q_47_88 (Or.inl t_ft_47_27) gF_5_4 hk_k0 IM27.1 (by decide) fun b36 hk_b36 e_b36 => ?_
        refine PW.iload_n q_47_91 rfl ?_
        refine PW.aRk q_47_92 rfl (by decide) (by decide) hk_b36 IM27.1 (by decide) (by omega) (by omega) fun b37 hk_b37 e_b37 => ?_
        have hb_b37 : b37 = k0 + 13 := by rw [e_b37, e_b36]; show k0 + 8 + 1 + 4 * _ = _; omega
        refine PW.aload_n q_47_93 rfl ?_
        refine PW.gRk q_47_94 (Or.inr t_fN_47_39) gF_4_9 hk_k1 IM27.1 (by decide) fun b38 hk_b38 e_b38 => ?_
        refine PW.iload q_47_97 rfl ?_
        refine PW.aH q_47_99 gA_28 hk_b38 IM27.1 (by decide) (by omega) (by omega) fun x39 fx39 => ?_
        refine PW.iload_n q_47_100 rfl ?_
        refine PW.jz_eq q_47_101 rfl (fun h40 => ?_) (fun h40 => False.elim (by omega))
        refine PW.cI q_47_113 (by decide) fun c41 hc41 => ?_
        refine PW.iload q_47_114 rfl ?_
        refine PW.cV (as := [_, _, _]) (rest := []) q_47_116 t_mv_47_60 hk_b37 IM27.1 (by decide) rfl (by decide) rfl rfl (Nat.le_of_ble_eq_true rfl) (Nat.le_of_ble_eq_true rfl) (by decide) (by decide) ?_
        refine PW.up (by decide) (c_X0_begin (gUp (gFs M) k0 (.int c2)) fd28 G _ M27 IM27 b37 hk_b37 x39 c41 c35 (by omega) (by omega) fun M42 fd43 hnfd43 hvfd43 IM42 GM42 => ?_)
        have FM42 := Fr.trans FM27 GM42 (rfl)
        refine PW.incN q_47_119 rfl (by decide) (by decide) (by omega) (by omega) fun x44 hx44 => ?_
        refine PW.goto q_47_122 rfl ?_
        refine PW.iload_n q_47_52 rfl ?_
        refine PW.cI q_47_53 (by decide) fun c45 hc45 => ?_
        refine PW.jc_ge q_47_54 rfl (fun h46 => ?_) (fun h46 => False.elim (by omega))
        refine PW.cI q_47_125 (by decide) fun c47 hc47 => ?_
        refine PW.istore_n q_47_126 (by decide) ?_
        have L47_127_48 : ∀ (n : Nat) (ML47_127_48 : pM) (v49 : Int32), Iv (gSp (gUp (gFs M) k0 (.int c2)) fd43) ML47_127_48 → Fr [5, 7, 9, 10, 13] M ML47_127_48 → 0 ≤ v49.toInt → v49.toInt ≤ 36 → (36 - v49.toInt).toNat = n → PW G false 2 47 (p_mc 47) (p_msl 47) Kr 127 [(0, .ref k0), (1, .ref k1), (2, .int v49), (3, .int c33), (4, .int c35)] [] 311 ML47_127_48 0 0 := by
          intro n
          induction n using Nat.strongRecOn with
          | ind n ih_L47_127_48 =>
          intro ML47_127_48 v49 IML47_127_48 FML47_127_48 hbL47_127_480 hbL47_127_481 hmL47_127_48
          refine PW.iload_n q_47_127 rfl ?_
          refine PW.aload_n q_47_128 rfl ?_
          refine PW.gRk q_47_129 (Or.inl t_ft_47_32) gF_5_5 hk_k0 IML47_127_48.1 (by decide) fun b50 hk_b50 e_b50 => ?_
          refine PW.al1 q_47_132 rfl hk_b50 IML47_127_48.1 (by decide) (by decide) fun c51 hc51 => ?_
          refine PW.jc_ge q_47_133 rfl (fun h52 => ?_) (fun h52 => ?_)
          · skip
            refine PW.vret q_47_149 rfl (by decide) (by decide) ?_
            have T53 : gTT ML47_127_48 := by
              refine gSp.T (k := k0) I.2.1 IML47_127_48.2 hk_k0 (fun a h => gUp_ne h) (fun a h h13 => ?_) ?_ ?_
              · rw [hnfd43 a (by rw [hb_b37]; exact h13), hnfd28 a (by rw [hb_b22]; exact h)]
              · rw [gUp_eq, hnfd43 (k0 + 9) (by rw [hb_b37]; omega), ← hb_b22, hvfd28]; show 0 ≤ c2.toInt; omega
              · rw [gUp_eq, ← hb_b37, hvfd43]; show 0 ≤ c2.toInt; omega
            exact hK ML47_127_48 ⟨IML47_127_48.1, T53⟩ FML47_127_48
          · skip
            refine PW.aload_n q_47_136 rfl ?_
            refine PW.gRk q_47_137 (Or.inl t_ft_47_32) gF_5_5 hk_k0 IML47_127_48.1 (by decide) fun b54 hk_b54 e_b54 => ?_
            refine PW.iload_n q_47_140 rfl ?_
            refine PW.cI q_47_141 (by decide) fun c55 hc55 => ?_
            refine PW.wI q_47_142 gA_13 hk_b54 (gSpS _ _) IML47_127_48 (by decide) rfl gC_13_0_35 (by decide) (by omega) (by omega) (n_lo _) (n_hi _) fun M56 IM56 fM56 UM56 => ?_
            have FM56 := Fr.pu FML47_127_48 UM56.1 hk_b54 (rfl : List.contains [5, 7, 9, 10, 13] 13 = true)
            refine PW.incN q_47_143 rfl (by decide) (by decide) (by omega) (by omega) fun x57 hx57 => ?_
            refine PW.goto q_47_146 rfl ?_
            refine PW.lvS (lk1 rfl (lk1 rfl (lk1 rfl (lk1 rfl (lk1 rfl lk0))))) (ih_L47_127_48 _ ?_ M56 x57 IM56 FM56 (by omega) (by omega) rfl)
            omega
        exact PW.lvS (lk1 rfl (lk1 rfl (lk1 rfl (lk1 rfl (lk1 rfl lk0))))) (L47_127_48 _ M42 c47 IM42 FM42 (by omega) (by omega) rfl)
      · skip
        refine PW.cI q_47_65 (by decide) fun c58 hc58 => ?_
        refine PW.goto q_47_66 rfl ?_
        refine PW.istore_n q_47_70 (by decide) ?_
        refine PW.iload_n q_47_71 rfl ?_
        refine PW.jz_eq q_47_72 rfl (fun h59 => False.elim (by omega)) (fun h59 => ?_)
        refine PW.aload_n q_47_75 rfl ?_
        refine PW.gRk q_47_76 (Or.inr t_fN_47_54) gF_4_13 hk_k1 IML47_17_9.1 (by decide) fun b60 hk_b60 e_b60 => ?_
        refine PW.iload_n q_47_79 rfl ?_
        refine PW.aI q_47_80 gA_32 hk_b60 IML47_17_9.1 (by decide) gB_32_0_0 (by decide) (by omega) (by omega) fun x61 fx61 hx61 kx61 => ?_
        have hs62 : 0 ≤ x61.toInt := by
          have q := hp_0 c13.toInt.toNat
          have qa : o_i (M k1) 7 = x16.toInt := by rw [← Fr.at FML47_17_9 hk_k1 rfl]; exact o_i_of fx16
          have qe : b60 = k1 + 6 := e_b60
          have qb : o_a (M (k1 + 6)) c13.toInt.toNat = x61 := by rw [← qe, ← Fr.at FML47_17_9 hk_b60 rfl]; exact fx61
          rw [qa, qb] at q
          exact q (by omega)
        refine PW.goto q_47_81 rfl ?_
        refine PW.istore q_47_85 (by decide) ?_
        refine PW.aload_n q_47_87 rfl ?_
        refine PW.gRk q_47_88 (Or.inl t_ft_47_27) gF_5_4 hk_k0 IML47_17_9.1 (by decide) fun b63 hk_b63 e_b63 => ?_
        refine PW.iload_n q_47_91 rfl ?_
        refine PW.aRk q_47_92 rfl (by decide) (by decide) hk_b63 IML47_17_9.1 (by decide) (by omega) (by omega) fun b64 hk_b64 e_b64 => ?_
        have hb_b64 : b64 = k0 + 9 := by rw [e_b64, e_b63]; show k0 + 8 + 1 + 4 * _ = _; omega
        refine PW.aload_n q_47_93 rfl ?_
        refine PW.gRk q_47_94 (Or.inr t_fN_47_39) gF_4_9 hk_k1 IML47_17_9.1 (by decide) fun b65 hk_b65 e_b65 => ?_
        refine PW.iload q_47_97 rfl ?_
        refine PW.aH q_47_99 gA_28 hk_b65 IML47_17_9.1 (by decide) (by omega) (by omega) fun x66 fx66 => ?_
        refine PW.iload_n q_47_100 rfl ?_
        refine PW.jz_eq q_47_101 rfl (fun h67 => False.elim (by omega)) (fun h67 => ?_)
        refine PW.aload_n q_47_104 rfl ?_
        refine PW.gRk q_47_105 (Or.inr t_fN_47_57) gF_4_14 hk_k1 IML47_17_9.1 (by decide) fun b68 hk_b68 e_b68 => ?_
        refine PW.iload_n q_47_108 rfl ?_
        refine PW.aH q_47_109 gA_33 hk_b68 IML47_17_9.1 (by decide) (by omega) (by omega) fun x69 fx69 => ?_
        refine PW.goto q_47_110 rfl ?_
        refine PW.iload q_47_114 rfl ?_
        refine PW.cV (as := [_, _, _]) (rest := []) q_47_116 t_mv_47_60 hk_b64 IML47_17_9.1 (by decide) rfl (by decide) rfl rfl (Nat.le_of_ble_eq_true rfl) (Nat.le_of_ble_eq_true rfl) (by decide) (by decide) ?_
        refine PW.up (by decide) (c_X0_begin (gUp (gFs M) k0 (.int c2)) (gFd M) G _ ML47_17_9 IML47_17_9 b64 hk_b64 x66 x69 x61 (by omega) (by omega) fun M70 fd71 hnfd71 hvfd71 IM70 GM70 => ?_)
        have FM70 := Fr.trans FML47_17_9 GM70 (rfl)
        refine PW.incN q_47_119 rfl (by decide) (by decide) (by omega) (by omega) fun x72 hx72 => ?_
        refine PW.goto q_47_122 rfl ?_
        refine PW.iload_n q_47_52 rfl ?_
        refine PW.cI q_47_53 (by decide) fun c73 hc73 => ?_
        refine PW.jc_ge q_47_54 rfl (fun h74 => False.elim (by omega)) (fun h74 => ?_)
        refine PW.iload_n q_47_57 rfl ?_
        refine PW.aload_n q_47_58 rfl ?_
        refine PW.gE q_47_59 (Or.inr t_fN_47_52) gF_4_7 hk_k1 IM70.1 (by decide) ((congrArg (fun e => o_f e 7) (Fr.at GM70 hk_k1 (by decide))).trans fx16) ?_
        refine PW.jc_ge q_47_62 rfl (fun h75 => ?_) (fun h75 => ?_)
        · skip
          refine PW.cI q_47_69 (by decide) fun c76 hc76 => ?_
          refine PW.istore_n q_47_70 (by decide) ?_
          refine PW.iload_n q_47_71 rfl ?_
          refine PW.jz_eq q_47_72 rfl (fun h77 => ?_) (fun h77 => False.elim (by omega))
          refine PW.cI q_47_84 (by decide) fun c78 hc78 => ?_
          refine PW.istore q_47_85 (by decide) ?_
          refine PW.aload_n q_47_87 rfl ?_
          refine PW.gRk q_47_88 (Or.inl t_ft_47_27) gF_5_4 hk_k0 IM70.1 (by decide) fun b79 hk_b79 e_b79 => ?_
          refine PW.iload_n q_47_91 rfl ?_
          refine PW.aRk q_47_92 rfl (by decide) (by decide) hk_b79 IM70.1 (by decide) (by omega) (by omega) fun b80 hk_b80 e_b80 => ?_
          have hb_b80 : b80 = k0 + 13 := by rw [e_b80, e_b79]; show k0 + 8 + 1 + 4 * _ = _; omega
          refine PW.aload_n q_47_93 rfl ?_
          refine PW.gRk q_47_94 (Or.inr t_fN_47_39) gF_4_9 hk_k1 IM70.1 (by decide) fun b81 hk_b81 e_b81 => ?_
          refine PW.iload q_47_97 rfl ?_
          refine PW.aH q_47_99 gA_28 hk_b81 IM70.1 (by decide) (by omega) (by omega) fun x82 fx82 => ?_
          refine PW.iload_n q_47_100 rfl ?_
          refine PW.jz_eq q_47_101 rfl (fun h83 => ?_) (fun h83 => False.elim (by omega))
          refine PW.cI q_47_113 (by decide) fun c84 hc84 => ?_
          refine PW.iload q_47_114 rfl ?_
          refine PW.cV (as := [_, _, _]) (rest := []) q_47_116 t_mv_47_60 hk_b80 IM70.1 (by decide) rfl (by decide) rfl rfl (Nat.le_of_ble_eq_true rfl) (Nat.le_of_ble_eq_true rfl) (by decide) (by decide) ?_
          refine PW.up (by decide) (c_X0_begin (gUp (gFs M) k0 (.int c2)) fd71 G _ M70 IM70 b80 hk_b80 x82 c84 c78 (by omega) (by omega) fun M85 fd86 hnfd86 hvfd86 IM85 GM85 => ?_)
          have FM85 := Fr.trans FM70 GM85 (rfl)
          refine PW.incN q_47_119 rfl (by decide) (by decide) (by omega) (by omega) fun x87 hx87 => ?_
          refine PW.goto q_47_122 rfl ?_
          refine PW.iload_n q_47_52 rfl ?_
          refine PW.cI q_47_53 (by decide) fun c88 hc88 => ?_
          refine PW.jc_ge q_47_54 rfl (fun h89 => ?_) (fun h89 => False.elim (by omega))
          refine PW.cI q_47_125 (by decide) fun c90 hc90 => ?_
          refine PW.istore_n q_47_126 (by decide) ?_
          have L47_127_91 : ∀ (n : Nat) (ML47_127_91 : pM) (v92 : Int32), Iv (gSp (gUp (gFs M) k0 (.int c2)) fd86) ML47_127_91 → Fr [5, 7, 9, 10, 13] M ML47_127_91 → 0 ≤ v92.toInt → v92.toInt ≤ 36 → (36 - v92.toInt).toNat = n → PW G false 2 47 (p_mc 47) (p_msl 47) Kr 127 [(0, .ref k0), (1, .ref k1), (2, .int v92), (3, .int c76), (4, .int c78)] [] 311 ML47_127_91 0 0 := by
            intro n
            induction n using Nat.strongRecOn with
            | ind n ih_L47_127_91 =>
            intro ML47_127_91 v92 IML47_127_91 FML47_127_91 hbL47_127_910 hbL47_127_911 hmL47_127_91
            refine PW.iload_n q_47_127 rfl ?_
            refine PW.aload_n q_47_128 rfl ?_
            refine PW.gRk q_47_129 (Or.inl t_ft_47_32) gF_5_5 hk_k0 IML47_127_91.1 (by decide) fun b93 hk_b93 e_b93 => ?_
            refine PW.al1 q_47_132 rfl hk_b93 IML47_127_91.1 (by decide) (by decide) fun c94 hc94 => ?_
            refine PW.jc_ge q_47_133 rfl (fun h95 => ?_) (fun h95 => ?_)
            · skip
              refine PW.vret q_47_149 rfl (by decide) (by decide) ?_
              have T96 : gTT ML47_127_91 := by
                refine gSp.T (k := k0) I.2.1 IML47_127_91.2 hk_k0 (fun a h => gUp_ne h) (fun a h h13 => ?_) ?_ ?_
                · rw [hnfd86 a (by rw [hb_b80]; exact h13), hnfd71 a (by rw [hb_b64]; exact h)]
                · rw [gUp_eq, hnfd86 (k0 + 9) (by rw [hb_b80]; omega), ← hb_b64, hvfd71]; show 0 ≤ c2.toInt; omega
                · rw [gUp_eq, ← hb_b80, hvfd86]; show 0 ≤ c2.toInt; omega
              exact hK ML47_127_91 ⟨IML47_127_91.1, T96⟩ FML47_127_91
            · skip
              refine PW.aload_n q_47_136 rfl ?_
              refine PW.gRk q_47_137 (Or.inl t_ft_47_32) gF_5_5 hk_k0 IML47_127_91.1 (by decide) fun b97 hk_b97 e_b97 => ?_
              refine PW.iload_n q_47_140 rfl ?_
              refine PW.cI q_47_141 (by decide) fun c98 hc98 => ?_
              refine PW.wI q_47_142 gA_13 hk_b97 (gSpS _ _) IML47_127_91 (by decide) rfl gC_13_0_35 (by decide) (by omega) (by omega) (n_lo _) (n_hi _) fun M99 IM99 fM99 UM99 => ?_
              have FM99 := Fr.pu FML47_127_91 UM99.1 hk_b97 (rfl : List.contains [5, 7, 9, 10, 13] 13 = true)
              refine PW.incN q_47_143 rfl (by decide) (by decide) (by omega) (by omega) fun x100 hx100 => ?_
              refine PW.goto q_47_146 rfl ?_
              refine PW.lvS (lk1 rfl (lk1 rfl (lk1 rfl (lk1 rfl (lk1 rfl lk0))))) (ih_L47_127_91 _ ?_ M99 x100 IM99 FM99 (by omega) (by omega) rfl)
              omega
          exact PW.lvS (lk1 rfl (lk1 rfl (lk1 rfl (lk1 rfl (lk1 rfl lk0))))) (L47_127_91 _ M85 c90 IM85 FM85 (by omega) (by omega) rfl)
        · skip
          refine PW.cI q_47_65 (by decide) fun c101 hc101 => ?_
          refine PW.goto q_47_66 rfl ?_
          refine PW.istore_n q_47_70 (by decide) ?_
          refine PW.iload_n q_47_71 rfl ?_
          refine PW.jz_eq q_47_72 rfl (fun h102 => False.elim (by omega)) (fun h102 => ?_)
          refine PW.aload_n q_47_75 rfl ?_
          refine PW.gRk q_47_76 (Or.inr t_fN_47_54) gF_4_13 hk_k1 IM70.1 (by decide) fun b103 hk_b103 e_b103 => ?_
          refine PW.iload_n q_47_79 rfl ?_
          refine PW.aI q_47_80 gA_32 hk_b103 IM70.1 (by decide) gB_32_1_1 (by decide) (by omega) (by omega) fun x104 fx104 hx104 kx104 => ?_
          have hs105 : 0 ≤ x104.toInt := by
            have q := hp_0 x72.toInt.toNat
            have qa : o_i (M k1) 7 = x16.toInt := by rw [← Fr.at FM70 hk_k1 rfl]; exact o_i_of ((congrArg (fun e => o_f e 7) (Fr.at GM70 hk_k1 (by decide))).trans fx16)
            have qe : b103 = k1 + 6 := e_b103
            have qb : o_a (M (k1 + 6)) x72.toInt.toNat = x104 := by rw [← qe, ← Fr.at FM70 hk_b103 rfl]; exact fx104
            rw [qa, qb] at q
            exact q (by omega)
          refine PW.goto q_47_81 rfl ?_
          refine PW.istore q_47_85 (by decide) ?_
          refine PW.aload_n q_47_87 rfl ?_
          refine PW.gRk q_47_88 (Or.inl t_ft_47_27) gF_5_4 hk_k0 IM70.1 (by decide) fun b106 hk_b106 e_b106 => ?_
          refine PW.iload_n q_47_91 rfl ?_
          refine PW.aRk q_47_92 rfl (by decide) (by decide) hk_b106 IM70.1 (by decide) (by omega) (by omega) fun b107 hk_b107 e_b107 => ?_
          have hb_b107 : b107 = k0 + 13 := by rw [e_b107, e_b106]; show k0 + 8 + 1 + 4 * _ = _; omega
          refine PW.aload_n q_47_93 rfl ?_
          refine PW.gRk q_47_94 (Or.inr t_fN_47_39) gF_4_9 hk_k1 IM70.1 (by decide) fun b108 hk_b108 e_b108 => ?_
          refine PW.iload q_47_97 rfl ?_
          refine PW.aH q_47_99 gA_28 hk_b108 IM70.1 (by decide) (by omega) (by omega) fun x109 fx109 => ?_
          refine PW.iload_n q_47_100 rfl ?_
          refine PW.jz_eq q_47_101 rfl (fun h110 => False.elim (by omega)) (fun h110 => ?_)
          refine PW.aload_n q_47_104 rfl ?_
          refine PW.gRk q_47_105 (Or.inr t_fN_47_57) gF_4_14 hk_k1 IM70.1 (by decide) fun b111 hk_b111 e_b111 => ?_
          refine PW.iload_n q_47_108 rfl ?_
          refine PW.aH q_47_109 gA_33 hk_b111 IM70.1 (by decide) (by omega) (by omega) fun x112 fx112 => ?_
          refine PW.goto q_47_110 rfl ?_
          refine PW.iload q_47_114 rfl ?_
          refine PW.cV (as := [_, _, _]) (rest := []) q_47_116 t_mv_47_60 hk_b107 IM70.1 (by decide) rfl (by decide) rfl rfl (Nat.le_of_ble_eq_true rfl) (Nat.le_of_ble_eq_true rfl) (by decide) (by decide) ?_
          refine PW.up (by decide) (c_X0_begin (gUp (gFs M) k0 (.int c2)) fd71 G _ M70 IM70 b107 hk_b107 x109 x112 x104 (by omega) (by omega) fun M113 fd114 hnfd114 hvfd114 IM113 GM113 => ?_)
          have FM113 := Fr.trans FM70 GM113 (rfl)
          refine PW.incN q_47_119 rfl (by decide) (by decide) (by omega) (by omega) fun x115 hx115 => ?_
          refine PW.goto q_47_122 rfl ?_
          refine PW.iload_n q_47_52 rfl ?_
          refine PW.cI q_47_53 (by decide) fun c116 hc116 => ?_
          refine PW.jc_ge q_47_54 rfl (fun h117 => ?_) (fun h117 => False.elim (by omega))
          refine PW.cI q_47_125 (by decide) fun c118 hc118 => ?_
          refine PW.istore_n q_47_126 (by decide) ?_
          have L47_127_119 : ∀ (n : Nat) (ML47_127_119 : pM) (v120 : Int32), Iv (gSp (gUp (gFs M) k0 (.int c2)) fd114) ML47_127_119 → Fr [5, 7, 9, 10, 13] M ML47_127_119 → 0 ≤ v120.toInt → v120.toInt ≤ 36 → (36 - v120.toInt).toNat = n → PW G false 2 47 (p_mc 47) (p_msl 47) Kr 127 [(0, .ref k0), (1, .ref k1), (2, .int v120), (3, .int c101), (4, .int x104)] [] 311 ML47_127_119 0 0 := by
            intro n
            induction n using Nat.strongRecOn with
            | ind n ih_L47_127_119 =>
            intro ML47_127_119 v120 IML47_127_119 FML47_127_119 hbL47_127_1190 hbL47_127_1191 hmL47_127_119
            refine PW.iload_n q_47_127 rfl ?_
            refine PW.aload_n q_47_128 rfl ?_
            refine PW.gRk q_47_129 (Or.inl t_ft_47_32) gF_5_5 hk_k0 IML47_127_119.1 (by decide) fun b121 hk_b121 e_b121 => ?_
            refine PW.al1 q_47_132 rfl hk_b121 IML47_127_119.1 (by decide) (by decide) fun c122 hc122 => ?_
            refine PW.jc_ge q_47_133 rfl (fun h123 => ?_) (fun h123 => ?_)
            · skip
              refine PW.vret q_47_149 rfl (by decide) (by decide) ?_
              have T124 : gTT ML47_127_119 := by
                refine gSp.T (k := k0) I.2.1 IML47_127_119.2 hk_k0 (fun a h => gUp_ne h) (fun a h h13 => ?_) ?_ ?_
                · rw [hnfd114 a (by rw [hb_b107]; exact h13), hnfd71 a (by rw [hb_b64]; exact h)]
                · rw [gUp_eq, hnfd114 (k0 + 9) (by rw [hb_b107]; omega), ← hb_b64, hvfd71]; show 0 ≤ c2.toInt; omega
                · rw [gUp_eq, ← hb_b107, hvfd114]; show 0 ≤ c2.toInt; omega
              exact hK ML47_127_119 ⟨IML47_127_119.1, T124⟩ FML47_127_119
            · skip
              refine PW.aload_n q_47_136 rfl ?_
              refine PW.gRk q_47_137 (Or.inl t_ft_47_32) gF_5_5 hk_k0 IML47_127_119.1 (by decide) fun b125 hk_b125 e_b125 => ?_
              refine PW.iload_n q_47_140 rfl ?_
              refine PW.cI q_47_141 (by decide) fun c126 hc126 => ?_
              refine PW.wI q_47_142 gA_13 hk_b125 (gSpS _ _) IML47_127_119 (by decide) rfl gC_13_0_35 (by decide) (by omega) (by omega) (n_lo _) (n_hi _) fun M127 IM127 fM127 UM127 => ?_
              have FM127 := Fr.pu FML47_127_119 UM127.1 hk_b125 (rfl : List.contains [5, 7, 9, 10, 13] 13 = true)
              refine PW.incN q_47_143 rfl (by decide) (by decide) (by omega) (by omega) fun x128 hx128 => ?_
              refine PW.goto q_47_146 rfl ?_
              refine PW.lvS (lk1 rfl (lk1 rfl (lk1 rfl (lk1 rfl (lk1 rfl lk0))))) (ih_L47_127_119 _ ?_ M127 x128 IM127 FM127 (by omega) (by omega) rfl)
              omega
          exact PW.lvS (lk1 rfl (lk1 rfl (lk1 rfl (lk1 rfl (lk1 rfl lk0))))) (L47_127_119 _ M113 c118 IM113 FM113 (by omega) (by omega) rfl)
    · skip
      refine PW.aload_n q_47_23 rfl ?_
      refine PW.gRk q_47_24 (Or.inl t_ft_47_20) gF_5_3 hk_k0 IML47_17_9.1 (by decide) fun b129 hk_b129 e_b129 => ?_
      refine PW.iload_n q_47_27 rfl ?_
      refine PW.aRk q_47_28 rfl (by decide) (by decide) hk_b129 IML47_17_9.1 (by decide) (by omega) (by omega) fun b130 hk_b130 e_b130 => ?_
      refine PW.aload_n q_47_29 rfl ?_
      refine PW.gRk q_47_30 (Or.inr t_fN_47_39) gF_4_9 hk_k1 IML47_17_9.1 (by decide) fun b131 hk_b131 e_b131 => ?_
      refine PW.iload_n q_47_33 rfl ?_
      refine PW.aH q_47_34 gA_28 hk_b131 IML47_17_9.1 (by decide) (by omega) (by omega) fun x132 fx132 => ?_
      refine PW.aload_n q_47_35 rfl ?_
      refine PW.gRk q_47_36 (Or.inr t_fN_47_44) gF_4_11 hk_k1 IML47_17_9.1 (by decide) fun b133 hk_b133 e_b133 => ?_
      refine PW.iload_n q_47_39 rfl ?_
      refine PW.aZ q_47_40 gA_30 hk_b133 IML47_17_9.1 (by decide) gB_30_0_5 (by omega) (by omega) fun x134 fx134 hx134 kx134 => ?_
      refine PW.cV (as := [_, _]) (rest := []) q_47_41 t_mv_47_48 hk_b130 IML47_17_9.1 (by decide) rfl (by decide) rfl rfl (Nat.le_of_ble_eq_true rfl) (Nat.le_of_ble_eq_true rfl) (by decide) (by decide) ?_
      refine PW.up (by decide) (c_X8_begin (gSp (gUp (gFs M) k0 (.int c2)) (gFd M)) ((gSpS _ _)) G _ ML47_17_9 IML47_17_9 b130 hk_b130 x132 x134 (by omega) (by omega) fun M135 IM135 GM135 => ?_)
      have FM135 := Fr.trans FML47_17_9 GM135 (rfl)
      refine PW.incN q_47_44 rfl (by decide) (by decide) (by omega) (by omega) fun x136 hx136 => ?_
      refine PW.goto q_47_47 rfl ?_
      refine PW.lvS (lk1 rfl (lk1 rfl (lk1 rfl lk0))) (ih_L47_17_9 _ ?_ M135 x136 IM135 FM135 (by omega) (by omega) rfl)
      omega
  exact PW.lvS (lk1 rfl (lk1 rfl (lk1 rfl lk0))) (L47_17_9 _ M7 c8 IM7 FM7 (by omega) (by omega) rfl)
theorem c_X5_passMany (G : pG) (Kr : pK) (M : pM) (I : Iv gTT M) (k0 : Nat) (hk_k0 : g_kd k0 = 5) (k1 : Nat) (hk_k1 : g_kd k1 = 4) (a2 : Int32) (hh_a2 : a2.toInt ≤ 60) (hK : ∀ (M1 : pM), Iv gTT M1 → Fr [5, 7, 9, 10, 11, 12, 13] M M1 → Kr.1 none 311 M1) : PW G false 5 57 (p_mc 57) (p_msl 57) Kr 0 (lv_args 0 [.ref k0, .ref k1, .int a2]) [] 311 M 0 0 := by
  have F : Fr [5, 7, 9, 10, 11, 12, 13] M M := Fr.refl
  refine PW.cI q_57_0 (by decide) fun c1 hc1 => ?_
  refine PW.istore_n q_57_1 (by decide) ?_
  have L57_2_2 : ∀ (n : Nat) (ML57_2_2 : pM) (v3 : Int32), Iv (gTT) ML57_2_2 → Fr [5, 7, 9, 10, 11, 12, 13] M ML57_2_2 → 0 ≤ v3.toInt → v3.toInt ≤ 60 → (60 - v3.toInt).toNat = n → PW G false 5 57 (p_mc 57) (p_msl 57) Kr 2 [(0, .ref k0), (1, .ref k1), (2, .int a2), (3, .int v3)] [] 311 ML57_2_2 0 0 := by
    intro n
    induction n using Nat.strongRecOn with
    | ind n ih_L57_2_2 =>
    intro ML57_2_2 v3 IML57_2_2 FML57_2_2 hbL57_2_20 hbL57_2_21 hmL57_2_2
    refine PW.iload_n q_57_2 rfl ?_
    refine PW.iload_n q_57_3 rfl ?_
    refine PW.jc_ge q_57_4 rfl (fun h4 => ?_) (fun h4 => ?_)
    · skip
      refine PW.vret q_57_19 rfl (by decide) (by decide) ?_
      exact hK ML57_2_2 IML57_2_2 FML57_2_2
    · skip
      refine PW.aload_n q_57_7 rfl ?_
      refine PW.aload_n q_57_8 rfl ?_
      refine PW.cV (as := [_]) (rest := []) q_57_9 t_mv_57_139 hk_k0 IML57_2_2.1 (by decide) rfl (by decide) rfl rfl (Nat.le_of_ble_eq_true rfl) (Nat.le_of_ble_eq_true rfl) (by decide) (by decide) ?_
      refine PW.up (by decide) (c_X5_pass G _ ML57_2_2 IML57_2_2 k0 hk_k0 k1 hk_k1 fun x6 M5 IM5 GM5 hx6 kx6 => ?_)
      have FM5 := Fr.trans FML57_2_2 GM5 (rfl)
      refine PW.pop q_57_12 rfl ?_
      refine PW.incN q_57_13 rfl (by decide) (by decide) (by omega) (by omega) fun x7 hx7 => ?_
      refine PW.goto q_57_16 rfl ?_
      refine PW.lvS (lk1 rfl (lk1 rfl (lk1 rfl (lk1 rfl lk0)))) (ih_L57_2_2 _ ?_ M5 x7 IM5 FM5 (by omega) (by omega) rfl)
      omega
  exact PW.lvS (lk1 rfl (lk1 rfl (lk1 rfl (lk1 rfl lk0)))) (L57_2_2 _ M c1 I F (by omega) (by omega) rfl)
theorem c_X5_passDrawn (G : pG) (Kr : pK) (M : pM) (I : Iv gTT M) (k0 : Nat) (hk_k0 : g_kd k0 = 5) (k1 : Nat) (hk_k1 : g_kd k1 = 4) (a2 : Int32) (a3 : Int32) (hh_a2 : a2.toInt ≤ 60) (hK : ∀ (M1 : pM), Iv gTT M1 → Fr [5, 7, 9, 10, 11, 12, 13] M M1 → Kr.1 none 311 M1) : PW G false 5 58 (p_mc 58) (p_msl 58) Kr 0 (lv_args 0 [.ref k0, .ref k1, .int a2, .int a3]) [] 311 M 0 0 := by
  have F : Fr [5, 7, 9, 10, 11, 12, 13] M M := Fr.refl
  refine PW.iload_n q_58_0 rfl ?_
  refine PW.istore q_58_1 (by decide) ?_
  refine PW.cI q_58_3 (by decide) fun c1 hc1 => ?_
  refine PW.istore q_58_4 (by decide) ?_
  have L58_6_2 : ∀ (n : Nat) (ML58_6_2 : pM) (v3 v4 : Int32), Iv (gTT) ML58_6_2 → Fr [5, 7, 9, 10, 11, 12, 13] M ML58_6_2 → 0 ≤ v4.toInt → v4.toInt ≤ 60 → (60 - v4.toInt).toNat = n → PW G false 5 58 (p_mc 58) (p_msl 58) Kr 6 [(0, .ref k0), (1, .ref k1), (2, .int a2), (3, .int a3), (4, .int v3), (5, .int v4)] [] 311 ML58_6_2 0 0 := by
    intro n
    induction n using Nat.strongRecOn with
    | ind n ih_L58_6_2 =>
    intro ML58_6_2 v3 v4 IML58_6_2 FML58_6_2 hbL58_6_20 hbL58_6_21 hmL58_6_2
    refine PW.iload q_58_6 rfl ?_
    refine PW.iload_n q_58_8 rfl ?_
    refine PW.jc_ge q_58_9 rfl (fun h5 => ?_) (fun h5 => ?_)
    · skip
      refine PW.vret q_58_77 rfl (by decide) (by decide) ?_
      exact hK ML58_6_2 IML58_6_2 FML58_6_2
    · skip
      refine PW.aload_n q_58_12 rfl ?_
      refine PW.gI q_58_13 (Or.inl t_ft_58_36) gF_5_0 hk_k0 IML58_6_2.1 (by decide) fun x6 fx6 hx6 kx6 => ?_
      refine PW.cS q_58_16 (by decide) fun c7 hc7 => ?_
      refine PW.jc_ge q_58_19 rfl (fun h8 => ?_) (fun h8 => ?_)
      · skip
        refine PW.vret q_58_77 rfl (by decide) (by decide) ?_
        exact hK ML58_6_2 IML58_6_2 FML58_6_2
      · skip
        refine PW.cI q_58_22 (by decide) fun c9 hc9 => ?_
        refine PW.istore q_58_23 (by decide) ?_
        have L58_25_10 : ∀ (n : Nat) (ML58_25_10 : pM) (v11 v12 : Int32), Iv (gTT) ML58_25_10 → Fr [5, 7, 9, 10, 11, 12, 13] M ML58_25_10 → 0 ≤ v12.toInt → v12.toInt ≤ 6 → (6 - v12.toInt).toNat = n → PW G false 5 58 (p_mc 58) (p_msl 58) Kr 25 [(0, .ref k0), (1, .ref k1), (2, .int a2), (3, .int a3), (4, .int v11), (5, .int v4), (6, .int v12)] [] 311 ML58_25_10 0 0 := by
          intro n
          induction n using Nat.strongRecOn with
          | ind n ih_L58_25_10 =>
          intro ML58_25_10 v11 v12 IML58_25_10 FML58_25_10 hbL58_25_100 hbL58_25_101 hmL58_25_10
          refine PW.iload q_58_25 rfl ?_
          refine PW.aload_n q_58_27 rfl ?_
          refine PW.gI q_58_28 (Or.inr t_fN_58_117) gF_4_6 hk_k1 IML58_25_10.1 (by decide) fun x13 fx13 hx13 kx13 => ?_
          refine PW.jc_ge q_58_31 rfl (fun h14 => ?_) (fun h14 => ?_)
          · skip
            refine PW.aload_n q_58_65 rfl ?_
            refine PW.aload_n q_58_66 rfl ?_
            refine PW.cV (as := [_]) (rest := []) q_58_67 t_mv_58_139 hk_k0 IML58_25_10.1 (by decide) rfl (by decide) rfl rfl (Nat.le_of_ble_eq_true rfl) (Nat.le_of_ble_eq_true rfl) (by decide) (by decide) ?_
            refine PW.up (by decide) (c_X5_pass G _ ML58_25_10 IML58_25_10 k0 hk_k0 k1 hk_k1 fun x16 M15 IM15 GM15 hx16 kx16 => ?_)
            have FM15 := Fr.trans FML58_25_10 GM15 (rfl)
            refine PW.pop q_58_70 rfl ?_
            refine PW.incN q_58_71 rfl (by decide) (by decide) (by omega) (by omega) fun x17 hx17 => ?_
            refine PW.goto q_58_74 rfl ?_
            refine PW.lvS (lk1 rfl (lk1 rfl (lk1 rfl (lk1 rfl (lk1 rfl (lk1 rfl lk0)))))) (ih_L58_6_2 _ ?_ M15 v11 x17 IM15 FM15 (by omega) (by omega) rfl)
            omega
          · skip
            refine PW.iload q_58_34 rfl ?_
            refine PW.ldc q_58_36 t_it_58_143 ?_
            refine PW.nmI ?_; intro c18 hc18
            refine PW.mulH q_58_38 fun x19 => ?_
            refine PW.cS q_58_39 (by decide) fun c20 hc20 => ?_
            refine PW.addH q_58_42 fun x21 => ?_
            refine PW.istore q_58_43 (by decide) ?_
            refine PW.aload_n q_58_45 rfl ?_
            refine PW.iload q_58_46 rfl ?_
            refine PW.cB q_58_48 (by decide) fun c22 hc22 => ?_
            refine PW.ushrH q_58_50 fun x23 => ?_
            refine PW.cB q_58_51 (by decide) fun c24 hc24 => ?_
            refine PW.remH q_58_53 (by omega) fun x25 => ?_
            refine PW.iload q_58_54 rfl ?_
            refine PW.cV (as := [_, _]) (rest := []) q_58_56 t_mv_58_144 hk_k0 IML58_25_10.1 (by decide) rfl (by decide) rfl rfl (Nat.le_of_ble_eq_true rfl) (Nat.le_of_ble_eq_true rfl) (by decide) (by decide) ?_
            refine PW.up (by decide) (c_X5_performDrawn (gTT) (Stab0) G _ ML58_25_10 IML58_25_10 k0 hk_k0 x25 v12 (by omega) (by omega) fun M26 IM26 GM26 => ?_)
            have FM26 := Fr.trans FML58_25_10 GM26 (rfl)
            refine PW.incN q_58_59 rfl (by decide) (by decide) (by omega) (by omega) fun x27 hx27 => ?_
            refine PW.goto q_58_62 rfl ?_
            refine PW.lvS (lk1 rfl (lk1 rfl (lk1 rfl (lk1 rfl (lk1 rfl (lk1 rfl (lk1 rfl lk0))))))) (ih_L58_25_10 _ ?_ M26 x21 x27 IM26 FM26 (by omega) (by omega) rfl)
            omega
        exact PW.lvS (lk1 rfl (lk1 rfl (lk1 rfl (lk1 rfl (lk1 rfl (lk1 rfl (lk1 rfl lk0))))))) (L58_25_10 _ ML58_6_2 v3 c9 IML58_6_2 FML58_6_2 (by omega) (by omega) rfl)
  exact PW.lvS (lk1 rfl (lk1 rfl (lk1 rfl (lk1 rfl (lk1 rfl (lk1 rfl lk0)))))) (L58_6_2 _ M a3 c1 I F (by omega) (by omega) rfl)
