theorem q_245_0 : p_tb 245 0 = some (.aload_n 0, 1) := by decide +kernel
theorem q_245_1 : p_tb 245 1 = some (.iconst 0, 1) := by decide +kernel
theorem q_245_2 : p_tb 245 2 = some (.putfield 1, 3) := by decide +kernel
theorem q_245_5 : p_tb 245 5 = some (.aload_n 0, 1) := by decide +kernel
theorem q_245_6 : p_tb 245 6 = some (.sipush 940, 3) := by decide +kernel
theorem q_245_9 : p_tb 245 9 = some (.invokevirtual 226, 3) := by decide +kernel
theorem q_245_12 : p_tb 245 12 = some (.aload_n 0, 1) := by decide +kernel
theorem q_245_13 : p_tb 245 13 = some (.getfield 18, 3) := by decide +kernel
theorem q_245_16 : p_tb 245 16 = some (.iconst 2, 1) := by decide +kernel
theorem q_245_17 : p_tb 245 17 = some (.irem, 1) := by decide +kernel
theorem q_245_18 : p_tb 245 18 = some (.iconst 1, 1) := by decide +kernel
theorem q_245_19 : p_tb 245 19 = some (.if_icmp .eq 16, 3) := by decide +kernel
theorem q_245_22 : p_tb 245 22 = some (.aload_n 0, 1) := by decide +kernel
theorem q_245_23 : p_tb 245 23 = some (.getfield 18, 3) := by decide +kernel
theorem q_245_26 : p_tb 245 26 = some (.iconst 2, 1) := by decide +kernel
theorem q_245_27 : p_tb 245 27 = some (.bipush 20, 2) := by decide +kernel
theorem q_245_29 : p_tb 245 29 = some (.invokestatic 176, 3) := by decide +kernel
theorem q_245_32 : p_tb 245 32 = some (.ifCond .ne 5, 3) := by decide +kernel
theorem q_245_35 : p_tb 245 35 = some (.iconst (-1), 1) := by decide +kernel
theorem q_245_36 : p_tb 245 36 = some (.ireturn, 1) := by decide +kernel
theorem q_245_37 : p_tb 245 37 = some (.iconst 1, 1) := by decide +kernel
theorem q_245_38 : p_tb 245 38 = some (.aload_n 0, 1) := by decide +kernel
theorem q_245_39 : p_tb 245 39 = some (.getfield 33, 3) := by decide +kernel
theorem q_245_42 : p_tb 245 42 = some (.iconst 0, 1) := by decide +kernel
theorem q_245_43 : p_tb 245 43 = some (.iaload, 1) := by decide +kernel
theorem q_245_44 : p_tb 245 44 = some (.ishl, 1) := by decide +kernel
theorem q_245_45 : p_tb 245 45 = some (.iconst 1, 1) := by decide +kernel
theorem q_245_46 : p_tb 245 46 = some (.isub, 1) := by decide +kernel
theorem q_245_47 : p_tb 245 47 = some (.istore_n 1, 1) := by decide +kernel
theorem q_245_48 : p_tb 245 48 = some (.aload_n 0, 1) := by decide +kernel
theorem q_245_49 : p_tb 245 49 = some (.invokevirtual 308, 3) := by decide +kernel
theorem q_245_52 : p_tb 245 52 = some (.iconst 0, 1) := by decide +kernel
theorem q_245_53 : p_tb 245 53 = some (.istore_n 2, 1) := by decide +kernel
theorem q_245_54 : p_tb 245 54 = some (.iload_n 2, 1) := by decide +kernel
theorem q_245_55 : p_tb 245 55 = some (.aload_n 0, 1) := by decide +kernel
theorem q_245_56 : p_tb 245 56 = some (.getfield 18, 3) := by decide +kernel
theorem q_245_59 : p_tb 245 59 = some (.if_icmp .ge 79, 3) := by decide +kernel
theorem q_245_62 : p_tb 245 62 = some (.aload_n 0, 1) := by decide +kernel
theorem q_245_63 : p_tb 245 63 = some (.aload_n 0, 1) := by decide +kernel
theorem q_245_64 : p_tb 245 64 = some (.iload_n 2, 1) := by decide +kernel
theorem q_245_65 : p_tb 245 65 = some (.invokevirtual 346, 3) := by decide +kernel
theorem q_245_68 : p_tb 245 68 = some (.invokevirtual 299, 3) := by decide +kernel
theorem q_245_71 : p_tb 245 71 = some (.aload_n 0, 1) := by decide +kernel
theorem q_245_72 : p_tb 245 72 = some (.iload_n 2, 1) := by decide +kernel
theorem q_245_73 : p_tb 245 73 = some (.invokevirtual 346, 3) := by decide +kernel
theorem q_245_76 : p_tb 245 76 = some (.if_icmp .ge 5, 3) := by decide +kernel
theorem q_245_79 : p_tb 245 79 = some (.iconst 0, 1) := by decide +kernel
theorem q_245_80 : p_tb 245 80 = some (.istore_n 1, 1) := by decide +kernel
theorem q_245_81 : p_tb 245 81 = some (.iconst 0, 1) := by decide +kernel
theorem q_245_82 : p_tb 245 82 = some (.istore_n 3, 1) := by decide +kernel
theorem q_245_83 : p_tb 245 83 = some (.iload_n 3, 1) := by decide +kernel
theorem q_245_84 : p_tb 245 84 = some (.aload_n 0, 1) := by decide +kernel
theorem q_245_85 : p_tb 245 85 = some (.getfield 33, 3) := by decide +kernel
theorem q_245_88 : p_tb 245 88 = some (.iconst 0, 1) := by decide +kernel
theorem q_245_89 : p_tb 245 89 = some (.iaload, 1) := by decide +kernel
theorem q_245_90 : p_tb 245 90 = some (.if_icmp .ge 38, 3) := by decide +kernel
theorem q_245_93 : p_tb 245 93 = some (.aload_n 0, 1) := by decide +kernel
theorem q_245_94 : p_tb 245 94 = some (.getfield 33, 3) := by decide +kernel
theorem q_245_97 : p_tb 245 97 = some (.bipush 36, 2) := by decide +kernel
theorem q_245_99 : p_tb 245 99 = some (.iload_n 3, 1) := by decide +kernel
theorem q_245_100 : p_tb 245 100 = some (.iadd, 1) := by decide +kernel
theorem q_245_101 : p_tb 245 101 = some (.iaload, 1) := by decide +kernel
theorem q_245_102 : p_tb 245 102 = some (.iconst 4, 1) := by decide +kernel
theorem q_245_103 : p_tb 245 103 = some (.idiv, 1) := by decide +kernel
theorem q_245_104 : p_tb 245 104 = some (.aload_n 0, 1) := by decide +kernel
theorem q_245_105 : p_tb 245 105 = some (.iload_n 2, 1) := by decide +kernel
theorem q_245_106 : p_tb 245 106 = some (.iconst 1, 1) := by decide +kernel
theorem q_245_107 : p_tb 245 107 = some (.iadd, 1) := by decide +kernel
theorem q_245_108 : p_tb 245 108 = some (.invokevirtual 346, 3) := by decide +kernel
theorem q_245_111 : p_tb 245 111 = some (.if_icmp .eq 11, 3) := by decide +kernel
theorem q_245_114 : p_tb 245 114 = some (.iload_n 1, 1) := by decide +kernel
theorem q_245_115 : p_tb 245 115 = some (.iconst 1, 1) := by decide +kernel
theorem q_245_116 : p_tb 245 116 = some (.iload_n 3, 1) := by decide +kernel
theorem q_245_117 : p_tb 245 117 = some (.ishl, 1) := by decide +kernel
theorem q_245_118 : p_tb 245 118 = some (.iconst (-1), 1) := by decide +kernel
theorem q_245_119 : p_tb 245 119 = some (.ixor, 1) := by decide +kernel
theorem q_245_120 : p_tb 245 120 = some (.iand, 1) := by decide +kernel
theorem q_245_121 : p_tb 245 121 = some (.istore_n 1, 1) := by decide +kernel
theorem q_245_122 : p_tb 245 122 = some (.iinc 3 1, 3) := by decide +kernel
theorem q_245_125 : p_tb 245 125 = some (.goto (-42), 3) := by decide +kernel
theorem q_245_128 : p_tb 245 128 = some (.aload_n 0, 1) := by decide +kernel
theorem q_245_129 : p_tb 245 129 = some (.invokevirtual 311, 3) := by decide +kernel
theorem q_245_132 : p_tb 245 132 = some (.iinc 2 2, 3) := by decide +kernel
theorem q_245_135 : p_tb 245 135 = some (.goto (-81), 3) := by decide +kernel
theorem q_245_138 : p_tb 245 138 = some (.iload_n 1, 1) := by decide +kernel
theorem q_245_139 : p_tb 245 139 = some (.ireturn, 1) := by decide +kernel
theorem t_ft_245_1 : p_f2 p_ft (p_mK 245) 1 = some (11, 0) := by decide +kernel
theorem t_ft_245_18 : p_f2 p_ft (p_mK 245) 18 = some (11, 3) := by decide +kernel
theorem t_ft_245_33 : p_f2 p_ft (p_mK 245) 33 = some (11, 6) := by decide +kernel
theorem t_ms_245_176 : p_f2 p_ms (p_mK 245) 176 = some 166 := by decide +kernel
theorem t_mv_245_226 : p_f2 p_mv (p_mK 245) 226 = some 165 := by decide +kernel
theorem t_mv_245_299 : p_f2 p_mv (p_mK 245) 299 = some 211 := by decide +kernel
theorem t_mv_245_308 : p_f2 p_mv (p_mK 245) 308 = some 222 := by decide +kernel
theorem t_mv_245_311 : p_f2 p_mv (p_mK 245) 311 = some 223 := by decide +kernel
theorem t_mv_245_346 : p_f2 p_mv (p_mK 245) 346 = some 172 := by decide +kernel
theorem q_246_0 : p_tb 246 0 = some (.aload_n 0, 1) := by decide +kernel
theorem q_246_1 : p_tb 246 1 = some (.iconst 0, 1) := by decide +kernel
theorem q_246_2 : p_tb 246 2 = some (.putfield 1, 3) := by decide +kernel
theorem q_246_5 : p_tb 246 5 = some (.aload_n 0, 1) := by decide +kernel
theorem q_246_6 : p_tb 246 6 = some (.sipush 940, 3) := by decide +kernel
theorem q_246_9 : p_tb 246 9 = some (.invokevirtual 226, 3) := by decide +kernel
theorem q_246_12 : p_tb 246 12 = some (.aload_n 0, 1) := by decide +kernel
theorem q_246_13 : p_tb 246 13 = some (.getfield 18, 3) := by decide +kernel
theorem q_246_16 : p_tb 246 16 = some (.iconst 1, 1) := by decide +kernel
theorem q_246_17 : p_tb 246 17 = some (.bipush 40, 2) := by decide +kernel
theorem q_246_19 : p_tb 246 19 = some (.invokestatic 176, 3) := by decide +kernel
theorem q_246_22 : p_tb 246 22 = some (.ifCond .eq 15, 3) := by decide +kernel
theorem q_246_25 : p_tb 246 25 = some (.aload_n 0, 1) := by decide +kernel
theorem q_246_26 : p_tb 246 26 = some (.iload_n 1, 1) := by decide +kernel
theorem q_246_27 : p_tb 246 27 = some (.invokevirtual 251, 3) := by decide +kernel
theorem q_246_30 : p_tb 246 30 = some (.ifCond .eq 7, 3) := by decide +kernel
theorem q_246_33 : p_tb 246 33 = some (.iconst 1, 1) := by decide +kernel
theorem q_246_34 : p_tb 246 34 = some (.goto 4, 3) := by decide +kernel
theorem q_246_37 : p_tb 246 37 = some (.iconst 0, 1) := by decide +kernel
theorem q_246_38 : p_tb 246 38 = some (.istore_n 2, 1) := by decide +kernel
theorem q_246_39 : p_tb 246 39 = some (.iconst 0, 1) := by decide +kernel
theorem q_246_40 : p_tb 246 40 = some (.istore_n 3, 1) := by decide +kernel
theorem q_246_41 : p_tb 246 41 = some (.iload_n 3, 1) := by decide +kernel
theorem q_246_42 : p_tb 246 42 = some (.aload_n 0, 1) := by decide +kernel
theorem q_246_43 : p_tb 246 43 = some (.getfield 18, 3) := by decide +kernel
theorem q_246_46 : p_tb 246 46 = some (.if_icmp .ge 23, 3) := by decide +kernel
theorem q_246_49 : p_tb 246 49 = some (.iload_n 2, 1) := by decide +kernel
theorem q_246_50 : p_tb 246 50 = some (.ifCond .eq 19, 3) := by decide +kernel
theorem q_246_53 : p_tb 246 53 = some (.aload_n 0, 1) := by decide +kernel
theorem q_246_54 : p_tb 246 54 = some (.aload_n 0, 1) := by decide +kernel
theorem q_246_55 : p_tb 246 55 = some (.iload_n 3, 1) := by decide +kernel
theorem q_246_56 : p_tb 246 56 = some (.invokevirtual 346, 3) := by decide +kernel
theorem q_246_59 : p_tb 246 59 = some (.invokevirtual 241, 3) := by decide +kernel
theorem q_246_62 : p_tb 246 62 = some (.istore_n 2, 1) := by decide +kernel
theorem q_246_63 : p_tb 246 63 = some (.iinc 3 1, 3) := by decide +kernel
theorem q_246_66 : p_tb 246 66 = some (.goto (-25), 3) := by decide +kernel
theorem q_246_69 : p_tb 246 69 = some (.iload_n 2, 1) := by decide +kernel
theorem q_246_70 : p_tb 246 70 = some (.ifCond .ne 6, 3) := by decide +kernel
theorem q_246_73 : p_tb 246 73 = some (.bipush (-2), 2) := by decide +kernel
theorem q_246_75 : p_tb 246 75 = some (.ireturn, 1) := by decide +kernel
theorem q_246_76 : p_tb 246 76 = some (.aload_n 0, 1) := by decide +kernel
theorem q_246_77 : p_tb 246 77 = some (.invokevirtual 308, 3) := by decide +kernel
theorem q_246_80 : p_tb 246 80 = some (.iconst 0, 1) := by decide +kernel
theorem q_246_81 : p_tb 246 81 = some (.istore_n 3, 1) := by decide +kernel
theorem q_246_82 : p_tb 246 82 = some (.iconst 0, 1) := by decide +kernel
theorem q_246_83 : p_tb 246 83 = some (.istore 4, 2) := by decide +kernel
theorem q_246_85 : p_tb 246 85 = some (.iconst 0, 1) := by decide +kernel
theorem q_246_86 : p_tb 246 86 = some (.istore 5, 2) := by decide +kernel
theorem q_246_88 : p_tb 246 88 = some (.iload 5, 2) := by decide +kernel
theorem q_246_90 : p_tb 246 90 = some (.sipush 300, 3) := by decide +kernel
theorem q_246_93 : p_tb 246 93 = some (.if_icmp .ge 94, 3) := by decide +kernel
theorem q_246_96 : p_tb 246 96 = some (.iload 4, 2) := by decide +kernel
theorem q_246_98 : p_tb 246 98 = some (.ifCond .ne 89, 3) := by decide +kernel
theorem q_246_101 : p_tb 246 101 = some (.iload_n 3, 1) := by decide +kernel
theorem q_246_102 : p_tb 246 102 = some (.aload_n 0, 1) := by decide +kernel
theorem q_246_103 : p_tb 246 103 = some (.getfield 18, 3) := by decide +kernel
theorem q_246_106 : p_tb 246 106 = some (.if_icmp .ge 81, 3) := by decide +kernel
theorem q_246_109 : p_tb 246 109 = some (.aload_n 0, 1) := by decide +kernel
theorem q_246_110 : p_tb 246 110 = some (.iconst 1, 1) := by decide +kernel
theorem q_246_111 : p_tb 246 111 = some (.invokevirtual 299, 3) := by decide +kernel
theorem q_246_114 : p_tb 246 114 = some (.iconst 1, 1) := by decide +kernel
theorem q_246_115 : p_tb 246 115 = some (.if_icmp .ne 72, 3) := by decide +kernel
theorem q_246_118 : p_tb 246 118 = some (.aload_n 0, 1) := by decide +kernel
theorem q_246_119 : p_tb 246 119 = some (.getfield 33, 3) := by decide +kernel
theorem q_246_122 : p_tb 246 122 = some (.bipush 80, 2) := by decide +kernel
theorem q_246_124 : p_tb 246 124 = some (.iload_n 1, 1) := by decide +kernel
theorem q_246_125 : p_tb 246 125 = some (.iadd, 1) := by decide +kernel
theorem q_246_126 : p_tb 246 126 = some (.iaload, 1) := by decide +kernel
theorem q_246_127 : p_tb 246 127 = some (.aload_n 0, 1) := by decide +kernel
theorem q_246_128 : p_tb 246 128 = some (.getfield 53, 3) := by decide +kernel
theorem q_246_131 : p_tb 246 131 = some (.bipush 47, 2) := by decide +kernel
theorem q_246_133 : p_tb 246 133 = some (.iload_n 1, 1) := by decide +kernel
theorem q_246_134 : p_tb 246 134 = some (.iadd, 1) := by decide +kernel
theorem q_246_135 : p_tb 246 135 = some (.iaload, 1) := by decide +kernel
theorem q_246_136 : p_tb 246 136 = some (.iload_n 3, 1) := by decide +kernel
theorem q_246_137 : p_tb 246 137 = some (.iadd, 1) := by decide +kernel
theorem q_246_138 : p_tb 246 138 = some (.if_icmp .ne 6, 3) := by decide +kernel
theorem q_246_141 : p_tb 246 141 = some (.goto 40, 3) := by decide +kernel
theorem q_246_144 : p_tb 246 144 = some (.aload_n 0, 1) := by decide +kernel
theorem q_246_145 : p_tb 246 145 = some (.getfield 33, 3) := by decide +kernel
theorem q_246_148 : p_tb 246 148 = some (.bipush 86, 2) := by decide +kernel
theorem q_246_150 : p_tb 246 150 = some (.iload_n 1, 1) := by decide +kernel
theorem q_246_151 : p_tb 246 151 = some (.iadd, 1) := by decide +kernel
theorem q_246_152 : p_tb 246 152 = some (.iaload, 1) := by decide +kernel
theorem q_246_153 : p_tb 246 153 = some (.aload_n 0, 1) := by decide +kernel
theorem q_246_154 : p_tb 246 154 = some (.iload_n 3, 1) := by decide +kernel
theorem q_246_155 : p_tb 246 155 = some (.invokevirtual 346, 3) := by decide +kernel
theorem q_246_158 : p_tb 246 158 = some (.if_icmp .eq 7, 3) := by decide +kernel
theorem q_246_161 : p_tb 246 161 = some (.iconst 1, 1) := by decide +kernel
theorem q_246_162 : p_tb 246 162 = some (.goto 4, 3) := by decide +kernel
theorem q_246_165 : p_tb 246 165 = some (.iconst 0, 1) := by decide +kernel
theorem q_246_166 : p_tb 246 166 = some (.istore 4, 2) := by decide +kernel
theorem q_246_168 : p_tb 246 168 = some (.iload_n 3, 1) := by decide +kernel
theorem q_246_169 : p_tb 246 169 = some (.iload 4, 2) := by decide +kernel
theorem q_246_171 : p_tb 246 171 = some (.ifCond .eq 7, 3) := by decide +kernel
theorem q_246_174 : p_tb 246 174 = some (.iconst 0, 1) := by decide +kernel
theorem q_246_175 : p_tb 246 175 = some (.goto 4, 3) := by decide +kernel
theorem q_246_178 : p_tb 246 178 = some (.iconst 1, 1) := by decide +kernel
theorem q_246_179 : p_tb 246 179 = some (.iadd, 1) := by decide +kernel
theorem q_246_180 : p_tb 246 180 = some (.istore_n 3, 1) := by decide +kernel
theorem q_246_181 : p_tb 246 181 = some (.iinc 5 1, 3) := by decide +kernel
theorem q_246_184 : p_tb 246 184 = some (.goto (-96), 3) := by decide +kernel
theorem q_246_187 : p_tb 246 187 = some (.aload_n 0, 1) := by decide +kernel
theorem q_246_188 : p_tb 246 188 = some (.invokevirtual 311, 3) := by decide +kernel
theorem q_246_191 : p_tb 246 191 = some (.iload_n 3, 1) := by decide +kernel
theorem q_246_192 : p_tb 246 192 = some (.aload_n 0, 1) := by decide +kernel
theorem q_246_193 : p_tb 246 193 = some (.getfield 18, 3) := by decide +kernel
theorem q_246_196 : p_tb 246 196 = some (.if_icmp .ne 7, 3) := by decide +kernel
theorem q_246_199 : p_tb 246 199 = some (.iconst (-1), 1) := by decide +kernel
theorem q_246_200 : p_tb 246 200 = some (.goto 4, 3) := by decide +kernel
theorem q_246_203 : p_tb 246 203 = some (.iload_n 3, 1) := by decide +kernel
theorem q_246_204 : p_tb 246 204 = some (.ireturn, 1) := by decide +kernel
theorem t_ft_246_1 : p_f2 p_ft (p_mK 246) 1 = some (11, 0) := by decide +kernel
theorem t_ft_246_18 : p_f2 p_ft (p_mK 246) 18 = some (11, 3) := by decide +kernel
theorem t_ft_246_33 : p_f2 p_ft (p_mK 246) 33 = some (11, 6) := by decide +kernel
theorem t_ft_246_53 : p_f2 p_ft (p_mK 246) 53 = some (11, 22) := by decide +kernel
theorem t_ms_246_176 : p_f2 p_ms (p_mK 246) 176 = some 166 := by decide +kernel
theorem t_mv_246_226 : p_f2 p_mv (p_mK 246) 226 = some 165 := by decide +kernel
theorem t_mv_246_241 : p_f2 p_mv (p_mK 246) 241 = some 195 := by decide +kernel
theorem t_mv_246_251 : p_f2 p_mv (p_mK 246) 251 = some 196 := by decide +kernel
theorem t_mv_246_299 : p_f2 p_mv (p_mK 246) 299 = some 211 := by decide +kernel
theorem t_mv_246_308 : p_f2 p_mv (p_mK 246) 308 = some 222 := by decide +kernel
theorem t_mv_246_311 : p_f2 p_mv (p_mK 246) 311 = some 223 := by decide +kernel
theorem t_mv_246_346 : p_f2 p_mv (p_mK 246) 346 = some 172 := by decide +kernel
theorem gB_48_47_48 : gB 48 47 48 0 600 := gB.of (by decide +kernel)
theorem q_249_0 : p_tb 249 0 = some (.aload_n 0, 1) := by decide +kernel
theorem q_249_1 : p_tb 249 1 = some (.iload_n 2, 1) := by decide +kernel
theorem q_249_2 : p_tb 249 2 = some (.invokevirtual 251, 3) := by decide +kernel
theorem q_249_5 : p_tb 249 5 = some (.ifCond .eq 27, 3) := by decide +kernel
theorem q_249_8 : p_tb 249 8 = some (.iload_n 3, 1) := by decide +kernel
theorem q_249_9 : p_tb 249 9 = some (.iconst 0, 1) := by decide +kernel
theorem q_249_10 : p_tb 249 10 = some (.bipush 20, 2) := by decide +kernel
theorem q_249_12 : p_tb 249 12 = some (.aload_n 0, 1) := by decide +kernel
theorem q_249_13 : p_tb 249 13 = some (.getfield 33, 3) := by decide +kernel
theorem q_249_16 : p_tb 249 16 = some (.bipush 80, 2) := by decide +kernel
theorem q_249_18 : p_tb 249 18 = some (.iload_n 2, 1) := by decide +kernel
theorem q_249_19 : p_tb 249 19 = some (.iadd, 1) := by decide +kernel
theorem q_249_20 : p_tb 249 20 = some (.iaload, 1) := by decide +kernel
theorem q_249_21 : p_tb 249 21 = some (.invokestatic 271, 3) := by decide +kernel
theorem q_249_24 : p_tb 249 24 = some (.iconst 1, 1) := by decide +kernel
theorem q_249_25 : p_tb 249 25 = some (.isub, 1) := by decide +kernel
theorem q_249_26 : p_tb 249 26 = some (.invokestatic 176, 3) := by decide +kernel
theorem q_249_29 : p_tb 249 29 = some (.ifCond .ne 5, 3) := by decide +kernel
theorem q_249_32 : p_tb 249 32 = some (.iconst (-1), 1) := by decide +kernel
theorem q_249_33 : p_tb 249 33 = some (.ireturn, 1) := by decide +kernel
theorem q_249_34 : p_tb 249 34 = some (.aload_n 0, 1) := by decide +kernel
theorem q_249_35 : p_tb 249 35 = some (.getfield 33, 3) := by decide +kernel
theorem q_249_38 : p_tb 249 38 = some (.iload_n 1, 1) := by decide +kernel
theorem q_249_39 : p_tb 249 39 = some (.bipush 20, 2) := by decide +kernel
theorem q_249_41 : p_tb 249 41 = some (.iload_n 2, 1) := by decide +kernel
theorem q_249_42 : p_tb 249 42 = some (.imul, 1) := by decide +kernel
theorem q_249_43 : p_tb 249 43 = some (.iadd, 1) := by decide +kernel
theorem q_249_44 : p_tb 249 44 = some (.aload_n 0, 1) := by decide +kernel
theorem q_249_45 : p_tb 249 45 = some (.getfield 33, 3) := by decide +kernel
theorem q_249_48 : p_tb 249 48 = some (.bipush 80, 2) := by decide +kernel
theorem q_249_50 : p_tb 249 50 = some (.iload_n 2, 1) := by decide +kernel
theorem q_249_51 : p_tb 249 51 = some (.iadd, 1) := by decide +kernel
theorem q_249_52 : p_tb 249 52 = some (.iaload, 1) := by decide +kernel
theorem q_249_53 : p_tb 249 53 = some (.iconst 1, 1) := by decide +kernel
theorem q_249_54 : p_tb 249 54 = some (.isub, 1) := by decide +kernel
theorem q_249_55 : p_tb 249 55 = some (.iload_n 3, 1) := by decide +kernel
theorem q_249_56 : p_tb 249 56 = some (.isub, 1) := by decide +kernel
theorem q_249_57 : p_tb 249 57 = some (.bipush 20, 2) := by decide +kernel
theorem q_249_59 : p_tb 249 59 = some (.irem, 1) := by decide +kernel
theorem q_249_60 : p_tb 249 60 = some (.iadd, 1) := by decide +kernel
theorem q_249_61 : p_tb 249 61 = some (.iaload, 1) := by decide +kernel
theorem q_249_62 : p_tb 249 62 = some (.ireturn, 1) := by decide +kernel
theorem t_ft_249_33 : p_f2 p_ft (p_mK 249) 33 = some (11, 6) := by decide +kernel
theorem t_ms_249_176 : p_f2 p_ms (p_mK 249) 176 = some 166 := by decide +kernel
theorem t_ms_249_271 : p_f2 p_ms (p_mK 249) 271 = some 168 := by decide +kernel
theorem t_mv_249_251 : p_f2 p_mv (p_mK 249) 251 = some 196 := by decide +kernel
theorem q_250_0 : p_tb 250 0 = some (.aload_n 0, 1) := by decide +kernel
theorem q_250_1 : p_tb 250 1 = some (.iconst 0, 1) := by decide +kernel
theorem q_250_2 : p_tb 250 2 = some (.putfield 1, 3) := by decide +kernel
theorem q_250_5 : p_tb 250 5 = some (.aload_n 0, 1) := by decide +kernel
theorem q_250_6 : p_tb 250 6 = some (.sipush 136, 3) := by decide +kernel
theorem q_250_9 : p_tb 250 9 = some (.iload_n 1, 1) := by decide +kernel
theorem q_250_10 : p_tb 250 10 = some (.iload_n 2, 1) := by decide +kernel
theorem q_250_11 : p_tb 250 11 = some (.invokevirtual 352, 3) := by decide +kernel
theorem q_250_14 : p_tb 250 14 = some (.ireturn, 1) := by decide +kernel
theorem t_ft_250_1 : p_f2 p_ft (p_mK 250) 1 = some (11, 0) := by decide +kernel
theorem t_mv_250_352 : p_f2 p_mv (p_mK 250) 352 = some 249 := by decide +kernel
theorem q_251_0 : p_tb 251 0 = some (.aload_n 0, 1) := by decide +kernel
theorem q_251_1 : p_tb 251 1 = some (.iconst 0, 1) := by decide +kernel
theorem q_251_2 : p_tb 251 2 = some (.putfield 1, 3) := by decide +kernel
theorem q_251_5 : p_tb 251 5 = some (.aload_n 0, 1) := by decide +kernel
theorem q_251_6 : p_tb 251 6 = some (.sipush 176, 3) := by decide +kernel
theorem q_251_9 : p_tb 251 9 = some (.iload_n 1, 1) := by decide +kernel
theorem q_251_10 : p_tb 251 10 = some (.iload_n 2, 1) := by decide +kernel
theorem q_251_11 : p_tb 251 11 = some (.invokevirtual 352, 3) := by decide +kernel
theorem q_251_14 : p_tb 251 14 = some (.ireturn, 1) := by decide +kernel
theorem t_ft_251_1 : p_f2 p_ft (p_mK 251) 1 = some (11, 0) := by decide +kernel
theorem t_mv_251_352 : p_f2 p_mv (p_mK 251) 352 = some 249 := by decide +kernel
theorem q_252_0 : p_tb 252 0 = some (.aload_n 0, 1) := by decide +kernel
theorem q_252_1 : p_tb 252 1 = some (.aload_n 0, 1) := by decide +kernel
theorem q_252_2 : p_tb 252 2 = some (.getfield 356, 3) := by decide +kernel
theorem q_252_5 : p_tb 252 5 = some (.ldc_w 359, 3) := by decide +kernel
theorem q_252_8 : p_tb 252 8 = some (.imul, 1) := by decide +kernel
theorem q_252_9 : p_tb 252 9 = some (.sipush 12345, 3) := by decide +kernel
theorem q_252_12 : p_tb 252 12 = some (.iadd, 1) := by decide +kernel
theorem q_252_13 : p_tb 252 13 = some (.putfield 356, 3) := by decide +kernel
theorem q_252_16 : p_tb 252 16 = some (.aload_n 0, 1) := by decide +kernel
theorem q_252_17 : p_tb 252 17 = some (.getfield 356, 3) := by decide +kernel
theorem q_252_20 : p_tb 252 20 = some (.bipush 8, 2) := by decide +kernel
theorem q_252_22 : p_tb 252 22 = some (.iushr, 1) := by decide +kernel
theorem q_252_23 : p_tb 252 23 = some (.iload_n 1, 1) := by decide +kernel
theorem q_252_24 : p_tb 252 24 = some (.irem, 1) := by decide +kernel
theorem q_252_25 : p_tb 252 25 = some (.ireturn, 1) := by decide +kernel
theorem t_ft_252_356 : p_f2 p_ft (p_mK 252) 356 = some (11, 28) := by decide +kernel
theorem t_it_252_359 : p_f2 p_it (p_mK 252) 359 = some (1103515245) := by decide +kernel
theorem q_253_0 : p_tb 253 0 = some (.aload_n 0, 1) := by decide +kernel
theorem q_253_1 : p_tb 253 1 = some (.bipush 12, 2) := by decide +kernel
theorem q_253_3 : p_tb 253 3 = some (.invokevirtual 360, 3) := by decide +kernel
theorem q_253_6 : p_tb 253 6 = some (.tableswitch 72 0 3 #[30, 38, 46, 59], 30) := by decide +kernel
theorem q_253_36 : p_tb 253 36 = some (.aload_n 0, 1) := by decide +kernel
theorem q_253_37 : p_tb 253 37 = some (.iload_n 1, 1) := by decide +kernel
theorem q_253_38 : p_tb 253 38 = some (.invokevirtual 293, 3) := by decide +kernel
theorem q_253_41 : p_tb 253 41 = some (.goto 37, 3) := by decide +kernel
theorem q_253_44 : p_tb 253 44 = some (.aload_n 0, 1) := by decide +kernel
theorem q_253_45 : p_tb 253 45 = some (.iload_n 1, 1) := by decide +kernel
theorem q_253_46 : p_tb 253 46 = some (.invokevirtual 296, 3) := by decide +kernel
theorem q_253_49 : p_tb 253 49 = some (.goto 29, 3) := by decide +kernel
theorem q_253_52 : p_tb 253 52 = some (.aload_n 0, 1) := by decide +kernel
theorem q_253_53 : p_tb 253 53 = some (.getfield 33, 3) := by decide +kernel
theorem q_253_56 : p_tb 253 56 = some (.bipush 35, 2) := by decide +kernel
theorem q_253_58 : p_tb 253 58 = some (.iload_n 1, 1) := by decide +kernel
theorem q_253_59 : p_tb 253 59 = some (.iconst 1, 1) := by decide +kernel
theorem q_253_60 : p_tb 253 60 = some (.iadd, 1) := by decide +kernel
theorem q_253_61 : p_tb 253 61 = some (.iastore, 1) := by decide +kernel
theorem q_253_62 : p_tb 253 62 = some (.goto 16, 3) := by decide +kernel
theorem q_253_65 : p_tb 253 65 = some (.aload_n 0, 1) := by decide +kernel
theorem q_253_66 : p_tb 253 66 = some (.getfield 33, 3) := by decide +kernel
theorem q_253_69 : p_tb 253 69 = some (.bipush 34, 2) := by decide +kernel
theorem q_253_71 : p_tb 253 71 = some (.iload_n 1, 1) := by decide +kernel
theorem q_253_72 : p_tb 253 72 = some (.iconst 1, 1) := by decide +kernel
theorem q_253_73 : p_tb 253 73 = some (.iadd, 1) := by decide +kernel
theorem q_253_74 : p_tb 253 74 = some (.iastore, 1) := by decide +kernel
theorem q_253_75 : p_tb 253 75 = some (.goto 3, 3) := by decide +kernel
theorem q_253_78 : p_tb 253 78 = some (.return_, 1) := by decide +kernel
theorem t_ft_253_33 : p_f2 p_ft (p_mK 253) 33 = some (11, 6) := by decide +kernel
theorem t_mv_253_293 : p_f2 p_mv (p_mK 253) 293 = some 212 := by decide +kernel
theorem t_mv_253_296 : p_f2 p_mv (p_mK 253) 296 = some 213 := by decide +kernel
theorem t_mv_253_360 : p_f2 p_mv (p_mK 253) 360 = some 252 := by decide +kernel
theorem q_254_0 : p_tb 254 0 = some (.aload_n 0, 1) := by decide +kernel
theorem q_254_1 : p_tb 254 1 = some (.iload_n 2, 1) := by decide +kernel
theorem q_254_2 : p_tb 254 2 = some (.putfield 356, 3) := by decide +kernel
theorem q_254_5 : p_tb 254 5 = some (.iconst 0, 1) := by decide +kernel
theorem q_254_6 : p_tb 254 6 = some (.istore_n 3, 1) := by decide +kernel
theorem q_254_7 : p_tb 254 7 = some (.iload_n 3, 1) := by decide +kernel
theorem q_254_8 : p_tb 254 8 = some (.iload_n 1, 1) := by decide +kernel
theorem q_254_9 : p_tb 254 9 = some (.if_icmp .ge 52, 3) := by decide +kernel
theorem q_254_12 : p_tb 254 12 = some (.aload_n 0, 1) := by decide +kernel
theorem q_254_13 : p_tb 254 13 = some (.getfield 33, 3) := by decide +kernel
theorem q_254_16 : p_tb 254 16 = some (.bipush 33, 2) := by decide +kernel
theorem q_254_18 : p_tb 254 18 = some (.iaload, 1) := by decide +kernel
theorem q_254_19 : p_tb 254 19 = some (.sipush 600, 3) := by decide +kernel
theorem q_254_22 : p_tb 254 22 = some (.if_icmp .ge 39, 3) := by decide +kernel
theorem q_254_25 : p_tb 254 25 = some (.iconst 0, 1) := by decide +kernel
theorem q_254_26 : p_tb 254 26 = some (.istore 4, 2) := by decide +kernel
theorem q_254_28 : p_tb 254 28 = some (.iload 4, 2) := by decide +kernel
theorem q_254_30 : p_tb 254 30 = some (.aload_n 0, 1) := by decide +kernel
theorem q_254_31 : p_tb 254 31 = some (.getfield 33, 3) := by decide +kernel
theorem q_254_34 : p_tb 254 34 = some (.iconst 0, 1) := by decide +kernel
theorem q_254_35 : p_tb 254 35 = some (.iaload, 1) := by decide +kernel
theorem q_254_36 : p_tb 254 36 = some (.if_icmp .ge 15, 3) := by decide +kernel
theorem q_254_39 : p_tb 254 39 = some (.aload_n 0, 1) := by decide +kernel
theorem q_254_40 : p_tb 254 40 = some (.iload 4, 2) := by decide +kernel
theorem q_254_42 : p_tb 254 42 = some (.invokevirtual 363, 3) := by decide +kernel
theorem q_254_45 : p_tb 254 45 = some (.iinc 4 1, 3) := by decide +kernel
theorem q_254_48 : p_tb 254 48 = some (.goto (-20), 3) := by decide +kernel
theorem q_254_51 : p_tb 254 51 = some (.aload_n 0, 1) := by decide +kernel
theorem q_254_52 : p_tb 254 52 = some (.invokevirtual 287, 3) := by decide +kernel
theorem q_254_55 : p_tb 254 55 = some (.iinc 3 1, 3) := by decide +kernel
theorem q_254_58 : p_tb 254 58 = some (.goto (-51), 3) := by decide +kernel
theorem q_254_61 : p_tb 254 61 = some (.iload_n 3, 1) := by decide +kernel
theorem q_254_62 : p_tb 254 62 = some (.ireturn, 1) := by decide +kernel
theorem t_ft_254_33 : p_f2 p_ft (p_mK 254) 33 = some (11, 6) := by decide +kernel
theorem t_ft_254_356 : p_f2 p_ft (p_mK 254) 356 = some (11, 28) := by decide +kernel
theorem t_mv_254_287 : p_f2 p_mv (p_mK 254) 287 = some 210 := by decide +kernel
theorem t_mv_254_363 : p_f2 p_mv (p_mK 254) 363 = some 253 := by decide +kernel
theorem q_255_0 : p_tb 255 0 = some (.aload_n 0, 1) := by decide +kernel
theorem q_255_1 : p_tb 255 1 = some (.iconst 0, 1) := by decide +kernel
theorem q_255_2 : p_tb 255 2 = some (.putfield 1, 3) := by decide +kernel
theorem q_255_5 : p_tb 255 5 = some (.iload_n 1, 1) := by decide +kernel
theorem q_255_6 : p_tb 255 6 = some (.iconst 1, 1) := by decide +kernel
theorem q_255_7 : p_tb 255 7 = some (.bipush 60, 2) := by decide +kernel
theorem q_255_9 : p_tb 255 9 = some (.invokestatic 176, 3) := by decide +kernel
theorem q_255_12 : p_tb 255 12 = some (.ifCond .eq 12, 3) := by decide +kernel
theorem q_255_15 : p_tb 255 15 = some (.aload_n 0, 1) := by decide +kernel
theorem q_255_16 : p_tb 255 16 = some (.getfield 33, 3) := by decide +kernel
theorem q_255_19 : p_tb 255 19 = some (.iconst 0, 1) := by decide +kernel
theorem q_255_20 : p_tb 255 20 = some (.iaload, 1) := by decide +kernel
theorem q_255_21 : p_tb 255 21 = some (.ifCond .ne 5, 3) := by decide +kernel
theorem q_255_24 : p_tb 255 24 = some (.iconst (-1), 1) := by decide +kernel
theorem q_255_25 : p_tb 255 25 = some (.ireturn, 1) := by decide +kernel
theorem q_255_26 : p_tb 255 26 = some (.aload_n 0, 1) := by decide +kernel
theorem q_255_27 : p_tb 255 27 = some (.getfield 33, 3) := by decide +kernel
theorem q_255_30 : p_tb 255 30 = some (.bipush 33, 2) := by decide +kernel
theorem q_255_32 : p_tb 255 32 = some (.iaload, 1) := by decide +kernel
theorem q_255_33 : p_tb 255 33 = some (.sipush 600, 3) := by decide +kernel
theorem q_255_36 : p_tb 255 36 = some (.if_icmp .ge 7, 3) := by decide +kernel
theorem q_255_39 : p_tb 255 39 = some (.aload_n 0, 1) := by decide +kernel
theorem q_255_40 : p_tb 255 40 = some (.invokevirtual 290, 3) := by decide +kernel
theorem q_255_43 : p_tb 255 43 = some (.aload_n 0, 1) := by decide +kernel
theorem q_255_44 : p_tb 255 44 = some (.iload_n 1, 1) := by decide +kernel
theorem q_255_45 : p_tb 255 45 = some (.iload_n 2, 1) := by decide +kernel
theorem q_255_46 : p_tb 255 46 = some (.invokevirtual 366, 3) := by decide +kernel
theorem q_255_49 : p_tb 255 49 = some (.ireturn, 1) := by decide +kernel
theorem t_ft_255_1 : p_f2 p_ft (p_mK 255) 1 = some (11, 0) := by decide +kernel
theorem t_ft_255_33 : p_f2 p_ft (p_mK 255) 33 = some (11, 6) := by decide +kernel
theorem t_ms_255_176 : p_f2 p_ms (p_mK 255) 176 = some 166 := by decide +kernel
theorem t_mv_255_290 : p_f2 p_mv (p_mK 255) 290 = some 220 := by decide +kernel
theorem t_mv_255_366 : p_f2 p_mv (p_mK 255) 366 = some 254 := by decide +kernel
theorem q_256_0 : p_tb 256 0 = some (.aload_n 0, 1) := by decide +kernel
theorem q_256_1 : p_tb 256 1 = some (.iconst 0, 1) := by decide +kernel
theorem q_256_2 : p_tb 256 2 = some (.putfield 1, 3) := by decide +kernel
theorem q_256_5 : p_tb 256 5 = some (.aload_n 0, 1) := by decide +kernel
theorem q_256_6 : p_tb 256 6 = some (.iload_n 1, 1) := by decide +kernel
theorem q_256_7 : p_tb 256 7 = some (.invokevirtual 241, 3) := by decide +kernel
theorem q_256_10 : p_tb 256 10 = some (.ifCond .eq 13, 3) := by decide +kernel
theorem q_256_13 : p_tb 256 13 = some (.iload_n 2, 1) := by decide +kernel
theorem q_256_14 : p_tb 256 14 = some (.iconst 1, 1) := by decide +kernel
theorem q_256_15 : p_tb 256 15 = some (.bipush 30, 2) := by decide +kernel
theorem q_256_17 : p_tb 256 17 = some (.invokestatic 176, 3) := by decide +kernel
theorem q_256_20 : p_tb 256 20 = some (.ifCond .ne 5, 3) := by decide +kernel
theorem q_256_23 : p_tb 256 23 = some (.iconst (-1), 1) := by decide +kernel
theorem q_256_24 : p_tb 256 24 = some (.ireturn, 1) := by decide +kernel
theorem q_256_25 : p_tb 256 25 = some (.aload_n 0, 1) := by decide +kernel
theorem q_256_26 : p_tb 256 26 = some (.invokevirtual 308, 3) := by decide +kernel
theorem q_256_29 : p_tb 256 29 = some (.iconst 0, 1) := by decide +kernel
theorem q_256_30 : p_tb 256 30 = some (.istore 4, 2) := by decide +kernel
theorem q_256_32 : p_tb 256 32 = some (.iconst 0, 1) := by decide +kernel
theorem q_256_33 : p_tb 256 33 = some (.istore 5, 2) := by decide +kernel
theorem q_256_35 : p_tb 256 35 = some (.iload 5, 2) := by decide +kernel
theorem q_256_37 : p_tb 256 37 = some (.iload_n 2, 1) := by decide +kernel
theorem q_256_38 : p_tb 256 38 = some (.if_icmp .ge 59, 3) := by decide +kernel
theorem q_256_41 : p_tb 256 41 = some (.aload_n 0, 1) := by decide +kernel
theorem q_256_42 : p_tb 256 42 = some (.getfield 33, 3) := by decide +kernel
theorem q_256_45 : p_tb 256 45 = some (.bipush 61, 2) := by decide +kernel
theorem q_256_47 : p_tb 256 47 = some (.iload_n 1, 1) := by decide +kernel
theorem q_256_48 : p_tb 256 48 = some (.iadd, 1) := by decide +kernel
theorem q_256_49 : p_tb 256 49 = some (.iaload, 1) := by decide +kernel
theorem q_256_50 : p_tb 256 50 = some (.istore 6, 2) := by decide +kernel
theorem q_256_52 : p_tb 256 52 = some (.aload_n 0, 1) := by decide +kernel
theorem q_256_53 : p_tb 256 53 = some (.bipush 30, 2) := by decide +kernel
theorem q_256_55 : p_tb 256 55 = some (.iload_n 3, 1) := by decide +kernel
theorem q_256_56 : p_tb 256 56 = some (.iload 5, 2) := by decide +kernel
theorem q_256_58 : p_tb 256 58 = some (.iadd, 1) := by decide +kernel
theorem q_256_59 : p_tb 256 59 = some (.invokevirtual 366, 3) := by decide +kernel
theorem q_256_62 : p_tb 256 62 = some (.pop, 1) := by decide +kernel
theorem q_256_63 : p_tb 256 63 = some (.iload 4, 2) := by decide +kernel
theorem q_256_65 : p_tb 256 65 = some (.aload_n 0, 1) := by decide +kernel
theorem q_256_66 : p_tb 256 66 = some (.getfield 33, 3) := by decide +kernel
theorem q_256_69 : p_tb 256 69 = some (.bipush 61, 2) := by decide +kernel
theorem q_256_71 : p_tb 256 71 = some (.iload_n 1, 1) := by decide +kernel
theorem q_256_72 : p_tb 256 72 = some (.iadd, 1) := by decide +kernel
theorem q_256_73 : p_tb 256 73 = some (.iaload, 1) := by decide +kernel
theorem q_256_74 : p_tb 256 74 = some (.iload 6, 2) := by decide +kernel
theorem q_256_76 : p_tb 256 76 = some (.if_icmp .le 7, 3) := by decide +kernel
theorem q_256_79 : p_tb 256 79 = some (.iconst 1, 1) := by decide +kernel
theorem q_256_80 : p_tb 256 80 = some (.goto 4, 3) := by decide +kernel
theorem q_256_83 : p_tb 256 83 = some (.iconst 0, 1) := by decide +kernel
theorem q_256_84 : p_tb 256 84 = some (.iadd, 1) := by decide +kernel
theorem q_256_85 : p_tb 256 85 = some (.istore 4, 2) := by decide +kernel
theorem q_256_87 : p_tb 256 87 = some (.aload_n 0, 1) := by decide +kernel
theorem q_256_88 : p_tb 256 88 = some (.invokevirtual 311, 3) := by decide +kernel
theorem q_256_91 : p_tb 256 91 = some (.iinc 5 1, 3) := by decide +kernel
theorem q_256_94 : p_tb 256 94 = some (.goto (-59), 3) := by decide +kernel
theorem q_256_97 : p_tb 256 97 = some (.iload 4, 2) := by decide +kernel
theorem q_256_99 : p_tb 256 99 = some (.ireturn, 1) := by decide +kernel
theorem t_ft_256_1 : p_f2 p_ft (p_mK 256) 1 = some (11, 0) := by decide +kernel
theorem t_ft_256_33 : p_f2 p_ft (p_mK 256) 33 = some (11, 6) := by decide +kernel
theorem t_ms_256_176 : p_f2 p_ms (p_mK 256) 176 = some 166 := by decide +kernel
theorem t_mv_256_241 : p_f2 p_mv (p_mK 256) 241 = some 195 := by decide +kernel
theorem t_mv_256_308 : p_f2 p_mv (p_mK 256) 308 = some 222 := by decide +kernel
theorem t_mv_256_311 : p_f2 p_mv (p_mK 256) 311 = some 223 := by decide +kernel
theorem t_mv_256_366 : p_f2 p_mv (p_mK 256) 366 = some 254 := by decide +kernel
theorem q_260_0 : p_tb 260 0 = some (.aload_n 0, 1) := by decide +kernel
theorem q_260_1 : p_tb 260 1 = some (.iconst 0, 1) := by decide +kernel
theorem q_260_2 : p_tb 260 2 = some (.putfield 1, 3) := by decide +kernel
theorem q_260_5 : p_tb 260 5 = some (.aload_n 0, 1) := by decide +kernel
theorem q_260_6 : p_tb 260 6 = some (.getfield 378, 3) := by decide +kernel
theorem q_260_9 : p_tb 260 9 = some (.ifCond .eq 21, 3) := by decide +kernel
theorem q_260_12 : p_tb 260 12 = some (.iload_n 1, 1) := by decide +kernel
theorem q_260_13 : p_tb 260 13 = some (.iconst 0, 1) := by decide +kernel
theorem q_260_14 : p_tb 260 14 = some (.iconst 3, 1) := by decide +kernel
theorem q_260_15 : p_tb 260 15 = some (.invokestatic 176, 3) := by decide +kernel
theorem q_260_18 : p_tb 260 18 = some (.ifCond .eq 12, 3) := by decide +kernel
theorem q_260_21 : p_tb 260 21 = some (.aload_n 0, 1) := by decide +kernel
theorem q_260_22 : p_tb 260 22 = some (.getfield 59, 3) := by decide +kernel
theorem q_260_25 : p_tb 260 25 = some (.iload_n 1, 1) := by decide +kernel
theorem q_260_26 : p_tb 260 26 = some (.iaload, 1) := by decide +kernel
theorem q_260_27 : p_tb 260 27 = some (.goto 4, 3) := by decide +kernel
theorem q_260_30 : p_tb 260 30 = some (.iconst (-1), 1) := by decide +kernel
theorem q_260_31 : p_tb 260 31 = some (.ireturn, 1) := by decide +kernel
theorem t_ft_260_1 : p_f2 p_ft (p_mK 260) 1 = some (11, 0) := by decide +kernel
theorem t_ft_260_378 : p_f2 p_ft (p_mK 260) 378 = some (11, 31) := by decide +kernel
theorem t_ft_260_59 : p_f2 p_ft (p_mK 260) 59 = some (11, 30) := by decide +kernel
theorem t_ms_260_176 : p_f2 p_ms (p_mK 260) 176 = some 166 := by decide +kernel
theorem q_274_0 : p_tb 274 0 = some (.aload_n 0, 1) := by decide +kernel
theorem q_274_1 : p_tb 274 1 = some (.iconst 0, 1) := by decide +kernel
theorem q_274_2 : p_tb 274 2 = some (.putfield 1, 3) := by decide +kernel
theorem q_274_5 : p_tb 274 5 = some (.iload_n 1, 1) := by decide +kernel
theorem q_274_6 : p_tb 274 6 = some (.tableswitch 91 0 5 #[38, 45, 52, 59, 66, 86], 38) := by decide +kernel
theorem q_274_44 : p_tb 274 44 = some (.aload_n 0, 1) := by decide +kernel
theorem q_274_45 : p_tb 274 45 = some (.getfield 33, 3) := by decide +kernel
theorem q_274_48 : p_tb 274 48 = some (.iconst 0, 1) := by decide +kernel
theorem q_274_49 : p_tb 274 49 = some (.iaload, 1) := by decide +kernel
theorem q_274_50 : p_tb 274 50 = some (.ireturn, 1) := by decide +kernel
theorem q_274_51 : p_tb 274 51 = some (.aload_n 0, 1) := by decide +kernel
theorem q_274_52 : p_tb 274 52 = some (.getfield 33, 3) := by decide +kernel
theorem q_274_55 : p_tb 274 55 = some (.iconst 1, 1) := by decide +kernel
theorem q_274_56 : p_tb 274 56 = some (.iaload, 1) := by decide +kernel
theorem q_274_57 : p_tb 274 57 = some (.ireturn, 1) := by decide +kernel
theorem q_274_58 : p_tb 274 58 = some (.aload_n 0, 1) := by decide +kernel
theorem q_274_59 : p_tb 274 59 = some (.getfield 33, 3) := by decide +kernel
theorem q_274_62 : p_tb 274 62 = some (.iconst 2, 1) := by decide +kernel
theorem q_274_63 : p_tb 274 63 = some (.iaload, 1) := by decide +kernel
theorem q_274_64 : p_tb 274 64 = some (.ireturn, 1) := by decide +kernel
theorem q_274_65 : p_tb 274 65 = some (.aload_n 0, 1) := by decide +kernel
theorem q_274_66 : p_tb 274 66 = some (.getfield 33, 3) := by decide +kernel
theorem q_274_69 : p_tb 274 69 = some (.iconst 3, 1) := by decide +kernel
theorem q_274_70 : p_tb 274 70 = some (.iaload, 1) := by decide +kernel
theorem q_274_71 : p_tb 274 71 = some (.ireturn, 1) := by decide +kernel
theorem q_274_72 : p_tb 274 72 = some (.aload_n 0, 1) := by decide +kernel
theorem q_274_73 : p_tb 274 73 = some (.getfield 33, 3) := by decide +kernel
theorem q_274_76 : p_tb 274 76 = some (.iconst 4, 1) := by decide +kernel
theorem q_274_77 : p_tb 274 77 = some (.iaload, 1) := by decide +kernel
theorem q_274_78 : p_tb 274 78 = some (.ifCond .ne 7, 3) := by decide +kernel
theorem q_274_81 : p_tb 274 81 = some (.iconst (-1), 1) := by decide +kernel
theorem q_274_82 : p_tb 274 82 = some (.goto 9, 3) := by decide +kernel
theorem q_274_85 : p_tb 274 85 = some (.aload_n 0, 1) := by decide +kernel
theorem q_274_86 : p_tb 274 86 = some (.getfield 33, 3) := by decide +kernel
theorem q_274_89 : p_tb 274 89 = some (.iconst 4, 1) := by decide +kernel
theorem q_274_90 : p_tb 274 90 = some (.iaload, 1) := by decide +kernel
theorem q_274_91 : p_tb 274 91 = some (.ireturn, 1) := by decide +kernel
theorem q_274_92 : p_tb 274 92 = some (.aload_n 0, 1) := by decide +kernel
theorem q_274_93 : p_tb 274 93 = some (.getfield 7, 3) := by decide +kernel
theorem q_274_96 : p_tb 274 96 = some (.ireturn, 1) := by decide +kernel
theorem q_274_97 : p_tb 274 97 = some (.iconst (-1), 1) := by decide +kernel
theorem q_274_98 : p_tb 274 98 = some (.ireturn, 1) := by decide +kernel
theorem t_ft_274_1 : p_f2 p_ft (p_mK 274) 1 = some (11, 0) := by decide +kernel
theorem t_ft_274_33 : p_f2 p_ft (p_mK 274) 33 = some (11, 6) := by decide +kernel
theorem t_ft_274_7 : p_f2 p_ft (p_mK 274) 7 = some (11, 2) := by decide +kernel
theorem c_X12_prints (G : pG) (Kr : pK) (M : pM) (I : Iv gTT M)  (hK : ∀ (x : Int32) (M1 : pM), Iv gTT M1 → Fr [40, 42, 48] M M1 → ((gLz M1) ∧ gHq M1 M) → Kr.1 (some (.int x)) 311 M1) : PW G false 6 245 (p_mc 245) (p_msl 245) Kr 0 (lv_args 0 [.ref 294]) [] 311 M 0 0 := by
  have F : Fr [40, 42, 48] M M := Fr.refl
  refine PW.aload_n q_245_0 rfl ?_
  refine PW.cI q_245_1 (by decide) fun c1 hc1 => ?_
  refine PW.pI q_245_2 (Or.inl t_ft_245_1) gF_40_0 gP_40_0 kd_294 Stab0 I (by decide) rfl (n_lo _) (n_hi _) fun M2 IM2 fM2 UM2 => ?_
  have FM2 := Fr.pu F UM2.1 kd_294 (rfl : List.contains [40, 42, 48] 40 = true)
  have tr3 := UM2.i (c := 294) (k := 3) (Or.inr (by decide))
  refine PW.aload_n q_245_5 rfl ?_
  refine PW.cS q_245_6 (by decide) fun c4 hc4 => ?_
  refine PW.cV (as := [_]) (rest := []) q_245_9 t_mv_245_226 kd_294 IM2.1 (by decide) rfl (by decide) rfl rfl (Nat.le_of_ble_eq_true rfl) (Nat.le_of_ble_eq_true rfl) (by decide) (by decide) ?_
  refine PW.up (by decide) (c_X12_taken (gTT) (Stab0) G _ M2 IM2 c4 fun M5 IM5 GM5 TM5 => ?_)
  have FM5 := Fr.trans FM2 GM5 (rfl)
  refine PW.aload_n q_245_12 rfl ?_
  refine PW.gI q_245_13 (Or.inl t_ft_245_18) gF_40_3 kd_294 IM5.1 (by decide) fun x6 fx6 hx6 kx6 => ?_
  have trx6 := o_i_of fx6
  refine PW.cI q_245_16 (by decide) fun c7 hc7 => ?_
  refine PW.remP q_245_17 (by omega) (by omega) fun x8 hx8 kx8 ex8 => ?_
  rw [show c7.toInt = 2 from by omega] at ex8
  refine PW.cI q_245_18 (by decide) fun c9 hc9 => ?_
  refine PW.jc_eq q_245_19 rfl (fun h10 => ?_) (fun h10 => ?_)
  · skip
    refine PW.cI q_245_35 (by decide) fun c11 hc11 => ?_
    refine PW.rI q_245_36 rfl (by decide) (by decide) ?_
    exact hK c11 M5 IM5 FM5 ⟨TM5.1, ((gHq.refl.pu UM2 (by decide)).tr TM5.2)⟩
  · skip
    refine PW.aload_n q_245_22 rfl ?_
    refine PW.gE q_245_23 (Or.inl t_ft_245_18) gF_40_3 kd_294 IM5.1 (by decide) fx6 ?_
    have tr12 := o_i_of fx6
    refine PW.cI q_245_26 (by decide) fun c13 hc13 => ?_
    refine PW.cB q_245_27 (by decide) fun c14 hc14 => ?_
    refine PW.callS (as := [_, _, _]) (rest := []) q_245_29 t_ms_245_176 (by decide) rfl (Nat.le_of_ble_eq_true rfl) (Nat.le_of_ble_eq_true rfl) (by decide) (by decide) ?_
    refine PW.iload_n q_166_0 rfl ?_
    refine PW.iload_n q_166_1 rfl ?_
    refine PW.jc_lt q_166_2 rfl (fun h15 => ?_) (fun h15 => ?_)
    · skip
      refine PW.cI q_166_14 (by decide) fun c16 hc16 => ?_
      refine PW.rZ q_166_15 rfl (by omega) (by omega) (by decide) (by decide) ?_
      refine PW.jz_ne q_245_32 rfl (fun h17 => False.elim (by omega)) (fun h17 => ?_)
      refine PW.cI q_245_35 (by decide) fun c18 hc18 => ?_
      refine PW.rI q_245_36 rfl (by decide) (by decide) ?_
      exact hK c18 M5 IM5 FM5 ⟨TM5.1, ((gHq.refl.pu UM2 (by decide)).tr TM5.2)⟩
    · skip
      refine PW.iload_n q_166_5 rfl ?_
      refine PW.iload_n q_166_6 rfl ?_
      refine PW.jc_gt q_166_7 rfl (fun h19 => ?_) (fun h19 => ?_)
      · skip
        refine PW.cI q_166_14 (by decide) fun c20 hc20 => ?_
        refine PW.rZ q_166_15 rfl (by omega) (by omega) (by decide) (by decide) ?_
        refine PW.jz_ne q_245_32 rfl (fun h21 => False.elim (by omega)) (fun h21 => ?_)
        refine PW.cI q_245_35 (by decide) fun c22 hc22 => ?_
        refine PW.rI q_245_36 rfl (by decide) (by decide) ?_
        exact hK c22 M5 IM5 FM5 ⟨TM5.1, ((gHq.refl.pu UM2 (by decide)).tr TM5.2)⟩
      · skip
        refine PW.cI q_166_10 (by decide) fun c23 hc23 => ?_
        refine PW.goto q_166_11 rfl ?_
        refine PW.rZ q_166_15 rfl (by omega) (by omega) (by decide) (by decide) ?_
        refine PW.jz_ne q_245_32 rfl (fun h24 => ?_) (fun h24 => False.elim (by omega))
        refine PW.cI q_245_37 (by decide) fun c25 hc25 => ?_
        refine PW.aload_n q_245_38 rfl ?_
        refine PW.gR 296 q_245_39 (Or.inl t_ft_245_33) gF_40_6 kd_294 IM5.1 (by decide) rfl ?_
        refine PW.cI q_245_42 (by decide) fun c26 hc26 => ?_
        refine PW.aI q_245_43 gA_42 kd_296 IM5.1 (by decide) gB_42_0_0 (by decide) (by omega) (by omega) fun x27 fx27 hx27 kx27 => ?_
        refine PW.shlH q_245_44 fun x28 => ?_
        refine PW.cI q_245_45 (by decide) fun c29 hc29 => ?_
        refine PW.subH q_245_46 fun x30 => ?_
        refine PW.istore_n q_245_47 (by decide) ?_
        refine PW.aload_n q_245_48 rfl ?_
        refine PW.cV (as := []) (rest := []) q_245_49 t_mv_245_308 kd_294 IM5.1 (by decide) rfl (by decide) rfl rfl (Nat.le_of_ble_eq_true rfl) (Nat.le_of_ble_eq_true rfl) (by decide) (by decide) ?_
        refine PW.up (by decide) (c_X12_tries G _ M5 IM5  fun M31 IM31 GM31 TM31 => ?_)
        have FM31 := Fr.trans FM5 GM31 (rfl)
        have tr32 : o_i (M31 294) 3 = o_i (M5 294) 3 := by rw [Fr.at GM31 kd_294 (by decide)]
        refine PW.cI q_245_52 (by decide) fun c33 hc33 => ?_
        refine PW.istore_n q_245_53 (by decide) ?_
        have L245_54_34 : ∀ (n : Nat) (ML245_54_34 : pM) (v35 v36 : Int32), Iv (gTT) ML245_54_34 → Fr [40, 42, 48] M ML245_54_34 → 0 ≤ v36.toInt → v36.toInt ≤ 20 → o_i (ML245_54_34 294) 3 ≤ 20 → o_i (ML245_54_34 294) 3 % 2 = 0 → v36.toInt % 2 = 0 → (gLz ML245_54_34 ∧ gHq ML245_54_34 M) → (20 - v36.toInt).toNat = n → PW G false 6 245 (p_mc 245) (p_msl 245) Kr 54 [(0, .ref 294), (1, .int v35), (2, .int v36)] [] 311 ML245_54_34 0 0 := by
          intro n
          induction n using Nat.strongRecOn with
          | ind n ih_L245_54_34 =>
          intro ML245_54_34 v35 v36 IML245_54_34 FML245_54_34 hbL245_54_340 hbL245_54_341 hbL245_54_342 hbL245_54_343 hbL245_54_344 hbL245_54_345 hmL245_54_34
          refine PW.iload_n q_245_54 rfl ?_
          refine PW.aload_n q_245_55 rfl ?_
          refine PW.gI q_245_56 (Or.inl t_ft_245_18) gF_40_3 kd_294 IML245_54_34.1 (by decide) fun x37 fx37 hx37 kx37 => ?_
          have trx37 := o_i_of fx37
          refine PW.jc_ge q_245_59 rfl (fun h38 => ?_) (fun h38 => ?_)
          · skip
            refine PW.iload_n q_245_138 rfl ?_
            refine PW.rI q_245_139 rfl (by decide) (by decide) ?_
            exact hK v35 ML245_54_34 IML245_54_34 FML245_54_34 ⟨hbL245_54_345.1, hbL245_54_345.2⟩
          · skip
            refine PW.aload_n q_245_62 rfl ?_
            refine PW.aload_n q_245_63 rfl ?_
            refine PW.iload_n q_245_64 rfl ?_
            refine PW.cV (as := [_]) (rest := [_]) q_245_65 t_mv_245_346 kd_294 IML245_54_34.1 (by decide) rfl (by decide) rfl rfl (Nat.le_of_ble_eq_true rfl) (Nat.le_of_ble_eq_true rfl) (by decide) (by decide) ?_
            refine PW.up (by decide) (c_X12_octet (gTT) (Stab0) G _ ML245_54_34 IML245_54_34 v36 (by omega) (by omega) fun x40 M39 IM39 GM39 hx40 kx40 TM39 => ?_)
            have FM39 := Fr.trans FML245_54_34 GM39 (rfl)
            have tr41 : o_i (M39 294) 3 = o_i (ML245_54_34 294) 3 := by rw [Fr.at GM39 kd_294 (by decide)]
            refine PW.cV (as := [_]) (rest := []) q_245_68 t_mv_245_299 kd_294 IM39.1 (by decide) rfl (by decide) rfl rfl (Nat.le_of_ble_eq_true rfl) (Nat.le_of_ble_eq_true rfl) (by decide) (by decide) ?_
            refine PW.up (by decide) (c_X12_goesOn G _ M39 IM39 x40 fun x43 M42 IM42 GM42 hx43 TM42 => ?_)
            have FM42 := Fr.trans FM39 GM42 (rfl)
            have tr44 : o_i (M42 294) 3 = o_i (M39 294) 3 := by rw [Fr.at GM42 kd_294 (by decide)]
            refine PW.aload_n q_245_71 rfl ?_
            refine PW.iload_n q_245_72 rfl ?_
            refine PW.cV (as := [_]) (rest := [_]) q_245_73 t_mv_245_346 kd_294 IM42.1 (by decide) rfl (by decide) rfl rfl (Nat.le_of_ble_eq_true rfl) (Nat.le_of_ble_eq_true rfl) (by decide) (by decide) ?_
            refine PW.up (by decide) (c_X12_octet (gTT) (Stab0) G _ M42 IM42 v36 (by omega) (by omega) fun x46 M45 IM45 GM45 hx46 kx46 TM45 => ?_)
            have FM45 := Fr.trans FM42 GM45 (rfl)
            have tr47 : o_i (M45 294) 3 = o_i (M42 294) 3 := by rw [Fr.at GM45 kd_294 (by decide)]
            have J81_49 : ∀ (MJ81_49 : pM) (v50 : Int32), Iv (gTT) MJ81_49 → Fr [40, 42, 48] M MJ81_49 → o_i (MJ81_49 294) 3 = o_i (M45 294) 3 → o_f (MJ81_49 294) 3 = .int x37 → (gLz MJ81_49 ∧ gHq MJ81_49 M) → PW G false 6 245 (p_mc 245) (p_msl 245) Kr 81 [(0, .ref 294), (1, .int v50), (2, .int v36)] [] 311 MJ81_49 0 0 := by
              intro MJ81_49 v50 IMJ81_49 FMJ81_49 hbJ81_490 hbJ81_491 hbJ81_492
              refine PW.cI q_245_81 (by decide) fun c51 hc51 => ?_
              refine PW.istore_n q_245_82 (by decide) ?_
              have L245_83_52 : ∀ (n : Nat) (ML245_83_52 : pM) (v53 v54 : Int32), Iv (gTT) ML245_83_52 → Fr [40, 42, 48] M ML245_83_52 → 0 ≤ v54.toInt → v54.toInt ≤ 6 → o_i (ML245_83_52 294) 3 ≤ 20 → o_i (ML245_83_52 294) 3 % 2 = 0 → (gLz ML245_83_52 ∧ gHq ML245_83_52 M) → (6 - v54.toInt).toNat = n → PW G false 6 245 (p_mc 245) (p_msl 245) Kr 83 [(0, .ref 294), (1, .int v53), (2, .int v36), (3, .int v54)] [] 311 ML245_83_52 0 0 := by
                intro n
                induction n using Nat.strongRecOn with
                | ind n ih_L245_83_52 =>
                intro ML245_83_52 v53 v54 IML245_83_52 FML245_83_52 hbL245_83_520 hbL245_83_521 hbL245_83_522 hbL245_83_523 hbL245_83_524 hmL245_83_52
                refine PW.iload_n q_245_83 rfl ?_
                refine PW.aload_n q_245_84 rfl ?_
                refine PW.gR 296 q_245_85 (Or.inl t_ft_245_33) gF_40_6 kd_294 IML245_83_52.1 (by decide) rfl ?_
                refine PW.cI q_245_88 (by decide) fun c55 hc55 => ?_
                refine PW.aI q_245_89 gA_42 kd_296 IML245_83_52.1 (by decide) gB_42_0_0 (by decide) (by omega) (by omega) fun x56 fx56 hx56 kx56 => ?_
                refine PW.jc_ge q_245_90 rfl (fun h57 => ?_) (fun h57 => ?_)
                · skip
                  refine PW.aload_n q_245_128 rfl ?_
                  refine PW.cV (as := []) (rest := []) q_245_129 t_mv_245_311 kd_294 IML245_83_52.1 (by decide) rfl (by decide) rfl rfl (Nat.le_of_ble_eq_true rfl) (Nat.le_of_ble_eq_true rfl) (by decide) (by decide) ?_
                  refine PW.up (by decide) (c_X12_back G _ ML245_83_52 IML245_83_52  fun M58 IM58 GM58 TM58 => ?_)
                  have FM58 := Fr.trans FML245_83_52 GM58 (rfl)
                  have tr59 : o_i (M58 294) 3 = o_i (ML245_83_52 294) 3 := by rw [Fr.at GM58 kd_294 (by decide)]
                  refine PW.incN q_245_132 rfl (by decide) (by decide) (by omega) (by omega) fun x60 hx60 => ?_
                  refine PW.goto q_245_135 rfl ?_
                  refine PW.lvS (lk1 rfl (lk1 rfl (lk1 rfl lk0))) (ih_L245_54_34 _ ?_ M58 v53 x60 IM58 FM58 (by omega) (by omega) (by omega) (by omega) (by omega) ⟨((congrArg (fun e => o_i e 2) (Fr.at GM58 kd_294 rfl)).trans hbL245_83_524.1), (hbL245_83_524.2.tr TM58.2)⟩ rfl)
                  omega
                · skip
                  refine PW.aload_n q_245_93 rfl ?_
                  refine PW.gR 296 q_245_94 (Or.inl t_ft_245_33) gF_40_6 kd_294 IML245_83_52.1 (by decide) rfl ?_
                  refine PW.cB q_245_97 (by decide) fun c61 hc61 => ?_
                  refine PW.iload_n q_245_99 rfl ?_
                  refine PW.addN q_245_100 (by omega) (by omega) fun x62 hx62 => ?_
                  refine PW.aH q_245_101 gA_42 kd_296 IML245_83_52.1 (by decide) (by omega) (by omega) fun x63 fx63 => ?_
                  refine PW.cI q_245_102 (by decide) fun c64 hc64 => ?_
                  refine PW.divH q_245_103 (by omega) fun x65 => ?_
                  refine PW.aload_n q_245_104 rfl ?_
                  refine PW.iload_n q_245_105 rfl ?_
                  refine PW.cI q_245_106 (by decide) fun c66 hc66 => ?_
                  refine PW.addN q_245_107 (by omega) (by omega) fun x67 hx67 => ?_
                  refine PW.cV (as := [_]) (rest := [_]) q_245_108 t_mv_245_346 kd_294 IML245_83_52.1 (by decide) rfl (by decide) rfl rfl (Nat.le_of_ble_eq_true rfl) (Nat.le_of_ble_eq_true rfl) (by decide) (by decide) ?_
                  refine PW.up (by decide) (c_X12_octet (gTT) (Stab0) G _ ML245_83_52 IML245_83_52 x67 (by omega) (by omega) fun x69 M68 IM68 GM68 hx69 kx69 TM68 => ?_)
                  have FM68 := Fr.trans FML245_83_52 GM68 (rfl)
                  have tr70 : o_i (M68 294) 3 = o_i (ML245_83_52 294) 3 := by rw [Fr.at GM68 kd_294 (by decide)]
                  have J122_72 : ∀ (MJ122_72 : pM) (v73 : Int32), Iv (gTT) MJ122_72 → Fr [40, 42, 48] M MJ122_72 → o_i (MJ122_72 294) 3 = o_i (M68 294) 3 → (gLz MJ122_72 ∧ gHq MJ122_72 M) → PW G false 6 245 (p_mc 245) (p_msl 245) Kr 122 [(0, .ref 294), (1, .int v73), (2, .int v36), (3, .int v54)] [] 311 MJ122_72 0 0 := by
                    intro MJ122_72 v73 IMJ122_72 FMJ122_72 hbJ122_720 hbJ122_721
                    refine PW.incN q_245_122 rfl (by decide) (by decide) (by omega) (by omega) fun x74 hx74 => ?_
                    refine PW.goto q_245_125 rfl ?_
                    refine PW.lvS (lk1 rfl (lk1 rfl (lk1 rfl (lk1 rfl lk0)))) (ih_L245_83_52 _ ?_ MJ122_72 v73 x74 IMJ122_72 FMJ122_72 (by omega) (by omega) (by omega) (by omega) ⟨hbJ122_721.1, hbJ122_721.2⟩ rfl)
                    omega
                  refine PW.jc_eq q_245_111 rfl (fun h71 => ?_) (fun h71 => ?_)
                  · skip
                    exact PW.lvS (lk1 rfl (lk1 rfl (lk1 rfl (lk1 rfl lk0)))) (J122_72 M68 v53 IM68 FM68 (by omega) ⟨((congrArg (fun e => o_i e 2) (Fr.at GM68 kd_294 rfl)).trans hbL245_83_524.1), (hbL245_83_524.2.cg (Fr.at GM68 kd_296 rfl) (Fr.at GM68 kd_294 rfl))⟩)
                  · skip
                    refine PW.iload_n q_245_114 rfl ?_
                    refine PW.cI q_245_115 (by decide) fun c75 hc75 => ?_
                    refine PW.iload_n q_245_116 rfl ?_
                    refine PW.shlH q_245_117 fun x76 => ?_
                    refine PW.cI q_245_118 (by decide) fun c77 hc77 => ?_
                    refine PW.xorH q_245_119 fun x78 => ?_
                    refine PW.andH q_245_120 fun x79 => ?_
                    refine PW.istore_n q_245_121 (by decide) ?_
                    exact PW.lvS (lk1 rfl (lk1 rfl (lk1 rfl (lk1 rfl lk0)))) (J122_72 M68 x79 IM68 FM68 (by omega) ⟨((congrArg (fun e => o_i e 2) (Fr.at GM68 kd_294 rfl)).trans hbL245_83_524.1), (hbL245_83_524.2.cg (Fr.at GM68 kd_296 rfl) (Fr.at GM68 kd_294 rfl))⟩)
              exact PW.lvS (lk1 rfl (lk1 rfl (lk1 rfl (lk1 rfl lk0)))) (L245_83_52 _ MJ81_49 v50 c51 IMJ81_49 FMJ81_49 (by omega) (by omega) (by omega) (by omega) ⟨hbJ81_492.1, hbJ81_492.2⟩ rfl)
            refine PW.jc_ge q_245_76 rfl (fun h48 => ?_) (fun h48 => ?_)
            · skip
              exact PW.lvS (lk1 rfl (lk1 rfl (lk1 rfl lk0))) (J81_49 M45 v35 IM45 FM45 (by omega) ((congrArg (fun e => o_f e 3) (Fr.at GM45 kd_294 (by decide))).trans ((congrArg (fun e => o_f e 3) (Fr.at GM42 kd_294 (by decide))).trans ((congrArg (fun e => o_f e 3) (Fr.at GM39 kd_294 (by decide))).trans fx37))) ⟨((congrArg (fun e => o_i e 2) (Fr.at GM45 kd_294 rfl)).trans ((congrArg (fun e => o_i e 2) (Fr.at GM42 kd_294 rfl)).trans ((congrArg (fun e => o_i e 2) (Fr.at GM39 kd_294 rfl)).trans hbL245_54_345.1))), (((hbL245_54_345.2.cg (Fr.at GM39 kd_296 rfl) (Fr.at GM39 kd_294 rfl)).tr TM42.2).cg (Fr.at GM45 kd_296 rfl) (Fr.at GM45 kd_294 rfl))⟩)
            · skip
              refine PW.cI q_245_79 (by decide) fun c80 hc80 => ?_
              refine PW.istore_n q_245_80 (by decide) ?_
              exact PW.lvS (lk1 rfl (lk1 rfl (lk1 rfl lk0))) (J81_49 M45 c80 IM45 FM45 (by omega) ((congrArg (fun e => o_f e 3) (Fr.at GM45 kd_294 (by decide))).trans ((congrArg (fun e => o_f e 3) (Fr.at GM42 kd_294 (by decide))).trans ((congrArg (fun e => o_f e 3) (Fr.at GM39 kd_294 (by decide))).trans fx37))) ⟨((congrArg (fun e => o_i e 2) (Fr.at GM45 kd_294 rfl)).trans ((congrArg (fun e => o_i e 2) (Fr.at GM42 kd_294 rfl)).trans ((congrArg (fun e => o_i e 2) (Fr.at GM39 kd_294 rfl)).trans hbL245_54_345.1))), (((hbL245_54_345.2.cg (Fr.at GM39 kd_296 rfl) (Fr.at GM39 kd_294 rfl)).tr TM42.2).cg (Fr.at GM45 kd_296 rfl) (Fr.at GM45 kd_294 rfl))⟩)
        exact PW.lvS (lk1 rfl (lk1 rfl (lk1 rfl lk0))) (L245_54_34 _ M31 x30 c33 IM31 FM31 (by omega) (by omega) (by omega) (by omega) (by omega) ⟨((congrArg (fun e => o_i e 2) (Fr.at GM31 kd_294 rfl)).trans TM5.1), (((gHq.refl.pu UM2 (by decide)).tr TM5.2).cg (Fr.at GM31 kd_296 rfl) (Fr.at GM31 kd_294 rfl))⟩ rfl)
theorem c_X12_judge (G : pG) (Kr : pK) (M : pM) (I : Iv gTT M) (a1 : Int32) (hK : ∀ (x : Int32) (M1 : pM), Iv gTT M1 → Fr [40, 42, 48] M M1 → ((gLz M1) ∧ gHq M1 M) → Kr.1 (some (.int x)) 311 M1) : PW G false 6 246 (p_mc 246) (p_msl 246) Kr 0 (lv_args 0 [.ref 294, .int a1]) [] 311 M 0 0 := by
  have F : Fr [40, 42, 48] M M := Fr.refl
  refine PW.aload_n q_246_0 rfl ?_
  refine PW.cI q_246_1 (by decide) fun c1 hc1 => ?_
  refine PW.pI q_246_2 (Or.inl t_ft_246_1) gF_40_0 gP_40_0 kd_294 Stab0 I (by decide) rfl (n_lo _) (n_hi _) fun M2 IM2 fM2 UM2 => ?_
  have FM2 := Fr.pu F UM2.1 kd_294 (rfl : List.contains [40, 42, 48] 40 = true)
  refine PW.aload_n q_246_5 rfl ?_
  refine PW.cS q_246_6 (by decide) fun c3 hc3 => ?_
  refine PW.cV (as := [_]) (rest := []) q_246_9 t_mv_246_226 kd_294 IM2.1 (by decide) rfl (by decide) rfl rfl (Nat.le_of_ble_eq_true rfl) (Nat.le_of_ble_eq_true rfl) (by decide) (by decide) ?_
  refine PW.up (by decide) (c_X12_taken (gTT) (Stab0) G _ M2 IM2 c3 fun M4 IM4 GM4 TM4 => ?_)
  have FM4 := Fr.trans FM2 GM4 (rfl)
  refine PW.aload_n q_246_12 rfl ?_
  refine PW.gI q_246_13 (Or.inl t_ft_246_18) gF_40_3 kd_294 IM4.1 (by decide) fun x5 fx5 hx5 kx5 => ?_
  refine PW.cI q_246_16 (by decide) fun c6 hc6 => ?_
  refine PW.cB q_246_17 (by decide) fun c7 hc7 => ?_
  refine PW.callS (as := [_, _, _]) (rest := []) q_246_19 t_ms_246_176 (by decide) rfl (Nat.le_of_ble_eq_true rfl) (Nat.le_of_ble_eq_true rfl) (by decide) (by decide) ?_
  refine PW.iload_n q_166_0 rfl ?_
  refine PW.iload_n q_166_1 rfl ?_
  refine PW.jc_lt q_166_2 rfl (fun h8 => ?_) (fun h8 => ?_)
  · skip
    refine PW.cI q_166_14 (by decide) fun c9 hc9 => ?_
    refine PW.rZ q_166_15 rfl (by omega) (by omega) (by decide) (by decide) ?_
    refine PW.jz_eq q_246_22 rfl (fun h10 => ?_) (fun h10 => False.elim (by omega))
    refine PW.cI q_246_37 (by decide) fun c11 hc11 => ?_
    refine PW.istore_n q_246_38 (by decide) ?_
    refine PW.cI q_246_39 (by decide) fun c12 hc12 => ?_
    refine PW.istore_n q_246_40 (by decide) ?_
    have L246_41_13 : ∀ (n : Nat) (ML246_41_13 : pM) (v14 v15 : Int32), Iv (gTT) ML246_41_13 → Fr [40, 42, 48] M ML246_41_13 → 0 ≤ v14.toInt → v14.toInt ≤ 0 → 0 ≤ v15.toInt → v15.toInt ≤ 0 → (gLz ML246_41_13 ∧ gHq ML246_41_13 M) → (0 - v15.toInt).toNat = n → PW G false 6 246 (p_mc 246) (p_msl 246) Kr 41 [(0, .ref 294), (1, .int a1), (2, .int v14), (3, .int v15)] [] 311 ML246_41_13 0 0 := by
      intro n
      induction n using Nat.strongRecOn with
      | ind n ih_L246_41_13 =>
      intro ML246_41_13 v14 v15 IML246_41_13 FML246_41_13 hbL246_41_130 hbL246_41_131 hbL246_41_132 hbL246_41_133 hbL246_41_134 hmL246_41_13
      refine PW.iload_n q_246_41 rfl ?_
      refine PW.aload_n q_246_42 rfl ?_
      refine PW.gI q_246_43 (Or.inl t_ft_246_18) gF_40_3 kd_294 IML246_41_13.1 (by decide) fun x16 fx16 hx16 kx16 => ?_
      have J69_18 : ∀ (MJ69_18 : pM), Iv (gTT) MJ69_18 → Fr [40, 42, 48] M MJ69_18 → o_f (MJ69_18 294) 3 = .int x16 → (gLz MJ69_18 ∧ gHq MJ69_18 M) → PW G false 6 246 (p_mc 246) (p_msl 246) Kr 69 [(0, .ref 294), (1, .int a1), (2, .int v14), (3, .int v15)] [] 311 MJ69_18 0 0 := by
        intro MJ69_18  IMJ69_18 FMJ69_18 hbJ69_180 hbJ69_181
        refine PW.iload_n q_246_69 rfl ?_
        refine PW.jz_ne q_246_70 rfl (fun h19 => False.elim (by omega)) (fun h19 => ?_)
        refine PW.cB q_246_73 (by decide) fun c20 hc20 => ?_
        refine PW.rI q_246_75 rfl (by decide) (by decide) ?_
        exact hK c20 MJ69_18 IMJ69_18 FMJ69_18 ⟨hbJ69_181.1, hbJ69_181.2⟩
      refine PW.jc_ge q_246_46 rfl (fun h17 => ?_) (fun h17 => ?_)
      · skip
        exact PW.lvS (lk1 rfl (lk1 rfl (lk1 rfl (lk1 rfl lk0)))) (J69_18 ML246_41_13  IML246_41_13 FML246_41_13 fx16 ⟨hbL246_41_134.1, hbL246_41_134.2⟩)
      · skip
        refine PW.iload_n q_246_49 rfl ?_
        refine PW.jz_eq q_246_50 rfl (fun h21 => ?_) (fun h21 => False.elim (by omega))
        exact PW.lvS (lk1 rfl (lk1 rfl (lk1 rfl (lk1 rfl lk0)))) (J69_18 ML246_41_13  IML246_41_13 FML246_41_13 fx16 ⟨hbL246_41_134.1, hbL246_41_134.2⟩)
    exact PW.lvS (lk1 rfl (lk1 rfl (lk1 rfl (lk1 rfl lk0)))) (L246_41_13 _ M4 c11 c12 IM4 FM4 (by omega) (by omega) (by omega) (by omega) ⟨TM4.1, ((gHq.refl.pu UM2 (by decide)).tr TM4.2)⟩ rfl)
  · skip
    refine PW.iload_n q_166_5 rfl ?_
    refine PW.iload_n q_166_6 rfl ?_
    refine PW.jc_gt q_166_7 rfl (fun h22 => ?_) (fun h22 => ?_)
    · skip
      refine PW.cI q_166_14 (by decide) fun c23 hc23 => ?_
      refine PW.rZ q_166_15 rfl (by omega) (by omega) (by decide) (by decide) ?_
      refine PW.jz_eq q_246_22 rfl (fun h24 => ?_) (fun h24 => False.elim (by omega))
      refine PW.cI q_246_37 (by decide) fun c25 hc25 => ?_
      refine PW.istore_n q_246_38 (by decide) ?_
      refine PW.cI q_246_39 (by decide) fun c26 hc26 => ?_
      refine PW.istore_n q_246_40 (by decide) ?_
      have L246_41_27 : ∀ (n : Nat) (ML246_41_27 : pM) (v28 v29 : Int32), Iv (gTT) ML246_41_27 → Fr [40, 42, 48] M ML246_41_27 → 0 ≤ v28.toInt → v28.toInt ≤ 0 → 0 ≤ v29.toInt → v29.toInt ≤ 0 → (gLz ML246_41_27 ∧ gHq ML246_41_27 M) → (0 - v29.toInt).toNat = n → PW G false 6 246 (p_mc 246) (p_msl 246) Kr 41 [(0, .ref 294), (1, .int a1), (2, .int v28), (3, .int v29)] [] 311 ML246_41_27 0 0 := by
        intro n
        induction n using Nat.strongRecOn with
        | ind n ih_L246_41_27 =>
        intro ML246_41_27 v28 v29 IML246_41_27 FML246_41_27 hbL246_41_270 hbL246_41_271 hbL246_41_272 hbL246_41_273 hbL246_41_274 hmL246_41_27
        refine PW.iload_n q_246_41 rfl ?_
        refine PW.aload_n q_246_42 rfl ?_
        refine PW.gI q_246_43 (Or.inl t_ft_246_18) gF_40_3 kd_294 IML246_41_27.1 (by decide) fun x30 fx30 hx30 kx30 => ?_
        have J69_32 : ∀ (MJ69_32 : pM), Iv (gTT) MJ69_32 → Fr [40, 42, 48] M MJ69_32 → o_f (MJ69_32 294) 3 = .int x30 → (gLz MJ69_32 ∧ gHq MJ69_32 M) → PW G false 6 246 (p_mc 246) (p_msl 246) Kr 69 [(0, .ref 294), (1, .int a1), (2, .int v28), (3, .int v29)] [] 311 MJ69_32 0 0 := by
          intro MJ69_32  IMJ69_32 FMJ69_32 hbJ69_320 hbJ69_321
          refine PW.iload_n q_246_69 rfl ?_
          refine PW.jz_ne q_246_70 rfl (fun h33 => False.elim (by omega)) (fun h33 => ?_)
          refine PW.cB q_246_73 (by decide) fun c34 hc34 => ?_
          refine PW.rI q_246_75 rfl (by decide) (by decide) ?_
          exact hK c34 MJ69_32 IMJ69_32 FMJ69_32 ⟨hbJ69_321.1, hbJ69_321.2⟩
        refine PW.jc_ge q_246_46 rfl (fun h31 => ?_) (fun h31 => ?_)
        · skip
          exact PW.lvS (lk1 rfl (lk1 rfl (lk1 rfl (lk1 rfl lk0)))) (J69_32 ML246_41_27  IML246_41_27 FML246_41_27 fx30 ⟨hbL246_41_274.1, hbL246_41_274.2⟩)
        · skip
          refine PW.iload_n q_246_49 rfl ?_
          refine PW.jz_eq q_246_50 rfl (fun h35 => ?_) (fun h35 => False.elim (by omega))
          exact PW.lvS (lk1 rfl (lk1 rfl (lk1 rfl (lk1 rfl lk0)))) (J69_32 ML246_41_27  IML246_41_27 FML246_41_27 fx30 ⟨hbL246_41_274.1, hbL246_41_274.2⟩)
      exact PW.lvS (lk1 rfl (lk1 rfl (lk1 rfl (lk1 rfl lk0)))) (L246_41_27 _ M4 c25 c26 IM4 FM4 (by omega) (by omega) (by omega) (by omega) ⟨TM4.1, ((gHq.refl.pu UM2 (by decide)).tr TM4.2)⟩ rfl)
    · skip
      refine PW.cI q_166_10 (by decide) fun c36 hc36 => ?_
      refine PW.goto q_166_11 rfl ?_
      refine PW.rZ q_166_15 rfl (by omega) (by omega) (by decide) (by decide) ?_
      refine PW.jz_eq q_246_22 rfl (fun h37 => False.elim (by omega)) (fun h37 => ?_)
      refine PW.aload_n q_246_25 rfl ?_
      refine PW.iload_n q_246_26 rfl ?_
      refine PW.cV (as := [_]) (rest := []) q_246_27 t_mv_246_251 kd_294 IM4.1 (by decide) rfl (by decide) rfl rfl (Nat.le_of_ble_eq_true rfl) (Nat.le_of_ble_eq_true rfl) (by decide) (by decide) ?_
      refine PW.iload_n q_196_0 rfl ?_
      refine PW.cI q_196_1 (by decide) fun c38 hc38 => ?_
      refine PW.aload_n q_196_2 rfl ?_
      refine PW.gR 296 q_196_3 (Or.inl t_ft_196_33) gF_40_6 kd_294 IM4.1 (by decide) rfl ?_
      refine PW.cI q_196_6 (by decide) fun c39 hc39 => ?_
      refine PW.aI q_196_7 gA_42 kd_296 IM4.1 (by decide) gB_42_1_1 (by decide) (by omega) (by omega) fun x40 fx40 hx40 kx40 => ?_
      refine PW.cI q_196_8 (by decide) fun c41 hc41 => ?_
      refine PW.subN q_196_9 (by omega) (by omega) fun x42 hx42 => ?_
      refine PW.callS (as := [_, _, _]) (rest := []) q_196_10 t_ms_196_176 (by decide) rfl (Nat.le_of_ble_eq_true rfl) (Nat.le_of_ble_eq_true rfl) (by decide) (by decide) ?_
      refine PW.iload_n q_166_0 rfl ?_
      refine PW.iload_n q_166_1 rfl ?_
      refine PW.jc_lt q_166_2 rfl (fun h43 => ?_) (fun h43 => ?_)
      · skip
        refine PW.cI q_166_14 (by decide) fun c44 hc44 => ?_
        refine PW.rZ q_166_15 rfl (by omega) (by omega) (by decide) (by decide) ?_
        refine PW.rZ q_196_13 rfl (by omega) (by omega) (by decide) (by decide) ?_
        refine PW.jz_eq q_246_30 rfl (fun h45 => ?_) (fun h45 => False.elim (by omega))
        refine PW.cI q_246_37 (by decide) fun c46 hc46 => ?_
        refine PW.istore_n q_246_38 (by decide) ?_
        refine PW.cI q_246_39 (by decide) fun c47 hc47 => ?_
        refine PW.istore_n q_246_40 (by decide) ?_
        have L246_41_48 : ∀ (n : Nat) (ML246_41_48 : pM) (v49 v50 : Int32), Iv (gTT) ML246_41_48 → Fr [40, 42, 48] M ML246_41_48 → 0 ≤ v49.toInt → v49.toInt ≤ 0 → 0 ≤ v50.toInt → v50.toInt ≤ 0 → (gLz ML246_41_48 ∧ gHq ML246_41_48 M) → (0 - v50.toInt).toNat = n → PW G false 6 246 (p_mc 246) (p_msl 246) Kr 41 [(0, .ref 294), (1, .int a1), (2, .int v49), (3, .int v50)] [] 311 ML246_41_48 0 0 := by
          intro n
          induction n using Nat.strongRecOn with
          | ind n ih_L246_41_48 =>
          intro ML246_41_48 v49 v50 IML246_41_48 FML246_41_48 hbL246_41_480 hbL246_41_481 hbL246_41_482 hbL246_41_483 hbL246_41_484 hmL246_41_48
          refine PW.iload_n q_246_41 rfl ?_
          refine PW.aload_n q_246_42 rfl ?_
          refine PW.gI q_246_43 (Or.inl t_ft_246_18) gF_40_3 kd_294 IML246_41_48.1 (by decide) fun x51 fx51 hx51 kx51 => ?_
          have J69_53 : ∀ (MJ69_53 : pM), Iv (gTT) MJ69_53 → Fr [40, 42, 48] M MJ69_53 → o_f (MJ69_53 294) 3 = .int x51 → (gLz MJ69_53 ∧ gHq MJ69_53 M) → PW G false 6 246 (p_mc 246) (p_msl 246) Kr 69 [(0, .ref 294), (1, .int a1), (2, .int v49), (3, .int v50)] [] 311 MJ69_53 0 0 := by
            intro MJ69_53  IMJ69_53 FMJ69_53 hbJ69_530 hbJ69_531
            refine PW.iload_n q_246_69 rfl ?_
            refine PW.jz_ne q_246_70 rfl (fun h54 => False.elim (by omega)) (fun h54 => ?_)
            refine PW.cB q_246_73 (by decide) fun c55 hc55 => ?_
            refine PW.rI q_246_75 rfl (by decide) (by decide) ?_
            exact hK c55 MJ69_53 IMJ69_53 FMJ69_53 ⟨hbJ69_531.1, hbJ69_531.2⟩
          refine PW.jc_ge q_246_46 rfl (fun h52 => ?_) (fun h52 => ?_)
          · skip
            exact PW.lvS (lk1 rfl (lk1 rfl (lk1 rfl (lk1 rfl lk0)))) (J69_53 ML246_41_48  IML246_41_48 FML246_41_48 fx51 ⟨hbL246_41_484.1, hbL246_41_484.2⟩)
          · skip
            refine PW.iload_n q_246_49 rfl ?_
            refine PW.jz_eq q_246_50 rfl (fun h56 => ?_) (fun h56 => False.elim (by omega))
            exact PW.lvS (lk1 rfl (lk1 rfl (lk1 rfl (lk1 rfl lk0)))) (J69_53 ML246_41_48  IML246_41_48 FML246_41_48 fx51 ⟨hbL246_41_484.1, hbL246_41_484.2⟩)
        exact PW.lvS (lk1 rfl (lk1 rfl (lk1 rfl (lk1 rfl lk0)))) (L246_41_48 _ M4 c46 c47 IM4 FM4 (by omega) (by omega) (by omega) (by omega) ⟨TM4.1, ((gHq.refl.pu UM2 (by decide)).tr TM4.2)⟩ rfl)
      · skip
        refine PW.iload_n q_166_5 rfl ?_
        refine PW.iload_n q_166_6 rfl ?_
        refine PW.jc_gt q_166_7 rfl (fun h57 => ?_) (fun h57 => ?_)
        · skip
          refine PW.cI q_166_14 (by decide) fun c58 hc58 => ?_
          refine PW.rZ q_166_15 rfl (by omega) (by omega) (by decide) (by decide) ?_
          refine PW.rZ q_196_13 rfl (by omega) (by omega) (by decide) (by decide) ?_
          refine PW.jz_eq q_246_30 rfl (fun h59 => ?_) (fun h59 => False.elim (by omega))
          refine PW.cI q_246_37 (by decide) fun c60 hc60 => ?_
          refine PW.istore_n q_246_38 (by decide) ?_
          refine PW.cI q_246_39 (by decide) fun c61 hc61 => ?_
          refine PW.istore_n q_246_40 (by decide) ?_
          have L246_41_62 : ∀ (n : Nat) (ML246_41_62 : pM) (v63 v64 : Int32), Iv (gTT) ML246_41_62 → Fr [40, 42, 48] M ML246_41_62 → 0 ≤ v63.toInt → v63.toInt ≤ 0 → 0 ≤ v64.toInt → v64.toInt ≤ 0 → (gLz ML246_41_62 ∧ gHq ML246_41_62 M) → (0 - v64.toInt).toNat = n → PW G false 6 246 (p_mc 246) (p_msl 246) Kr 41 [(0, .ref 294), (1, .int a1), (2, .int v63), (3, .int v64)] [] 311 ML246_41_62 0 0 := by
            intro n
            induction n using Nat.strongRecOn with
            | ind n ih_L246_41_62 =>
            intro ML246_41_62 v63 v64 IML246_41_62 FML246_41_62 hbL246_41_620 hbL246_41_621 hbL246_41_622 hbL246_41_623 hbL246_41_624 hmL246_41_62
            refine PW.iload_n q_246_41 rfl ?_
            refine PW.aload_n q_246_42 rfl ?_
            refine PW.gI q_246_43 (Or.inl t_ft_246_18) gF_40_3 kd_294 IML246_41_62.1 (by decide) fun x65 fx65 hx65 kx65 => ?_
            have J69_67 : ∀ (MJ69_67 : pM), Iv (gTT) MJ69_67 → Fr [40, 42, 48] M MJ69_67 → o_f (MJ69_67 294) 3 = .int x65 → (gLz MJ69_67 ∧ gHq MJ69_67 M) → PW G false 6 246 (p_mc 246) (p_msl 246) Kr 69 [(0, .ref 294), (1, .int a1), (2, .int v63), (3, .int v64)] [] 311 MJ69_67 0 0 := by
              intro MJ69_67  IMJ69_67 FMJ69_67 hbJ69_670 hbJ69_671
              refine PW.iload_n q_246_69 rfl ?_
              refine PW.jz_ne q_246_70 rfl (fun h68 => False.elim (by omega)) (fun h68 => ?_)
              refine PW.cB q_246_73 (by decide) fun c69 hc69 => ?_
              refine PW.rI q_246_75 rfl (by decide) (by decide) ?_
              exact hK c69 MJ69_67 IMJ69_67 FMJ69_67 ⟨hbJ69_671.1, hbJ69_671.2⟩
            refine PW.jc_ge q_246_46 rfl (fun h66 => ?_) (fun h66 => ?_)
            · skip
              exact PW.lvS (lk1 rfl (lk1 rfl (lk1 rfl (lk1 rfl lk0)))) (J69_67 ML246_41_62  IML246_41_62 FML246_41_62 fx65 ⟨hbL246_41_624.1, hbL246_41_624.2⟩)
            · skip
              refine PW.iload_n q_246_49 rfl ?_
              refine PW.jz_eq q_246_50 rfl (fun h70 => ?_) (fun h70 => False.elim (by omega))
              exact PW.lvS (lk1 rfl (lk1 rfl (lk1 rfl (lk1 rfl lk0)))) (J69_67 ML246_41_62  IML246_41_62 FML246_41_62 fx65 ⟨hbL246_41_624.1, hbL246_41_624.2⟩)
          exact PW.lvS (lk1 rfl (lk1 rfl (lk1 rfl (lk1 rfl lk0)))) (L246_41_62 _ M4 c60 c61 IM4 FM4 (by omega) (by omega) (by omega) (by omega) ⟨TM4.1, ((gHq.refl.pu UM2 (by decide)).tr TM4.2)⟩ rfl)
        · skip
          refine PW.cI q_166_10 (by decide) fun c71 hc71 => ?_
          refine PW.goto q_166_11 rfl ?_
          refine PW.rZ q_166_15 rfl (by omega) (by omega) (by decide) (by decide) ?_
          refine PW.rZ q_196_13 rfl (by omega) (by omega) (by decide) (by decide) ?_
          refine PW.jz_eq q_246_30 rfl (fun h72 => False.elim (by omega)) (fun h72 => ?_)
          refine PW.cI q_246_33 (by decide) fun c73 hc73 => ?_
          refine PW.goto q_246_34 rfl ?_
          refine PW.istore_n q_246_38 (by decide) ?_
          refine PW.cI q_246_39 (by decide) fun c74 hc74 => ?_
          refine PW.istore_n q_246_40 (by decide) ?_
          have L246_41_75 : ∀ (n : Nat) (ML246_41_75 : pM) (v76 v77 : Int32), Iv (gTT) ML246_41_75 → Fr [40, 42, 48] M ML246_41_75 → 0 ≤ v76.toInt → v76.toInt ≤ 1 → 0 ≤ v77.toInt → v77.toInt ≤ 940 → (gLz ML246_41_75 ∧ gHq ML246_41_75 M) → (940 - v77.toInt).toNat = n → PW G false 6 246 (p_mc 246) (p_msl 246) Kr 41 [(0, .ref 294), (1, .int a1), (2, .int v76), (3, .int v77)] [] 311 ML246_41_75 0 0 := by
            intro n
            induction n using Nat.strongRecOn with
            | ind n ih_L246_41_75 =>
            intro ML246_41_75 v76 v77 IML246_41_75 FML246_41_75 hbL246_41_750 hbL246_41_751 hbL246_41_752 hbL246_41_753 hbL246_41_754 hmL246_41_75
            refine PW.iload_n q_246_41 rfl ?_
            refine PW.aload_n q_246_42 rfl ?_
            refine PW.gI q_246_43 (Or.inl t_ft_246_18) gF_40_3 kd_294 IML246_41_75.1 (by decide) fun x78 fx78 hx78 kx78 => ?_
            have J69_80 : ∀ (MJ69_80 : pM), Iv (gTT) MJ69_80 → Fr [40, 42, 48] M MJ69_80 → o_f (MJ69_80 294) 3 = .int x78 → (gLz MJ69_80 ∧ gHq MJ69_80 M) → PW G false 6 246 (p_mc 246) (p_msl 246) Kr 69 [(0, .ref 294), (1, .int a1), (2, .int v76), (3, .int v77)] [] 311 MJ69_80 0 0 := by
              intro MJ69_80  IMJ69_80 FMJ69_80 hbJ69_800 hbJ69_801
              refine PW.iload_n q_246_69 rfl ?_
              refine PW.jz_ne q_246_70 rfl (fun h81 => ?_) (fun h81 => ?_)
              · skip
                refine PW.aload_n q_246_76 rfl ?_
                refine PW.cV (as := []) (rest := []) q_246_77 t_mv_246_308 kd_294 IMJ69_80.1 (by decide) rfl (by decide) rfl rfl (Nat.le_of_ble_eq_true rfl) (Nat.le_of_ble_eq_true rfl) (by decide) (by decide) ?_
                refine PW.up (by decide) (c_X12_tries G _ MJ69_80 IMJ69_80  fun M82 IM82 GM82 TM82 => ?_)
                have FM82 := Fr.trans FMJ69_80 GM82 (rfl)
                refine PW.cI q_246_80 (by decide) fun c83 hc83 => ?_
                refine PW.istore_n q_246_81 (by decide) ?_
                refine PW.cI q_246_82 (by decide) fun c84 hc84 => ?_
                refine PW.istore q_246_83 (by decide) ?_
                refine PW.cI q_246_85 (by decide) fun c85 hc85 => ?_
                refine PW.istore q_246_86 (by decide) ?_
                have L246_88_86 : ∀ (n : Nat) (ML246_88_86 : pM) (v87 v88 v89 : Int32), Iv (gTT) ML246_88_86 → Fr [40, 42, 48] M ML246_88_86 → 0 ≤ v87.toInt → v87.toInt ≤ 940 → 0 ≤ v88.toInt → v88.toInt ≤ 1 → 0 ≤ v89.toInt → v89.toInt ≤ 300 → (gLz ML246_88_86 ∧ gHq ML246_88_86 M) → (300 - v89.toInt).toNat = n → PW G false 6 246 (p_mc 246) (p_msl 246) Kr 88 [(0, .ref 294), (1, .int a1), (2, .int v76), (3, .int v87), (4, .int v88), (5, .int v89)] [] 311 ML246_88_86 0 0 := by
                  intro n
                  induction n using Nat.strongRecOn with
                  | ind n ih_L246_88_86 =>
                  intro ML246_88_86 v87 v88 v89 IML246_88_86 FML246_88_86 hbL246_88_860 hbL246_88_861 hbL246_88_862 hbL246_88_863 hbL246_88_864 hbL246_88_865 hbL246_88_866 hmL246_88_86
                  refine PW.iload q_246_88 rfl ?_
                  refine PW.cS q_246_90 (by decide) fun c90 hc90 => ?_
                  have J187_92 : ∀ (MJ187_92 : pM), Iv (gTT) MJ187_92 → Fr [40, 42, 48] M MJ187_92 → (gLz MJ187_92 ∧ gHq MJ187_92 M) → PW G false 6 246 (p_mc 246) (p_msl 246) Kr 187 [(0, .ref 294), (1, .int a1), (2, .int v76), (3, .int v87), (4, .int v88), (5, .int v89)] [] 311 MJ187_92 0 0 := by
                    intro MJ187_92  IMJ187_92 FMJ187_92 hbJ187_920
                    refine PW.aload_n q_246_187 rfl ?_
                    refine PW.cV (as := []) (rest := []) q_246_188 t_mv_246_311 kd_294 IMJ187_92.1 (by decide) rfl (by decide) rfl rfl (Nat.le_of_ble_eq_true rfl) (Nat.le_of_ble_eq_true rfl) (by decide) (by decide) ?_
                    refine PW.up (by decide) (c_X12_back G _ MJ187_92 IMJ187_92  fun M93 IM93 GM93 TM93 => ?_)
                    have FM93 := Fr.trans FMJ187_92 GM93 (rfl)
                    refine PW.iload_n q_246_191 rfl ?_
                    refine PW.aload_n q_246_192 rfl ?_
                    refine PW.gI q_246_193 (Or.inl t_ft_246_18) gF_40_3 kd_294 IM93.1 (by decide) fun x94 fx94 hx94 kx94 => ?_
                    refine PW.jc_ne q_246_196 rfl (fun h95 => ?_) (fun h95 => ?_)
                    · skip
                      refine PW.iload_n q_246_203 rfl ?_
                      refine PW.rI q_246_204 rfl (by decide) (by decide) ?_
                      exact hK v87 M93 IM93 FM93 ⟨((congrArg (fun e => o_i e 2) (Fr.at GM93 kd_294 rfl)).trans hbJ187_920.1), (hbJ187_920.2.tr TM93.2)⟩
                    · skip
                      refine PW.cI q_246_199 (by decide) fun c96 hc96 => ?_
                      refine PW.goto q_246_200 rfl ?_
                      refine PW.rI q_246_204 rfl (by decide) (by decide) ?_
                      exact hK c96 M93 IM93 FM93 ⟨((congrArg (fun e => o_i e 2) (Fr.at GM93 kd_294 rfl)).trans hbJ187_920.1), (hbJ187_920.2.tr TM93.2)⟩
                  refine PW.jc_ge q_246_93 rfl (fun h91 => ?_) (fun h91 => ?_)
                  · skip
                    exact PW.lvS (lk1 rfl (lk1 rfl (lk1 rfl (lk1 rfl (lk1 rfl (lk1 rfl lk0)))))) (J187_92 ML246_88_86  IML246_88_86 FML246_88_86 ⟨hbL246_88_866.1, hbL246_88_866.2⟩)
                  · skip
                    refine PW.iload q_246_96 rfl ?_
                    refine PW.jz_ne q_246_98 rfl (fun h97 => ?_) (fun h97 => ?_)
                    · skip
                      exact PW.lvS (lk1 rfl (lk1 rfl (lk1 rfl (lk1 rfl (lk1 rfl (lk1 rfl lk0)))))) (J187_92 ML246_88_86  IML246_88_86 FML246_88_86 ⟨hbL246_88_866.1, hbL246_88_866.2⟩)
                    · skip
                      refine PW.iload_n q_246_101 rfl ?_
                      refine PW.aload_n q_246_102 rfl ?_
                      refine PW.gI q_246_103 (Or.inl t_ft_246_18) gF_40_3 kd_294 IML246_88_86.1 (by decide) fun x98 fx98 hx98 kx98 => ?_
                      refine PW.jc_ge q_246_106 rfl (fun h99 => ?_) (fun h99 => ?_)
                      · skip
                        exact PW.lvS (lk1 rfl (lk1 rfl (lk1 rfl (lk1 rfl (lk1 rfl (lk1 rfl lk0)))))) (J187_92 ML246_88_86  IML246_88_86 FML246_88_86 ⟨hbL246_88_866.1, hbL246_88_866.2⟩)
                      · skip
                        refine PW.aload_n q_246_109 rfl ?_
                        refine PW.cI q_246_110 (by decide) fun c100 hc100 => ?_
                        refine PW.cV (as := [_]) (rest := []) q_246_111 t_mv_246_299 kd_294 IML246_88_86.1 (by decide) rfl (by decide) rfl rfl (Nat.le_of_ble_eq_true rfl) (Nat.le_of_ble_eq_true rfl) (by decide) (by decide) ?_
                        refine PW.up (by decide) (c_X12_goesOn G _ ML246_88_86 IML246_88_86 c100 fun x102 M101 IM101 GM101 hx102 TM101 => ?_)
                        have FM101 := Fr.trans FML246_88_86 GM101 (rfl)
                        refine PW.cI q_246_114 (by decide) fun c103 hc103 => ?_
                        refine PW.jc_ne q_246_115 rfl (fun h104 => ?_) (fun h104 => ?_)
                        · skip
                          exact PW.lvS (lk1 rfl (lk1 rfl (lk1 rfl (lk1 rfl (lk1 rfl (lk1 rfl lk0)))))) (J187_92 M101  IM101 FM101 ⟨((congrArg (fun e => o_i e 2) (Fr.at GM101 kd_294 rfl)).trans hbL246_88_866.1), (hbL246_88_866.2.tr TM101.2)⟩)
                        · skip
                          refine PW.aload_n q_246_118 rfl ?_
                          refine PW.gR 296 q_246_119 (Or.inl t_ft_246_33) gF_40_6 kd_294 IM101.1 (by decide) rfl ?_
                          refine PW.cB q_246_122 (by decide) fun c105 hc105 => ?_
                          refine PW.iload_n q_246_124 rfl ?_
                          refine PW.addN q_246_125 (by have := n_lo a1; have := n_hi a1; omega) (by have := n_lo a1; have := n_hi a1; omega) fun x106 hx106 => ?_
                          refine PW.aI q_246_126 gA_42 kd_296 IM101.1 (by decide) gB_42_80_81 (by decide) (by omega) (by omega) fun x107 fx107 hx107 kx107 => ?_
                          refine PW.aload_n q_246_127 rfl ?_
                          refine PW.gR 302 q_246_128 (Or.inl t_ft_246_53) gF_40_22 kd_294 IM101.1 (by decide) rfl ?_
                          refine PW.cB q_246_131 (by decide) fun c108 hc108 => ?_
                          refine PW.iload_n q_246_133 rfl ?_
                          refine PW.addN q_246_134 (by have := n_lo a1; have := n_hi a1; omega) (by have := n_lo a1; have := n_hi a1; omega) fun x109 hx109 => ?_
                          refine PW.aI q_246_135 gA_48 kd_302 IM101.1 (by decide) gB_48_47_48 (by decide) (by omega) (by omega) fun x110 fx110 hx110 kx110 => ?_
                          refine PW.iload_n q_246_136 rfl ?_
                          refine PW.addN q_246_137 (by omega) (by omega) fun x111 hx111 => ?_
                          have J181_113 : ∀ (MJ181_113 : pM) (v114 v115 : Int32), Iv (gTT) MJ181_113 → Fr [40, 42, 48] M MJ181_113 → 0 ≤ v114.toInt → v114.toInt ≤ 940 → 0 ≤ v115.toInt → v115.toInt ≤ 1 → o_f (MJ181_113 294) 3 = .int x98 → (gLz MJ181_113 ∧ gHq MJ181_113 M) → PW G false 6 246 (p_mc 246) (p_msl 246) Kr 181 [(0, .ref 294), (1, .int a1), (2, .int v76), (3, .int v114), (4, .int v115), (5, .int v89)] [] 311 MJ181_113 0 0 := by
                            intro MJ181_113 v114 v115 IMJ181_113 FMJ181_113 hbJ181_1130 hbJ181_1131 hbJ181_1132 hbJ181_1133 hbJ181_1134 hbJ181_1135
                            refine PW.incN q_246_181 rfl (by decide) (by decide) (by omega) (by omega) fun x116 hx116 => ?_
                            refine PW.goto q_246_184 rfl ?_
                            refine PW.lvS (lk1 rfl (lk1 rfl (lk1 rfl (lk1 rfl (lk1 rfl (lk1 rfl lk0)))))) (ih_L246_88_86 _ ?_ MJ181_113 v114 v115 x116 IMJ181_113 FMJ181_113 (by omega) (by omega) (by omega) (by omega) (by omega) (by omega) ⟨hbJ181_1135.1, hbJ181_1135.2⟩ rfl)
                            omega
                          refine PW.jc_ne q_246_138 rfl (fun h112 => ?_) (fun h112 => ?_)
                          · skip
                            refine PW.aload_n q_246_144 rfl ?_
                            refine PW.gR 296 q_246_145 (Or.inl t_ft_246_33) gF_40_6 kd_294 IM101.1 (by decide) rfl ?_
                            refine PW.cB q_246_148 (by decide) fun c117 hc117 => ?_
                            refine PW.iload_n q_246_150 rfl ?_
                            refine PW.addN q_246_151 (by have := n_lo a1; have := n_hi a1; omega) (by have := n_lo a1; have := n_hi a1; omega) fun x118 hx118 => ?_
                            refine PW.aI q_246_152 gA_42 kd_296 IM101.1 (by decide) gB_42_86_87 (by decide) (by omega) (by omega) fun x119 fx119 hx119 kx119 => ?_
                            refine PW.aload_n q_246_153 rfl ?_
                            refine PW.iload_n q_246_154 rfl ?_
                            refine PW.cV (as := [_]) (rest := [_]) q_246_155 t_mv_246_346 kd_294 IM101.1 (by decide) rfl (by decide) rfl rfl (Nat.le_of_ble_eq_true rfl) (Nat.le_of_ble_eq_true rfl) (by decide) (by decide) ?_
                            refine PW.up (by decide) (c_X12_octet (gTT) (Stab0) G _ M101 IM101 v87 (by omega) (by omega) fun x121 M120 IM120 GM120 hx121 kx121 TM120 => ?_)
                            have FM120 := Fr.trans FM101 GM120 (rfl)
                            have J166_123 : ∀ (MJ166_123 : pM) (s124 : Int32), Iv (gTT) MJ166_123 → Fr [40, 42, 48] M MJ166_123 → 0 ≤ s124.toInt → s124.toInt ≤ 1 → o_f (MJ166_123 294) 3 = .int x98 → (gLz MJ166_123 ∧ gHq MJ166_123 M) → PW G false 6 246 (p_mc 246) (p_msl 246) Kr 166 [(0, .ref 294), (1, .int a1), (2, .int v76), (3, .int v87), (4, .int v88), (5, .int v89)] [.int s124] 311 MJ166_123 0 0 := by
                              intro MJ166_123 s124 IMJ166_123 FMJ166_123 hbJ166_1230 hbJ166_1231 hbJ166_1232 hbJ166_1233
                              refine PW.istore q_246_166 (by decide) ?_
                              refine PW.iload_n q_246_168 rfl ?_
                              refine PW.iload q_246_169 rfl ?_
                              have J179_126 : ∀ (MJ179_126 : pM) (s127 : Int32), Iv (gTT) MJ179_126 → Fr [40, 42, 48] M MJ179_126 → 0 ≤ s127.toInt → s127.toInt ≤ 1 → o_f (MJ179_126 294) 3 = .int x98 → (gLz MJ179_126 ∧ gHq MJ179_126 M) → PW G false 6 246 (p_mc 246) (p_msl 246) Kr 179 [(0, .ref 294), (1, .int a1), (2, .int v76), (3, .int v87), (4, .int s124), (5, .int v89)] [.int s127, .int v87] 311 MJ179_126 0 0 := by
                                intro MJ179_126 s127 IMJ179_126 FMJ179_126 hbJ179_1260 hbJ179_1261 hbJ179_1262 hbJ179_1263
                                refine PW.addN q_246_179 (by omega) (by omega) fun x128 hx128 => ?_
                                refine PW.istore_n q_246_180 (by decide) ?_
                                exact PW.lvS (lk1 rfl (lk1 rfl (lk1 rfl (lk1 rfl (lk1 rfl (lk1 rfl lk0)))))) (J181_113 MJ179_126 x128 s124 IMJ179_126 FMJ179_126 (by omega) (by omega) (by omega) (by omega) hbJ179_1262 ⟨hbJ179_1263.1, hbJ179_1263.2⟩)
                              refine PW.jz_eq q_246_171 rfl (fun h125 => ?_) (fun h125 => ?_)
                              · skip
                                refine PW.cI q_246_178 (by decide) fun c129 hc129 => ?_
                                exact PW.lvS (lk1 rfl (lk1 rfl (lk1 rfl (lk1 rfl (lk1 rfl (lk1 rfl lk0)))))) (J179_126 MJ166_123 c129 IMJ166_123 FMJ166_123 (by omega) (by omega) hbJ166_1232 ⟨hbJ166_1233.1, hbJ166_1233.2⟩)
                              · skip
                                refine PW.cI q_246_174 (by decide) fun c130 hc130 => ?_
                                refine PW.goto q_246_175 rfl ?_
                                exact PW.lvS (lk1 rfl (lk1 rfl (lk1 rfl (lk1 rfl (lk1 rfl (lk1 rfl lk0)))))) (J179_126 MJ166_123 c130 IMJ166_123 FMJ166_123 (by omega) (by omega) hbJ166_1232 ⟨hbJ166_1233.1, hbJ166_1233.2⟩)
                            refine PW.jc_eq q_246_158 rfl (fun h122 => ?_) (fun h122 => ?_)
                            · skip
                              refine PW.cI q_246_165 (by decide) fun c131 hc131 => ?_
                              exact PW.lvS (lk1 rfl (lk1 rfl (lk1 rfl (lk1 rfl (lk1 rfl (lk1 rfl lk0)))))) (J166_123 M120 c131 IM120 FM120 (by omega) (by omega) ((congrArg (fun e => o_f e 3) (Fr.at GM120 kd_294 (by decide))).trans ((congrArg (fun e => o_f e 3) (Fr.at GM101 kd_294 (by decide))).trans fx98)) ⟨((congrArg (fun e => o_i e 2) (Fr.at GM120 kd_294 rfl)).trans ((congrArg (fun e => o_i e 2) (Fr.at GM101 kd_294 rfl)).trans hbL246_88_866.1)), ((hbL246_88_866.2.tr TM101.2).cg (Fr.at GM120 kd_296 rfl) (Fr.at GM120 kd_294 rfl))⟩)
                            · skip
                              refine PW.cI q_246_161 (by decide) fun c132 hc132 => ?_
                              refine PW.goto q_246_162 rfl ?_
                              exact PW.lvS (lk1 rfl (lk1 rfl (lk1 rfl (lk1 rfl (lk1 rfl (lk1 rfl lk0)))))) (J166_123 M120 c132 IM120 FM120 (by omega) (by omega) ((congrArg (fun e => o_f e 3) (Fr.at GM120 kd_294 (by decide))).trans ((congrArg (fun e => o_f e 3) (Fr.at GM101 kd_294 (by decide))).trans fx98)) ⟨((congrArg (fun e => o_i e 2) (Fr.at GM120 kd_294 rfl)).trans ((congrArg (fun e => o_i e 2) (Fr.at GM101 kd_294 rfl)).trans hbL246_88_866.1)), ((hbL246_88_866.2.tr TM101.2).cg (Fr.at GM120 kd_296 rfl) (Fr.at GM120 kd_294 rfl))⟩)
                          · skip
                            refine PW.goto q_246_141 rfl ?_
                            exact PW.lvS (lk1 rfl (lk1 rfl (lk1 rfl (lk1 rfl (lk1 rfl (lk1 rfl lk0)))))) (J181_113 M101 v87 v88 IM101 FM101 (by omega) (by omega) (by omega) (by omega) ((congrArg (fun e => o_f e 3) (Fr.at GM101 kd_294 (by decide))).trans fx98) ⟨((congrArg (fun e => o_i e 2) (Fr.at GM101 kd_294 rfl)).trans hbL246_88_866.1), (hbL246_88_866.2.tr TM101.2)⟩)
                exact PW.lvS (lk1 rfl (lk1 rfl (lk1 rfl (lk1 rfl (lk1 rfl (lk1 rfl lk0)))))) (L246_88_86 _ M82 c83 c84 c85 IM82 FM82 (by omega) (by omega) (by omega) (by omega) (by omega) (by omega) ⟨((congrArg (fun e => o_i e 2) (Fr.at GM82 kd_294 rfl)).trans hbJ69_801.1), (hbJ69_801.2.cg (Fr.at GM82 kd_296 rfl) (Fr.at GM82 kd_294 rfl))⟩ rfl)
              · skip
                refine PW.cB q_246_73 (by decide) fun c133 hc133 => ?_
                refine PW.rI q_246_75 rfl (by decide) (by decide) ?_
                exact hK c133 MJ69_80 IMJ69_80 FMJ69_80 ⟨hbJ69_801.1, hbJ69_801.2⟩
            refine PW.jc_ge q_246_46 rfl (fun h79 => ?_) (fun h79 => ?_)
            · skip
              exact PW.lvS (lk1 rfl (lk1 rfl (lk1 rfl (lk1 rfl lk0)))) (J69_80 ML246_41_75  IML246_41_75 FML246_41_75 fx78 ⟨hbL246_41_754.1, hbL246_41_754.2⟩)
            · skip
              refine PW.iload_n q_246_49 rfl ?_
              refine PW.jz_eq q_246_50 rfl (fun h134 => ?_) (fun h134 => ?_)
              · skip
                exact PW.lvS (lk1 rfl (lk1 rfl (lk1 rfl (lk1 rfl lk0)))) (J69_80 ML246_41_75  IML246_41_75 FML246_41_75 fx78 ⟨hbL246_41_754.1, hbL246_41_754.2⟩)
              · skip
                refine PW.aload_n q_246_53 rfl ?_
                refine PW.aload_n q_246_54 rfl ?_
                refine PW.iload_n q_246_55 rfl ?_
                refine PW.cV (as := [_]) (rest := [_]) q_246_56 t_mv_246_346 kd_294 IML246_41_75.1 (by decide) rfl (by decide) rfl rfl (Nat.le_of_ble_eq_true rfl) (Nat.le_of_ble_eq_true rfl) (by decide) (by decide) ?_
                refine PW.up (by decide) (c_X12_octet (gTT) (Stab0) G _ ML246_41_75 IML246_41_75 v77 (by omega) (by omega) fun x136 M135 IM135 GM135 hx136 kx136 TM135 => ?_)
                have FM135 := Fr.trans FML246_41_75 GM135 (rfl)
                refine PW.cV (as := [_]) (rest := []) q_246_59 t_mv_246_241 kd_294 IM135.1 (by decide) rfl (by decide) rfl rfl (Nat.le_of_ble_eq_true rfl) (Nat.le_of_ble_eq_true rfl) (by decide) (by decide) ?_
                refine PW.iload_n q_195_0 rfl ?_
                refine PW.cI q_195_1 (by decide) fun c137 hc137 => ?_
                refine PW.aload_n q_195_2 rfl ?_
                refine PW.gR 296 q_195_3 (Or.inl t_ft_195_33) gF_40_6 kd_294 IM135.1 (by decide) rfl ?_
                refine PW.cI q_195_6 (by decide) fun c138 hc138 => ?_
                refine PW.aI q_195_7 gA_42 kd_296 IM135.1 (by decide) gB_42_0_0 (by decide) (by omega) (by omega) fun x139 fx139 hx139 kx139 => ?_
                refine PW.cI q_195_8 (by decide) fun c140 hc140 => ?_
                refine PW.subN q_195_9 (by omega) (by omega) fun x141 hx141 => ?_
                refine PW.callS (as := [_, _, _]) (rest := []) q_195_10 t_ms_195_176 (by decide) rfl (Nat.le_of_ble_eq_true rfl) (Nat.le_of_ble_eq_true rfl) (by decide) (by decide) ?_
                refine PW.iload_n q_166_0 rfl ?_
                refine PW.iload_n q_166_1 rfl ?_
                refine PW.jc_lt q_166_2 rfl (fun h142 => False.elim (by omega)) (fun h142 => ?_)
                refine PW.iload_n q_166_5 rfl ?_
                refine PW.iload_n q_166_6 rfl ?_
                refine PW.jc_gt q_166_7 rfl (fun h143 => ?_) (fun h143 => ?_)
                · skip
                  refine PW.cI q_166_14 (by decide) fun c144 hc144 => ?_
                  refine PW.rZ q_166_15 rfl (by omega) (by omega) (by decide) (by decide) ?_
                  refine PW.rZ q_195_13 rfl (by omega) (by omega) (by decide) (by decide) ?_
                  refine PW.istore_n q_246_62 (by decide) ?_
                  refine PW.incN q_246_63 rfl (by decide) (by decide) (by omega) (by omega) fun x145 hx145 => ?_
                  refine PW.goto q_246_66 rfl ?_
                  refine PW.lvS (lk1 rfl (lk1 rfl (lk1 rfl (lk1 rfl lk0)))) (ih_L246_41_75 _ ?_ M135 c144 x145 IM135 FM135 (by omega) (by omega) (by omega) (by omega) ⟨((congrArg (fun e => o_i e 2) (Fr.at GM135 kd_294 rfl)).trans hbL246_41_754.1), (hbL246_41_754.2.cg (Fr.at GM135 kd_296 rfl) (Fr.at GM135 kd_294 rfl))⟩ rfl)
                  omega
                · skip
                  refine PW.cI q_166_10 (by decide) fun c146 hc146 => ?_
                  refine PW.goto q_166_11 rfl ?_
                  refine PW.rZ q_166_15 rfl (by omega) (by omega) (by decide) (by decide) ?_
                  refine PW.rZ q_195_13 rfl (by omega) (by omega) (by decide) (by decide) ?_
                  refine PW.istore_n q_246_62 (by decide) ?_
                  refine PW.incN q_246_63 rfl (by decide) (by decide) (by omega) (by omega) fun x147 hx147 => ?_
                  refine PW.goto q_246_66 rfl ?_
                  refine PW.lvS (lk1 rfl (lk1 rfl (lk1 rfl (lk1 rfl lk0)))) (ih_L246_41_75 _ ?_ M135 c146 x147 IM135 FM135 (by omega) (by omega) (by omega) (by omega) ⟨((congrArg (fun e => o_i e 2) (Fr.at GM135 kd_294 rfl)).trans hbL246_41_754.1), (hbL246_41_754.2.cg (Fr.at GM135 kd_296 rfl) (Fr.at GM135 kd_294 rfl))⟩ rfl)
                  omega
          exact PW.lvS (lk1 rfl (lk1 rfl (lk1 rfl (lk1 rfl lk0)))) (L246_41_75 _ M4 c73 c74 IM4 FM4 (by omega) (by omega) (by omega) (by omega) ⟨TM4.1, ((gHq.refl.pu UM2 (by decide)).tr TM4.2)⟩ rfl)
theorem c_X12_recent (G : pG) (Kr : pK) (M : pM) (I : Iv gTT M) (a1 : Int32) (a2 : Int32) (a3 : Int32) (hl_a1 : 136 ≤ a1.toInt) (hh_a1 : a1.toInt ≤ 176) (hK : ∀ (x : Int32) (M1 : pM), Iv gTT M1 → Fr [] M M1 → ((gLq M1 M) ∧ gHq M1 M) → Kr.1 (some (.int x)) 311 M1) : PW G false 2 249 (p_mc 249) (p_msl 249) Kr 0 (lv_args 0 [.ref 294, .int a1, .int a2, .int a3]) [] 311 M 0 0 := by
  have F : Fr [] M M := Fr.refl
  refine PW.aload_n q_249_0 rfl ?_
  refine PW.iload_n q_249_1 rfl ?_
  refine PW.cV (as := [_]) (rest := []) q_249_2 t_mv_249_251 kd_294 I.1 (by decide) rfl (by decide) rfl rfl (Nat.le_of_ble_eq_true rfl) (Nat.le_of_ble_eq_true rfl) (by decide) (by decide) ?_
  refine PW.iload_n q_196_0 rfl ?_
  refine PW.cI q_196_1 (by decide) fun c1 hc1 => ?_
  refine PW.aload_n q_196_2 rfl ?_
  refine PW.gR 296 q_196_3 (Or.inl t_ft_196_33) gF_40_6 kd_294 I.1 (by decide) rfl ?_
  refine PW.cI q_196_6 (by decide) fun c2 hc2 => ?_
  refine PW.aI q_196_7 gA_42 kd_296 I.1 (by decide) gB_42_1_1 (by decide) (by omega) (by omega) fun x3 fx3 hx3 kx3 => ?_
  have elx3 : o_a (M 296) 1 = x3 := by have e : c2.toInt.toNat = 1 := (by omega); rw [e] at fx3; exact fx3
  refine PW.cI q_196_8 (by decide) fun c4 hc4 => ?_
  refine PW.subN q_196_9 (by omega) (by omega) fun x5 hx5 => ?_
  refine PW.callS (as := [_, _, _]) (rest := []) q_196_10 t_ms_196_176 (by decide) rfl (Nat.le_of_ble_eq_true rfl) (Nat.le_of_ble_eq_true rfl) (by decide) (by decide) ?_
  refine PW.iload_n q_166_0 rfl ?_
  refine PW.iload_n q_166_1 rfl ?_
  refine PW.jc_lt q_166_2 rfl (fun h6 => ?_) (fun h6 => ?_)
  · skip
    refine PW.cI q_166_14 (by decide) fun c7 hc7 => ?_
    refine PW.rZ q_166_15 rfl (by omega) (by omega) (by decide) (by decide) ?_
    refine PW.rZ q_196_13 rfl (by omega) (by omega) (by decide) (by decide) ?_
    refine PW.jz_eq q_249_5 rfl (fun h8 => ?_) (fun h8 => False.elim (by omega))
    refine PW.cI q_249_32 (by decide) fun c9 hc9 => ?_
    refine PW.rI q_249_33 rfl (by decide) (by decide) ?_
    exact hK c9 M I F ⟨rfl, gHq.refl⟩
  · skip
    refine PW.iload_n q_166_5 rfl ?_
    refine PW.iload_n q_166_6 rfl ?_
    refine PW.jc_gt q_166_7 rfl (fun h10 => ?_) (fun h10 => ?_)
    · skip
      refine PW.cI q_166_14 (by decide) fun c11 hc11 => ?_
      refine PW.rZ q_166_15 rfl (by omega) (by omega) (by decide) (by decide) ?_
      refine PW.rZ q_196_13 rfl (by omega) (by omega) (by decide) (by decide) ?_
      refine PW.jz_eq q_249_5 rfl (fun h12 => ?_) (fun h12 => False.elim (by omega))
      refine PW.cI q_249_32 (by decide) fun c13 hc13 => ?_
      refine PW.rI q_249_33 rfl (by decide) (by decide) ?_
      exact hK c13 M I F ⟨rfl, gHq.refl⟩
    · skip
      refine PW.cI q_166_10 (by decide) fun c14 hc14 => ?_
      refine PW.goto q_166_11 rfl ?_
      refine PW.rZ q_166_15 rfl (by omega) (by omega) (by decide) (by decide) ?_
      refine PW.rZ q_196_13 rfl (by omega) (by omega) (by decide) (by decide) ?_
      refine PW.jz_eq q_249_5 rfl (fun h15 => False.elim (by omega)) (fun h15 => ?_)
      rcases (show a2.toInt = 0 ∨ a2.toInt = 1 by omega) with h16 | h16
      · skip
        refine PW.iload_n q_249_8 rfl ?_
        refine PW.cI q_249_9 (by decide) fun c17 hc17 => ?_
        refine PW.cB q_249_10 (by decide) fun c18 hc18 => ?_
        refine PW.aload_n q_249_12 rfl ?_
        refine PW.gR 296 q_249_13 (Or.inl t_ft_249_33) gF_40_6 kd_294 I.1 (by decide) rfl ?_
        refine PW.cB q_249_16 (by decide) fun c19 hc19 => ?_
        refine PW.iload_n q_249_18 rfl ?_
        refine PW.addN q_249_19 (by have := n_lo a2; have := n_hi a2; omega) (by have := n_lo a2; have := n_hi a2; omega) fun x20 hx20 => ?_
        refine PW.aI q_249_20 gA_42 kd_296 I.1 (by decide) gB_42_80_80 (by decide) (by omega) (by omega) fun x21 fx21 hx21 kx21 => ?_
        have elx21 : o_a (M 296) 80 = x21 := by have e : x20.toInt.toNat = 80 := (by omega); rw [e] at fx21; exact fx21
        refine PW.callS (as := [_, _]) (rest := [_, _]) q_249_21 t_ms_249_271 (by decide) rfl (Nat.le_of_ble_eq_true rfl) (Nat.le_of_ble_eq_true rfl) (by decide) (by decide) ?_
        refine PW.iload_n q_168_0 rfl ?_
        refine PW.iload_n q_168_1 rfl ?_
        refine PW.jc_ge q_168_2 rfl (fun h22 => ?_) (fun h22 => ?_)
        · skip
          refine PW.iload_n q_168_9 rfl ?_
          refine PW.rI q_168_10 rfl (by decide) (by decide) ?_
          refine PW.cI q_249_24 (by decide) fun c23 hc23 => ?_
          refine PW.subN q_249_25 (by omega) (by omega) fun x24 hx24 => ?_
          refine PW.callS (as := [_, _, _]) (rest := []) q_249_26 t_ms_249_176 (by decide) rfl (Nat.le_of_ble_eq_true rfl) (Nat.le_of_ble_eq_true rfl) (by decide) (by decide) ?_
          refine PW.iload_n q_166_0 rfl ?_
          refine PW.iload_n q_166_1 rfl ?_
          refine PW.jc_lt q_166_2 rfl (fun h25 => ?_) (fun h25 => ?_)
          · skip
            refine PW.cI q_166_14 (by decide) fun c26 hc26 => ?_
            refine PW.rZ q_166_15 rfl (by omega) (by omega) (by decide) (by decide) ?_
            refine PW.jz_ne q_249_29 rfl (fun h27 => False.elim (by omega)) (fun h27 => ?_)
            refine PW.cI q_249_32 (by decide) fun c28 hc28 => ?_
            refine PW.rI q_249_33 rfl (by decide) (by decide) ?_
            exact hK c28 M I F ⟨rfl, gHq.refl⟩
          · skip
            refine PW.iload_n q_166_5 rfl ?_
            refine PW.iload_n q_166_6 rfl ?_
            refine PW.jc_gt q_166_7 rfl (fun h29 => ?_) (fun h29 => ?_)
            · skip
              refine PW.cI q_166_14 (by decide) fun c30 hc30 => ?_
              refine PW.rZ q_166_15 rfl (by omega) (by omega) (by decide) (by decide) ?_
              refine PW.jz_ne q_249_29 rfl (fun h31 => False.elim (by omega)) (fun h31 => ?_)
              refine PW.cI q_249_32 (by decide) fun c32 hc32 => ?_
              refine PW.rI q_249_33 rfl (by decide) (by decide) ?_
              exact hK c32 M I F ⟨rfl, gHq.refl⟩
            · skip
              refine PW.cI q_166_10 (by decide) fun c33 hc33 => ?_
              refine PW.goto q_166_11 rfl ?_
              refine PW.rZ q_166_15 rfl (by omega) (by omega) (by decide) (by decide) ?_
              refine PW.jz_ne q_249_29 rfl (fun h34 => ?_) (fun h34 => False.elim (by omega))
              refine PW.aload_n q_249_34 rfl ?_
              refine PW.gR 296 q_249_35 (Or.inl t_ft_249_33) gF_40_6 kd_294 I.1 (by decide) rfl ?_
              refine PW.iload_n q_249_38 rfl ?_
              refine PW.cB q_249_39 (by decide) fun c35 hc35 => ?_
              refine PW.iload_n q_249_41 rfl ?_
              refine PW.mulN q_249_42 (20) (by omega) a2 (fun h => n_eq.mpr (by omega)) (fun h => n_eq.mpr (by omega)) (by omega) (by omega) fun x36 hx36 => ?_
              refine PW.addN q_249_43 (by omega) (by omega) fun x37 hx37 => ?_
              refine PW.aload_n q_249_44 rfl ?_
              refine PW.gR 296 q_249_45 (Or.inl t_ft_249_33) gF_40_6 kd_294 I.1 (by decide) rfl ?_
              refine PW.cB q_249_48 (by decide) fun c38 hc38 => ?_
              refine PW.iload_n q_249_50 rfl ?_
              refine PW.addN q_249_51 (by have := n_lo a2; have := n_hi a2; omega) (by have := n_lo a2; have := n_hi a2; omega) fun x39 hx39 => ?_
              refine PW.aI q_249_52 gA_42 kd_296 I.1 (by decide) gB_42_80_80 (by decide) (by omega) (by omega) fun x40 fx40 hx40 kx40 => ?_
              have elx40 : o_a (M 296) 80 = x40 := by have e : x39.toInt.toNat = 80 := (by omega); rw [e] at fx40; exact fx40
              have ezx40 : x40.toInt = x21.toInt := by rw [← elx40, elx21]
              refine PW.cI q_249_53 (by decide) fun c41 hc41 => ?_
              refine PW.subN q_249_54 (by omega) (by omega) fun x42 hx42 => ?_
              refine PW.iload_n q_249_55 rfl ?_
              refine PW.subN q_249_56 (by have := n_lo a3; have := n_hi a3; omega) (by have := n_lo a3; have := n_hi a3; omega) fun x43 hx43 => ?_
              refine PW.cB q_249_57 (by decide) fun c44 hc44 => ?_
              refine PW.remP q_249_59 (by omega) (by omega) fun x45 hx45 kx45 ex45 => ?_
              clear ex45
              refine PW.addN q_249_60 (by omega) (by omega) fun x46 hx46 => ?_
              refine PW.aH q_249_61 gA_42 kd_296 I.1 (by decide) (by omega) (by omega) fun x47 fx47 => ?_
              refine PW.rI q_249_62 rfl (by decide) (by decide) ?_
              exact hK x47 M I F ⟨rfl, gHq.refl⟩
        · skip
          refine PW.iload_n q_168_5 rfl ?_
          refine PW.goto q_168_6 rfl ?_
          refine PW.rI q_168_10 rfl (by decide) (by decide) ?_
          refine PW.cI q_249_24 (by decide) fun c48 hc48 => ?_
          refine PW.subN q_249_25 (by omega) (by omega) fun x49 hx49 => ?_
          refine PW.callS (as := [_, _, _]) (rest := []) q_249_26 t_ms_249_176 (by decide) rfl (Nat.le_of_ble_eq_true rfl) (Nat.le_of_ble_eq_true rfl) (by decide) (by decide) ?_
          refine PW.iload_n q_166_0 rfl ?_
          refine PW.iload_n q_166_1 rfl ?_
          refine PW.jc_lt q_166_2 rfl (fun h50 => ?_) (fun h50 => ?_)
          · skip
            refine PW.cI q_166_14 (by decide) fun c51 hc51 => ?_
            refine PW.rZ q_166_15 rfl (by omega) (by omega) (by decide) (by decide) ?_
            refine PW.jz_ne q_249_29 rfl (fun h52 => False.elim (by omega)) (fun h52 => ?_)
            refine PW.cI q_249_32 (by decide) fun c53 hc53 => ?_
            refine PW.rI q_249_33 rfl (by decide) (by decide) ?_
            exact hK c53 M I F ⟨rfl, gHq.refl⟩
          · skip
            refine PW.iload_n q_166_5 rfl ?_
            refine PW.iload_n q_166_6 rfl ?_
            refine PW.jc_gt q_166_7 rfl (fun h54 => ?_) (fun h54 => ?_)
            · skip
              refine PW.cI q_166_14 (by decide) fun c55 hc55 => ?_
              refine PW.rZ q_166_15 rfl (by omega) (by omega) (by decide) (by decide) ?_
              refine PW.jz_ne q_249_29 rfl (fun h56 => False.elim (by omega)) (fun h56 => ?_)
              refine PW.cI q_249_32 (by decide) fun c57 hc57 => ?_
              refine PW.rI q_249_33 rfl (by decide) (by decide) ?_
              exact hK c57 M I F ⟨rfl, gHq.refl⟩
            · skip
              refine PW.cI q_166_10 (by decide) fun c58 hc58 => ?_
              refine PW.goto q_166_11 rfl ?_
              refine PW.rZ q_166_15 rfl (by omega) (by omega) (by decide) (by decide) ?_
              refine PW.jz_ne q_249_29 rfl (fun h59 => ?_) (fun h59 => False.elim (by omega))
              refine PW.aload_n q_249_34 rfl ?_
              refine PW.gR 296 q_249_35 (Or.inl t_ft_249_33) gF_40_6 kd_294 I.1 (by decide) rfl ?_
              refine PW.iload_n q_249_38 rfl ?_
              refine PW.cB q_249_39 (by decide) fun c60 hc60 => ?_
              refine PW.iload_n q_249_41 rfl ?_
              refine PW.mulN q_249_42 (20) (by omega) a2 (fun h => n_eq.mpr (by omega)) (fun h => n_eq.mpr (by omega)) (by omega) (by omega) fun x61 hx61 => ?_
              refine PW.addN q_249_43 (by omega) (by omega) fun x62 hx62 => ?_
              refine PW.aload_n q_249_44 rfl ?_
              refine PW.gR 296 q_249_45 (Or.inl t_ft_249_33) gF_40_6 kd_294 I.1 (by decide) rfl ?_
              refine PW.cB q_249_48 (by decide) fun c63 hc63 => ?_
              refine PW.iload_n q_249_50 rfl ?_
              refine PW.addN q_249_51 (by have := n_lo a2; have := n_hi a2; omega) (by have := n_lo a2; have := n_hi a2; omega) fun x64 hx64 => ?_
              refine PW.aI q_249_52 gA_42 kd_296 I.1 (by decide) gB_42_80_80 (by decide) (by omega) (by omega) fun x65 fx65 hx65 kx65 => ?_
              have elx65 : o_a (M 296) 80 = x65 := by have e : x64.toInt.toNat = 80 := (by omega); rw [e] at fx65; exact fx65
              have ezx65 : x65.toInt = x21.toInt := by rw [← elx65, elx21]
              refine PW.cI q_249_53 (by decide) fun c66 hc66 => ?_
              refine PW.subN q_249_54 (by omega) (by omega) fun x67 hx67 => ?_
              refine PW.iload_n q_249_55 rfl ?_
              refine PW.subN q_249_56 (by have := n_lo a3; have := n_hi a3; omega) (by have := n_lo a3; have := n_hi a3; omega) fun x68 hx68 => ?_
              refine PW.cB q_249_57 (by decide) fun c69 hc69 => ?_
              refine PW.remP q_249_59 (by omega) (by omega) fun x70 hx70 kx70 ex70 => ?_
              clear ex70
              refine PW.addN q_249_60 (by omega) (by omega) fun x71 hx71 => ?_
              refine PW.aH q_249_61 gA_42 kd_296 I.1 (by decide) (by omega) (by omega) fun x72 fx72 => ?_
              refine PW.rI q_249_62 rfl (by decide) (by decide) ?_
              exact hK x72 M I F ⟨rfl, gHq.refl⟩
      · skip
        refine PW.iload_n q_249_8 rfl ?_
        refine PW.cI q_249_9 (by decide) fun c73 hc73 => ?_
        refine PW.cB q_249_10 (by decide) fun c74 hc74 => ?_
        refine PW.aload_n q_249_12 rfl ?_
        refine PW.gR 296 q_249_13 (Or.inl t_ft_249_33) gF_40_6 kd_294 I.1 (by decide) rfl ?_
        refine PW.cB q_249_16 (by decide) fun c75 hc75 => ?_
        refine PW.iload_n q_249_18 rfl ?_
        refine PW.addN q_249_19 (by have := n_lo a2; have := n_hi a2; omega) (by have := n_lo a2; have := n_hi a2; omega) fun x76 hx76 => ?_
        refine PW.aI q_249_20 gA_42 kd_296 I.1 (by decide) gB_42_81_81 (by decide) (by omega) (by omega) fun x77 fx77 hx77 kx77 => ?_
        have elx77 : o_a (M 296) 81 = x77 := by have e : x76.toInt.toNat = 81 := (by omega); rw [e] at fx77; exact fx77
        refine PW.callS (as := [_, _]) (rest := [_, _]) q_249_21 t_ms_249_271 (by decide) rfl (Nat.le_of_ble_eq_true rfl) (Nat.le_of_ble_eq_true rfl) (by decide) (by decide) ?_
        refine PW.iload_n q_168_0 rfl ?_
        refine PW.iload_n q_168_1 rfl ?_
        refine PW.jc_ge q_168_2 rfl (fun h78 => ?_) (fun h78 => ?_)
        · skip
          refine PW.iload_n q_168_9 rfl ?_
          refine PW.rI q_168_10 rfl (by decide) (by decide) ?_
          refine PW.cI q_249_24 (by decide) fun c79 hc79 => ?_
          refine PW.subN q_249_25 (by omega) (by omega) fun x80 hx80 => ?_
          refine PW.callS (as := [_, _, _]) (rest := []) q_249_26 t_ms_249_176 (by decide) rfl (Nat.le_of_ble_eq_true rfl) (Nat.le_of_ble_eq_true rfl) (by decide) (by decide) ?_
          refine PW.iload_n q_166_0 rfl ?_
          refine PW.iload_n q_166_1 rfl ?_
          refine PW.jc_lt q_166_2 rfl (fun h81 => ?_) (fun h81 => ?_)
          · skip
            refine PW.cI q_166_14 (by decide) fun c82 hc82 => ?_
            refine PW.rZ q_166_15 rfl (by omega) (by omega) (by decide) (by decide) ?_
            refine PW.jz_ne q_249_29 rfl (fun h83 => False.elim (by omega)) (fun h83 => ?_)
            refine PW.cI q_249_32 (by decide) fun c84 hc84 => ?_
            refine PW.rI q_249_33 rfl (by decide) (by decide) ?_
            exact hK c84 M I F ⟨rfl, gHq.refl⟩
          · skip
            refine PW.iload_n q_166_5 rfl ?_
            refine PW.iload_n q_166_6 rfl ?_
            refine PW.jc_gt q_166_7 rfl (fun h85 => ?_) (fun h85 => ?_)
            · skip
              refine PW.cI q_166_14 (by decide) fun c86 hc86 => ?_
              refine PW.rZ q_166_15 rfl (by omega) (by omega) (by decide) (by decide) ?_
              refine PW.jz_ne q_249_29 rfl (fun h87 => False.elim (by omega)) (fun h87 => ?_)
              refine PW.cI q_249_32 (by decide) fun c88 hc88 => ?_
              refine PW.rI q_249_33 rfl (by decide) (by decide) ?_
              exact hK c88 M I F ⟨rfl, gHq.refl⟩
            · skip
              refine PW.cI q_166_10 (by decide) fun c89 hc89 => ?_
              refine PW.goto q_166_11 rfl ?_
              refine PW.rZ q_166_15 rfl (by omega) (by omega) (by decide) (by decide) ?_
              refine PW.jz_ne q_249_29 rfl (fun h90 => ?_) (fun h90 => False.elim (by omega))
              refine PW.aload_n q_249_34 rfl ?_
              refine PW.gR 296 q_249_35 (Or.inl t_ft_249_33) gF_40_6 kd_294 I.1 (by decide) rfl ?_
              refine PW.iload_n q_249_38 rfl ?_
              refine PW.cB q_249_39 (by decide) fun c91 hc91 => ?_
              refine PW.iload_n q_249_41 rfl ?_
              refine PW.mulN q_249_42 (20) (by omega) a2 (fun h => n_eq.mpr (by omega)) (fun h => n_eq.mpr (by omega)) (by omega) (by omega) fun x92 hx92 => ?_
              refine PW.addN q_249_43 (by omega) (by omega) fun x93 hx93 => ?_
              refine PW.aload_n q_249_44 rfl ?_
              refine PW.gR 296 q_249_45 (Or.inl t_ft_249_33) gF_40_6 kd_294 I.1 (by decide) rfl ?_
              refine PW.cB q_249_48 (by decide) fun c94 hc94 => ?_
              refine PW.iload_n q_249_50 rfl ?_
              refine PW.addN q_249_51 (by have := n_lo a2; have := n_hi a2; omega) (by have := n_lo a2; have := n_hi a2; omega) fun x95 hx95 => ?_
              refine PW.aI q_249_52 gA_42 kd_296 I.1 (by decide) gB_42_81_81 (by decide) (by omega) (by omega) fun x96 fx96 hx96 kx96 => ?_
              have elx96 : o_a (M 296) 81 = x96 := by have e : x95.toInt.toNat = 81 := (by omega); rw [e] at fx96; exact fx96
              have ezx96 : x96.toInt = x77.toInt := by rw [← elx96, elx77]
              refine PW.cI q_249_53 (by decide) fun c97 hc97 => ?_
              refine PW.subN q_249_54 (by omega) (by omega) fun x98 hx98 => ?_
              refine PW.iload_n q_249_55 rfl ?_
              refine PW.subN q_249_56 (by have := n_lo a3; have := n_hi a3; omega) (by have := n_lo a3; have := n_hi a3; omega) fun x99 hx99 => ?_
              refine PW.cB q_249_57 (by decide) fun c100 hc100 => ?_
              refine PW.remP q_249_59 (by omega) (by omega) fun x101 hx101 kx101 ex101 => ?_
              clear ex101
              refine PW.addN q_249_60 (by omega) (by omega) fun x102 hx102 => ?_
              refine PW.aH q_249_61 gA_42 kd_296 I.1 (by decide) (by omega) (by omega) fun x103 fx103 => ?_
              refine PW.rI q_249_62 rfl (by decide) (by decide) ?_
              exact hK x103 M I F ⟨rfl, gHq.refl⟩
        · skip
          refine PW.iload_n q_168_5 rfl ?_
          refine PW.goto q_168_6 rfl ?_
          refine PW.rI q_168_10 rfl (by decide) (by decide) ?_
          refine PW.cI q_249_24 (by decide) fun c104 hc104 => ?_
          refine PW.subN q_249_25 (by omega) (by omega) fun x105 hx105 => ?_
          refine PW.callS (as := [_, _, _]) (rest := []) q_249_26 t_ms_249_176 (by decide) rfl (Nat.le_of_ble_eq_true rfl) (Nat.le_of_ble_eq_true rfl) (by decide) (by decide) ?_
          refine PW.iload_n q_166_0 rfl ?_
          refine PW.iload_n q_166_1 rfl ?_
          refine PW.jc_lt q_166_2 rfl (fun h106 => ?_) (fun h106 => ?_)
          · skip
            refine PW.cI q_166_14 (by decide) fun c107 hc107 => ?_
            refine PW.rZ q_166_15 rfl (by omega) (by omega) (by decide) (by decide) ?_
            refine PW.jz_ne q_249_29 rfl (fun h108 => False.elim (by omega)) (fun h108 => ?_)
            refine PW.cI q_249_32 (by decide) fun c109 hc109 => ?_
            refine PW.rI q_249_33 rfl (by decide) (by decide) ?_
            exact hK c109 M I F ⟨rfl, gHq.refl⟩
          · skip
            refine PW.iload_n q_166_5 rfl ?_
            refine PW.iload_n q_166_6 rfl ?_
            refine PW.jc_gt q_166_7 rfl (fun h110 => ?_) (fun h110 => ?_)
            · skip
              refine PW.cI q_166_14 (by decide) fun c111 hc111 => ?_
              refine PW.rZ q_166_15 rfl (by omega) (by omega) (by decide) (by decide) ?_
              refine PW.jz_ne q_249_29 rfl (fun h112 => False.elim (by omega)) (fun h112 => ?_)
              refine PW.cI q_249_32 (by decide) fun c113 hc113 => ?_
              refine PW.rI q_249_33 rfl (by decide) (by decide) ?_
              exact hK c113 M I F ⟨rfl, gHq.refl⟩
            · skip
              refine PW.cI q_166_10 (by decide) fun c114 hc114 => ?_
              refine PW.goto q_166_11 rfl ?_
              refine PW.rZ q_166_15 rfl (by omega) (by omega) (by decide) (by decide) ?_
              refine PW.jz_ne q_249_29 rfl (fun h115 => ?_) (fun h115 => False.elim (by omega))
              refine PW.aload_n q_249_34 rfl ?_
              refine PW.gR 296 q_249_35 (Or.inl t_ft_249_33) gF_40_6 kd_294 I.1 (by decide) rfl ?_
              refine PW.iload_n q_249_38 rfl ?_
              refine PW.cB q_249_39 (by decide) fun c116 hc116 => ?_
              refine PW.iload_n q_249_41 rfl ?_
              refine PW.mulN q_249_42 (20) (by omega) a2 (fun h => n_eq.mpr (by omega)) (fun h => n_eq.mpr (by omega)) (by omega) (by omega) fun x117 hx117 => ?_
              refine PW.addN q_249_43 (by omega) (by omega) fun x118 hx118 => ?_
              refine PW.aload_n q_249_44 rfl ?_
              refine PW.gR 296 q_249_45 (Or.inl t_ft_249_33) gF_40_6 kd_294 I.1 (by decide) rfl ?_
              refine PW.cB q_249_48 (by decide) fun c119 hc119 => ?_
              refine PW.iload_n q_249_50 rfl ?_
              refine PW.addN q_249_51 (by have := n_lo a2; have := n_hi a2; omega) (by have := n_lo a2; have := n_hi a2; omega) fun x120 hx120 => ?_
              refine PW.aI q_249_52 gA_42 kd_296 I.1 (by decide) gB_42_81_81 (by decide) (by omega) (by omega) fun x121 fx121 hx121 kx121 => ?_
              have elx121 : o_a (M 296) 81 = x121 := by have e : x120.toInt.toNat = 81 := (by omega); rw [e] at fx121; exact fx121
              have ezx121 : x121.toInt = x77.toInt := by rw [← elx121, elx77]
              refine PW.cI q_249_53 (by decide) fun c122 hc122 => ?_
              refine PW.subN q_249_54 (by omega) (by omega) fun x123 hx123 => ?_
              refine PW.iload_n q_249_55 rfl ?_
              refine PW.subN q_249_56 (by have := n_lo a3; have := n_hi a3; omega) (by have := n_lo a3; have := n_hi a3; omega) fun x124 hx124 => ?_
              refine PW.cB q_249_57 (by decide) fun c125 hc125 => ?_
              refine PW.remP q_249_59 (by omega) (by omega) fun x126 hx126 kx126 ex126 => ?_
              clear ex126
              refine PW.addN q_249_60 (by omega) (by omega) fun x127 hx127 => ?_
              refine PW.aH q_249_61 gA_42 kd_296 I.1 (by decide) (by omega) (by omega) fun x128 fx128 => ?_
              refine PW.rI q_249_62 rfl (by decide) (by decide) ?_
              exact hK x128 M I F ⟨rfl, gHq.refl⟩
theorem c_X12_turned (G : pG) (Kr : pK) (M : pM) (I : Iv gTT M) (a1 : Int32) (a2 : Int32) (hK : ∀ (x : Int32) (M1 : pM), Iv gTT M1 → Fr [40] M M1 → ((gLq M1 M) ∧ gHq M1 M) → Kr.1 (some (.int x)) 311 M1) : PW G false 3 250 (p_mc 250) (p_msl 250) Kr 0 (lv_args 0 [.ref 294, .int a1, .int a2]) [] 311 M 0 0 := by
  have F : Fr [40] M M := Fr.refl
  refine PW.aload_n q_250_0 rfl ?_
  refine PW.cI q_250_1 (by decide) fun c1 hc1 => ?_
  refine PW.pI q_250_2 (Or.inl t_ft_250_1) gF_40_0 gP_40_0 kd_294 Stab0 I (by decide) rfl (n_lo _) (n_hi _) fun M2 IM2 fM2 UM2 => ?_
  have FM2 := Fr.pu F UM2.1 kd_294 (rfl : List.contains [40] 40 = true)
  refine PW.aload_n q_250_5 rfl ?_
  refine PW.cS q_250_6 (by decide) fun c3 hc3 => ?_
  refine PW.iload_n q_250_9 rfl ?_
  refine PW.iload_n q_250_10 rfl ?_
  refine PW.cV (as := [_, _, _]) (rest := []) q_250_11 t_mv_250_352 kd_294 IM2.1 (by decide) rfl (by decide) rfl rfl (Nat.le_of_ble_eq_true rfl) (Nat.le_of_ble_eq_true rfl) (by decide) (by decide) ?_
  refine PW.up (by decide) (c_X12_recent G _ M2 IM2 c3 a1 a2 (by omega) (by omega) fun x5 M4 IM4 GM4 TM4 => ?_)
  have FM4 := Fr.trans FM2 GM4 (rfl)
  refine PW.rI q_250_14 rfl (by decide) (by decide) ?_
  exact hK x5 M4 IM4 FM4 ⟨((congrArg (fun e => o_i e 2) (Fr.at GM4 kd_294 rfl)).trans (UM2.i (c := 294) (k := 2) (Or.inr (by decide)))), ((gHq.refl.pu UM2 (by decide)).cg (Fr.at GM4 kd_296 rfl) (Fr.at GM4 kd_294 rfl))⟩
theorem c_X12_turnedAt (G : pG) (Kr : pK) (M : pM) (I : Iv gTT M) (a1 : Int32) (a2 : Int32) (hK : ∀ (x : Int32) (M1 : pM), Iv gTT M1 → Fr [40] M M1 → ((gLq M1 M) ∧ gHq M1 M) → Kr.1 (some (.int x)) 311 M1) : PW G false 3 251 (p_mc 251) (p_msl 251) Kr 0 (lv_args 0 [.ref 294, .int a1, .int a2]) [] 311 M 0 0 := by
  have F : Fr [40] M M := Fr.refl
  refine PW.aload_n q_251_0 rfl ?_
  refine PW.cI q_251_1 (by decide) fun c1 hc1 => ?_
  refine PW.pI q_251_2 (Or.inl t_ft_251_1) gF_40_0 gP_40_0 kd_294 Stab0 I (by decide) rfl (n_lo _) (n_hi _) fun M2 IM2 fM2 UM2 => ?_
  have FM2 := Fr.pu F UM2.1 kd_294 (rfl : List.contains [40] 40 = true)
  refine PW.aload_n q_251_5 rfl ?_
  refine PW.cS q_251_6 (by decide) fun c3 hc3 => ?_
  refine PW.iload_n q_251_9 rfl ?_
  refine PW.iload_n q_251_10 rfl ?_
  refine PW.cV (as := [_, _, _]) (rest := []) q_251_11 t_mv_251_352 kd_294 IM2.1 (by decide) rfl (by decide) rfl rfl (Nat.le_of_ble_eq_true rfl) (Nat.le_of_ble_eq_true rfl) (by decide) (by decide) ?_
  refine PW.up (by decide) (c_X12_recent G _ M2 IM2 c3 a1 a2 (by omega) (by omega) fun x5 M4 IM4 GM4 TM4 => ?_)
  have FM4 := Fr.trans FM2 GM4 (rfl)
  refine PW.rI q_251_14 rfl (by decide) (by decide) ?_
  exact hK x5 M4 IM4 FM4 ⟨((congrArg (fun e => o_i e 2) (Fr.at GM4 kd_294 rfl)).trans (UM2.i (c := 294) (k := 2) (Or.inr (by decide)))), ((gHq.refl.pu UM2 (by decide)).cg (Fr.at GM4 kd_296 rfl) (Fr.at GM4 kd_294 rfl))⟩
theorem c_X12_draw (V : pM → Prop) (hV : Stab V) (G : pG) (Kr : pK) (M : pM) (I : Iv V M) (a1 : Int32) (hl_a1 : 12 ≤ a1.toInt) (hh_a1 : a1.toInt ≤ 12) (hK : ∀ (x : Int32) (M1 : pM), Iv V M1 → Fr [40] M M1 → ((gLq M1 M) ∧ gHq M1 M) → Kr.1 (some (.int x)) 311 M1) : PW G false 0 252 (p_mc 252) (p_msl 252) Kr 0 (lv_args 0 [.ref 294, .int a1]) [] 311 M 0 0 := by
  have F : Fr [40] M M := Fr.refl
  refine PW.aload_n q_252_0 rfl ?_
  refine PW.aload_n q_252_1 rfl ?_
  refine PW.gI q_252_2 (Or.inl t_ft_252_356) gF_40_28 kd_294 I.1 (by decide) fun x1 fx1 hx1 kx1 => ?_
  clear hx1 kx1
  refine PW.ldcw q_252_5 t_it_252_359 ?_
  refine PW.nmI ?_; intro c2 ec2
  have hc2 : c2.toInt = 1103515245 := by rw [ec2]; decide
  refine PW.mulH q_252_8 fun x3 => ?_
  refine PW.cS q_252_9 (by decide) fun c4 hc4 => ?_
  refine PW.addH q_252_12 fun x5 => ?_
  refine PW.pI q_252_13 (Or.inl t_ft_252_356) gF_40_28 gP_40_28 kd_294 hV I (by decide) rfl (n_lo _) (n_hi _) fun M6 IM6 fM6 UM6 => ?_
  have FM6 := Fr.pu F UM6.1 kd_294 (rfl : List.contains [40] 40 = true)
  refine PW.aload_n q_252_16 rfl ?_
  refine PW.gE q_252_17 (Or.inl t_ft_252_356) gF_40_28 kd_294 IM6.1 (by decide) fM6 ?_
  refine PW.cB q_252_20 (by decide) fun c7 hc7 => ?_
  refine PW.ushrH q_252_22 fun x8 => ?_
  refine PW.iload_n q_252_23 rfl ?_
  refine PW.remH q_252_24 (by omega) fun x9 => ?_
  refine PW.rI q_252_25 rfl (by decide) (by decide) ?_
  exact hK x9 M6 IM6 FM6 ⟨(UM6.i (c := 294) (k := 2) (Or.inr (by decide))), (gHq.refl.pu UM6 (by decide))⟩
theorem c_X12_drawsWalker (V : pM → Prop) (hV : Stab V) (G : pG) (Kr : pK) (M : pM) (I : Iv V M) (a1 : Int32) (hl_a1 : 0 ≤ a1.toInt) (hh_a1 : a1.toInt ≤ 5) (hK : ∀ (M1 : pM), Iv V M1 → Fr [40, 42] M M1 → ((o_a (M1 296) 33).toInt = (o_a (M 296) 33).toInt) → ((gLq M1 M) ∧ gHq M1 M) → Kr.1 none 311 M1) : PW G false 1 253 (p_mc 253) (p_msl 253) Kr 0 (lv_args 0 [.ref 294, .int a1]) [] 311 M 0 0 := by
  have F : Fr [40, 42] M M := Fr.refl
  refine PW.aload_n q_253_0 rfl ?_
  refine PW.cB q_253_1 (by decide) fun c1 hc1 => ?_
  refine PW.cV (as := [_]) (rest := []) q_253_3 t_mv_253_360 kd_294 I.1 (by decide) rfl (by decide) rfl rfl (Nat.le_of_ble_eq_true rfl) (Nat.le_of_ble_eq_true rfl) (by decide) (by decide) ?_
  refine PW.up (by decide) (c_X12_draw (V) (hV) G _ M I c1 (by omega) (by omega) fun x3 M2 IM2 GM2 TM2 => ?_)
  have FM2 := Fr.trans F GM2 (rfl)
  have ty4 : (o_a (M2 296) 33).toInt = (o_a (M 296) 33).toInt := by rw [Fr.at GM2 kd_296 (by decide)]
  have h5 : x3.toInt = 0 ∨ x3.toInt = 1 ∨ x3.toInt = 2 ∨ x3.toInt = 3 ∨ (x3.toInt < 0 ∨ 3 < x3.toInt) := by omega
  rcases h5 with h5 | h5 | h5 | h5 | h5
  · skip
    refine PW.sw1 (0) h5 q_253_6 (by decide) (by decide) rfl rfl ?_
    refine PW.aload_n q_253_36 rfl ?_
    refine PW.iload_n q_253_37 rfl ?_
    refine PW.cV (as := [_]) (rest := []) q_253_38 t_mv_253_293 kd_294 IM2.1 (by decide) rfl (by decide) rfl rfl (Nat.le_of_ble_eq_true rfl) (Nat.le_of_ble_eq_true rfl) (by decide) (by decide) ?_
    refine PW.up (by decide) (c_X12_toggles (V) (hV) G _ M2 IM2 a1 (by omega) (by omega) fun M6 IM6 GM6 PM6 TM6 => ?_)
    have FM6 := Fr.trans FM2 GM6 (rfl)
    refine PW.goto q_253_41 rfl ?_
    refine PW.vret q_253_78 rfl (by decide) (by decide) ?_
    exact hK M6 IM6 FM6 (by omega) ⟨((congrArg (fun e => o_i e 2) (Fr.at GM6 kd_294 rfl)).trans TM2.1), ((gHq.refl.tr TM2.2).tr TM6.2)⟩
  · skip
    refine PW.sw1 (1) h5 q_253_6 (by decide) (by decide) rfl rfl ?_
    refine PW.aload_n q_253_44 rfl ?_
    refine PW.iload_n q_253_45 rfl ?_
    refine PW.cV (as := [_]) (rest := []) q_253_46 t_mv_253_296 kd_294 IM2.1 (by decide) rfl (by decide) rfl rfl (Nat.le_of_ble_eq_true rfl) (Nat.le_of_ble_eq_true rfl) (by decide) (by decide) ?_
    refine PW.up (by decide) (c_X12_turnsRound (V) (hV) G _ M2 IM2 a1 (by omega) (by omega) fun M7 IM7 GM7 PM7 TM7 => ?_)
    have FM7 := Fr.trans FM2 GM7 (rfl)
    refine PW.goto q_253_49 rfl ?_
    refine PW.vret q_253_78 rfl (by decide) (by decide) ?_
    exact hK M7 IM7 FM7 (by omega) ⟨((congrArg (fun e => o_i e 2) (Fr.at GM7 kd_294 rfl)).trans TM2.1), ((gHq.refl.tr TM2.2).tr TM7.2)⟩
  · skip
    refine PW.sw1 (2) h5 q_253_6 (by decide) (by decide) rfl rfl ?_
    refine PW.aload_n q_253_52 rfl ?_
    refine PW.gR 296 q_253_53 (Or.inl t_ft_253_33) gF_40_6 kd_294 IM2.1 (by decide) rfl ?_
    refine PW.cB q_253_56 (by decide) fun c8 hc8 => ?_
    refine PW.iload_n q_253_58 rfl ?_
    refine PW.cI q_253_59 (by decide) fun c9 hc9 => ?_
    refine PW.addN q_253_60 (by omega) (by omega) fun x10 hx10 => ?_
    refine PW.wS q_253_61 hV IM2 gC_42_35_35 gN_35_35 (by decide) (by omega) (by omega) (by omega) (by omega) fun M11 IM11 fM11 UM11 => ?_
    have FM11 := Fr.pu FM2 UM11.1 kd_296 (rfl : List.contains [40, 42] 42 = true)
    have ty12 : (o_a (M11 296) 33).toInt = (o_a (M2 296) 33).toInt := by rw [UM11.2 33 (by omega)]
    refine PW.goto q_253_62 rfl ?_
    refine PW.vret q_253_78 rfl (by decide) (by decide) ?_
    exact hK M11 IM11 FM11 (by omega) ⟨((congrArg (fun e => o_i e 2) (UM11.1 294 (by decide))).trans TM2.1), ((gHq.refl.tr TM2.2).st UM11 (by omega))⟩
  · skip
    refine PW.sw1 (3) h5 q_253_6 (by decide) (by decide) rfl rfl ?_
    refine PW.aload_n q_253_65 rfl ?_
    refine PW.gR 296 q_253_66 (Or.inl t_ft_253_33) gF_40_6 kd_294 IM2.1 (by decide) rfl ?_
    refine PW.cB q_253_69 (by decide) fun c13 hc13 => ?_
    refine PW.iload_n q_253_71 rfl ?_
    refine PW.cI q_253_72 (by decide) fun c14 hc14 => ?_
    refine PW.addN q_253_73 (by omega) (by omega) fun x15 hx15 => ?_
    refine PW.wS q_253_74 hV IM2 gC_42_34_34 gN_34_34 (by decide) (by omega) (by omega) (by omega) (by omega) fun M16 IM16 fM16 UM16 => ?_
    have FM16 := Fr.pu FM2 UM16.1 kd_296 (rfl : List.contains [40, 42] 42 = true)
    have ty17 : (o_a (M16 296) 33).toInt = (o_a (M2 296) 33).toInt := by rw [UM16.2 33 (by omega)]
    refine PW.goto q_253_75 rfl ?_
    refine PW.vret q_253_78 rfl (by decide) (by decide) ?_
    exact hK M16 IM16 FM16 (by omega) ⟨((congrArg (fun e => o_i e 2) (UM16.1 294 (by decide))).trans TM2.1), ((gHq.refl.tr TM2.2).st UM16 (by omega))⟩
  · skip
    refine PW.tswO q_253_6 h5 rfl ?_
    refine PW.vret q_253_78 rfl (by decide) (by decide) ?_
    exact hK M2 IM2 FM2 (by omega) ⟨TM2.1, (gHq.refl.tr TM2.2)⟩
theorem c_X12_draws (G : pG) (Kr : pK) (M : pM) (I : Iv gTT M) (a1 : Int32) (a2 : Int32) (hK : ∀ (x : Int32) (M1 : pM), Iv gTT M1 → Fr [40, 42] M M1 → ((gLq M1 M) ∧ gHq M1 M) → Kr.1 (some (.int x)) 311 M1) : PW G false 5 254 (p_mc 254) (p_msl 254) Kr 0 (lv_args 0 [.ref 294, .int a1, .int a2]) [] 311 M 0 0 := by
  have F : Fr [40, 42] M M := Fr.refl
  have hn1 := n_hi a1
  refine PW.aload_n q_254_0 rfl ?_
  refine PW.iload_n q_254_1 rfl ?_
  refine PW.pI q_254_2 (Or.inl t_ft_254_356) gF_40_28 gP_40_28 kd_294 Stab0 I (by decide) rfl (n_lo _) (n_hi _) fun M1 IM1 fM1 UM1 => ?_
  have FM1 := Fr.pu F UM1.1 kd_294 (rfl : List.contains [40, 42] 40 = true)
  have ty2 : (o_a (M1 296) 33).toInt = (o_a (M 296) 33).toInt := by rw [UM1.1 296 (g_ne kd_296 kd_294 (by decide))]
  refine PW.cI q_254_5 (by decide) fun c3 hc3 => ?_
  refine PW.istore_n q_254_6 (by decide) ?_
  have L254_7_4 : ∀ (n : Nat) (ML254_7_4 : pM) (v5 : Int32), Iv (gTT) ML254_7_4 → Fr [40, 42] M ML254_7_4 → 0 ≤ v5.toInt → (gLq ML254_7_4 M ∧ gHq ML254_7_4 M) → (2147483647 - v5.toInt).toNat = n → PW G false 5 254 (p_mc 254) (p_msl 254) Kr 7 [(0, .ref 294), (1, .int a1), (2, .int a2), (3, .int v5)] [] 311 ML254_7_4 0 0 := by
    intro n
    induction n using Nat.strongRecOn with
    | ind n ih_L254_7_4 =>
    intro ML254_7_4 v5 IML254_7_4 FML254_7_4 hbL254_7_40 hbL254_7_41 hmL254_7_4
    refine PW.iload_n q_254_7 rfl ?_
    refine PW.iload_n q_254_8 rfl ?_
    refine PW.jc_ge q_254_9 rfl (fun h6 => ?_) (fun h6 => ?_)
    · skip
      refine PW.iload_n q_254_61 rfl ?_
      refine PW.rI q_254_62 rfl (by decide) (by decide) ?_
      exact hK v5 ML254_7_4 IML254_7_4 FML254_7_4 ⟨hbL254_7_41.1, hbL254_7_41.2⟩
    · skip
      refine PW.aload_n q_254_12 rfl ?_
      refine PW.gR 296 q_254_13 (Or.inl t_ft_254_33) gF_40_6 kd_294 IML254_7_4.1 (by decide) rfl ?_
      refine PW.cB q_254_16 (by decide) fun c7 hc7 => ?_
      refine PW.aI q_254_18 gA_42 kd_296 IML254_7_4.1 (by decide) gB_42_33_33 (by decide) (by omega) (by omega) fun x8 fx8 hx8 kx8 => ?_
      have ty9 : (o_a (ML254_7_4 296) 33).toInt = x8.toInt := by have e : c7.toInt.toNat = 33 := (by omega); rw [e] at fx8; rw [fx8]
      refine PW.cS q_254_19 (by decide) fun c10 hc10 => ?_
      refine PW.jc_ge q_254_22 rfl (fun h11 => ?_) (fun h11 => ?_)
      · skip
        refine PW.iload_n q_254_61 rfl ?_
        refine PW.rI q_254_62 rfl (by decide) (by decide) ?_
        exact hK v5 ML254_7_4 IML254_7_4 FML254_7_4 ⟨hbL254_7_41.1, hbL254_7_41.2⟩
      · skip
        refine PW.cI q_254_25 (by decide) fun c12 hc12 => ?_
        refine PW.istore q_254_26 (by decide) ?_
        have L254_28_13 : ∀ (n : Nat) (ML254_28_13 : pM) (v14 : Int32), Iv (gTT) ML254_28_13 → Fr [40, 42] M ML254_28_13 → 0 ≤ v14.toInt → v14.toInt ≤ 6 → (o_a (ML254_28_13 296) 33).toInt ≤ 599 → (gLq ML254_28_13 M ∧ gHq ML254_28_13 M) → (6 - v14.toInt).toNat = n → PW G false 5 254 (p_mc 254) (p_msl 254) Kr 28 [(0, .ref 294), (1, .int a1), (2, .int a2), (3, .int v5), (4, .int v14)] [] 311 ML254_28_13 0 0 := by
          intro n
          induction n using Nat.strongRecOn with
          | ind n ih_L254_28_13 =>
          intro ML254_28_13 v14 IML254_28_13 FML254_28_13 hbL254_28_130 hbL254_28_131 hbL254_28_132 hbL254_28_133 hmL254_28_13
          refine PW.iload q_254_28 rfl ?_
          refine PW.aload_n q_254_30 rfl ?_
          refine PW.gR 296 q_254_31 (Or.inl t_ft_254_33) gF_40_6 kd_294 IML254_28_13.1 (by decide) rfl ?_
          refine PW.cI q_254_34 (by decide) fun c15 hc15 => ?_
          refine PW.aI q_254_35 gA_42 kd_296 IML254_28_13.1 (by decide) gB_42_0_0 (by decide) (by omega) (by omega) fun x16 fx16 hx16 kx16 => ?_
          refine PW.jc_ge q_254_36 rfl (fun h17 => ?_) (fun h17 => ?_)
          · skip
            refine PW.aload_n q_254_51 rfl ?_
            refine PW.cV (as := []) (rest := []) q_254_52 t_mv_254_287 kd_294 IML254_28_13.1 (by decide) rfl (by decide) rfl rfl (Nat.le_of_ble_eq_true rfl) (Nat.le_of_ble_eq_true rfl) (by decide) (by decide) ?_
            refine PW.up (by decide) (c_X12_second G _ ML254_28_13 IML254_28_13 (by omega) fun M18 IM18 GM18 PM18 TM18 => ?_)
            have FM18 := Fr.trans FML254_28_13 GM18 (rfl)
            refine PW.incN q_254_55 rfl (by decide) (by decide) (by have := n_lo v5; have := n_hi v5; omega) (by have := n_lo v5; have := n_hi v5; omega) fun x19 hx19 => ?_
            refine PW.goto q_254_58 rfl ?_
            refine PW.lvS (lk1 rfl (lk1 rfl (lk1 rfl (lk1 rfl lk0)))) (ih_L254_7_4 _ ?_ M18 x19 IM18 FM18 (by omega) ⟨((congrArg (fun e => o_i e 2) (Fr.at GM18 kd_294 rfl)).trans hbL254_28_133.1), (hbL254_28_133.2.tr TM18.2)⟩ rfl)
            omega
          · skip
            refine PW.aload_n q_254_39 rfl ?_
            refine PW.iload q_254_40 rfl ?_
            refine PW.cV (as := [_]) (rest := []) q_254_42 t_mv_254_363 kd_294 IML254_28_13.1 (by decide) rfl (by decide) rfl rfl (Nat.le_of_ble_eq_true rfl) (Nat.le_of_ble_eq_true rfl) (by decide) (by decide) ?_
            refine PW.up (by decide) (c_X12_drawsWalker (gTT) (Stab0) G _ ML254_28_13 IML254_28_13 v14 (by omega) (by omega) fun M20 IM20 GM20 PM20 TM20 => ?_)
            have FM20 := Fr.trans FML254_28_13 GM20 (rfl)
            refine PW.incN q_254_45 rfl (by decide) (by decide) (by omega) (by omega) fun x21 hx21 => ?_
            refine PW.goto q_254_48 rfl ?_
            refine PW.lvS (lk1 rfl (lk1 rfl (lk1 rfl (lk1 rfl (lk1 rfl lk0))))) (ih_L254_28_13 _ ?_ M20 x21 IM20 FM20 (by omega) (by omega) (by omega) ⟨(TM20.1.trans hbL254_28_133.1), (hbL254_28_133.2.tr TM20.2)⟩ rfl)
            omega
        exact PW.lvS (lk1 rfl (lk1 rfl (lk1 rfl (lk1 rfl (lk1 rfl lk0))))) (L254_28_13 _ ML254_7_4 c12 IML254_7_4 FML254_7_4 (by omega) (by omega) (by omega) ⟨hbL254_7_41.1, hbL254_7_41.2⟩ rfl)
  exact PW.lvS (lk1 rfl (lk1 rfl (lk1 rfl (lk1 rfl lk0)))) (L254_7_4 _ M1 c3 IM1 FM1 (by omega) ⟨(UM1.i (c := 294) (k := 2) (Or.inr (by decide))), (gHq.refl.pu UM1 (by decide))⟩ rfl)
theorem c_X12_drawn (G : pG) (Kr : pK) (M : pM) (I : Iv gTT M) (a1 : Int32) (a2 : Int32) (hK : ∀ (x : Int32) (M1 : pM), Iv gTT M1 → Fr [40, 42, 47] M M1 → ((gLq M1 M) ∧ gHq M1 M) → Kr.1 (some (.int x)) 311 M1) : PW G false 6 255 (p_mc 255) (p_msl 255) Kr 0 (lv_args 0 [.ref 294, .int a1, .int a2]) [] 311 M 0 0 := by
  have F : Fr [40, 42, 47] M M := Fr.refl
  refine PW.aload_n q_255_0 rfl ?_
  refine PW.cI q_255_1 (by decide) fun c1 hc1 => ?_
  refine PW.pI q_255_2 (Or.inl t_ft_255_1) gF_40_0 gP_40_0 kd_294 Stab0 I (by decide) rfl (n_lo _) (n_hi _) fun M2 IM2 fM2 UM2 => ?_
  have FM2 := Fr.pu F UM2.1 kd_294 (rfl : List.contains [40, 42, 47] 40 = true)
  refine PW.iload_n q_255_5 rfl ?_
  refine PW.cI q_255_6 (by decide) fun c3 hc3 => ?_
  refine PW.cB q_255_7 (by decide) fun c4 hc4 => ?_
  refine PW.callS (as := [_, _, _]) (rest := []) q_255_9 t_ms_255_176 (by decide) rfl (Nat.le_of_ble_eq_true rfl) (Nat.le_of_ble_eq_true rfl) (by decide) (by decide) ?_
  refine PW.iload_n q_166_0 rfl ?_
  refine PW.iload_n q_166_1 rfl ?_
  refine PW.jc_lt q_166_2 rfl (fun h5 => ?_) (fun h5 => ?_)
  · skip
    refine PW.cI q_166_14 (by decide) fun c6 hc6 => ?_
    refine PW.rZ q_166_15 rfl (by omega) (by omega) (by decide) (by decide) ?_
    refine PW.jz_eq q_255_12 rfl (fun h7 => ?_) (fun h7 => False.elim (by omega))
    refine PW.cI q_255_24 (by decide) fun c8 hc8 => ?_
    refine PW.rI q_255_25 rfl (by decide) (by decide) ?_
    exact hK c8 M2 IM2 FM2 ⟨(UM2.i (c := 294) (k := 2) (Or.inr (by decide))), (gHq.refl.pu UM2 (by decide))⟩
  · skip
    refine PW.iload_n q_166_5 rfl ?_
    refine PW.iload_n q_166_6 rfl ?_
    refine PW.jc_gt q_166_7 rfl (fun h9 => ?_) (fun h9 => ?_)
    · skip
      refine PW.cI q_166_14 (by decide) fun c10 hc10 => ?_
      refine PW.rZ q_166_15 rfl (by omega) (by omega) (by decide) (by decide) ?_
      refine PW.jz_eq q_255_12 rfl (fun h11 => ?_) (fun h11 => False.elim (by omega))
      refine PW.cI q_255_24 (by decide) fun c12 hc12 => ?_
      refine PW.rI q_255_25 rfl (by decide) (by decide) ?_
      exact hK c12 M2 IM2 FM2 ⟨(UM2.i (c := 294) (k := 2) (Or.inr (by decide))), (gHq.refl.pu UM2 (by decide))⟩
    · skip
      refine PW.cI q_166_10 (by decide) fun c13 hc13 => ?_
      refine PW.goto q_166_11 rfl ?_
      refine PW.rZ q_166_15 rfl (by omega) (by omega) (by decide) (by decide) ?_
      refine PW.jz_eq q_255_12 rfl (fun h14 => False.elim (by omega)) (fun h14 => ?_)
      refine PW.aload_n q_255_15 rfl ?_
      refine PW.gR 296 q_255_16 (Or.inl t_ft_255_33) gF_40_6 kd_294 IM2.1 (by decide) rfl ?_
      refine PW.cI q_255_19 (by decide) fun c15 hc15 => ?_
      refine PW.aI q_255_20 gA_42 kd_296 IM2.1 (by decide) gB_42_0_0 (by decide) (by omega) (by omega) fun x16 fx16 hx16 kx16 => ?_
      refine PW.jz_ne q_255_21 rfl (fun h17 => ?_) (fun h17 => ?_)
      · skip
        refine PW.aload_n q_255_26 rfl ?_
        refine PW.gR 296 q_255_27 (Or.inl t_ft_255_33) gF_40_6 kd_294 IM2.1 (by decide) rfl ?_
        refine PW.cB q_255_30 (by decide) fun c18 hc18 => ?_
        refine PW.aI q_255_32 gA_42 kd_296 IM2.1 (by decide) gB_42_33_33 (by decide) (by omega) (by omega) fun x19 fx19 hx19 kx19 => ?_
        refine PW.cS q_255_33 (by decide) fun c20 hc20 => ?_
        have J43_22 : ∀ (MJ43_22 : pM), Iv (gTT) MJ43_22 → Fr [40, 42, 47] M MJ43_22 → (gLq MJ43_22 M ∧ gHq MJ43_22 M) → PW G false 6 255 (p_mc 255) (p_msl 255) Kr 43 [(0, .ref 294), (1, .int a1), (2, .int a2)] [] 311 MJ43_22 0 0 := by
          intro MJ43_22  IMJ43_22 FMJ43_22 hbJ43_220
          refine PW.aload_n q_255_43 rfl ?_
          refine PW.iload_n q_255_44 rfl ?_
          refine PW.iload_n q_255_45 rfl ?_
          refine PW.cV (as := [_, _]) (rest := []) q_255_46 t_mv_255_366 kd_294 IMJ43_22.1 (by decide) rfl (by decide) rfl rfl (Nat.le_of_ble_eq_true rfl) (Nat.le_of_ble_eq_true rfl) (by decide) (by decide) ?_
          refine PW.up (by decide) (c_X12_draws G _ MJ43_22 IMJ43_22 a1 a2 fun x24 M23 IM23 GM23 TM23 => ?_)
          have FM23 := Fr.trans FMJ43_22 GM23 (rfl)
          refine PW.rI q_255_49 rfl (by decide) (by decide) ?_
          exact hK x24 M23 IM23 FM23 ⟨(TM23.1.trans hbJ43_220.1), (hbJ43_220.2.tr TM23.2)⟩
        refine PW.jc_ge q_255_36 rfl (fun h21 => ?_) (fun h21 => ?_)
        · skip
          exact PW.lvS (lk1 rfl (lk1 rfl (lk1 rfl lk0))) (J43_22 M2  IM2 FM2 ⟨(UM2.i (c := 294) (k := 2) (Or.inr (by decide))), (gHq.refl.pu UM2 (by decide))⟩)
        · skip
          refine PW.aload_n q_255_39 rfl ?_
          refine PW.cV (as := []) (rest := []) q_255_40 t_mv_255_290 kd_294 IM2.1 (by decide) rfl (by decide) rfl rfl (Nat.le_of_ble_eq_true rfl) (Nat.le_of_ble_eq_true rfl) (by decide) (by decide) ?_
          refine PW.up (by decide) (c_X12_keep G _ M2 IM2  fun M25 IM25 GM25 PM25 TM25 => ?_)
          have FM25 := Fr.trans FM2 GM25 (rfl)
          exact PW.lvS (lk1 rfl (lk1 rfl (lk1 rfl lk0))) (J43_22 M25  IM25 FM25 ⟨(TM25.1.trans (UM2.i (c := 294) (k := 2) (Or.inr (by decide)))), ((gHq.refl.pu UM2 (by decide)).tr TM25.2)⟩)
      · skip
        refine PW.cI q_255_24 (by decide) fun c26 hc26 => ?_
        refine PW.rI q_255_25 rfl (by decide) (by decide) ?_
        exact hK c26 M2 IM2 FM2 ⟨(UM2.i (c := 294) (k := 2) (Or.inr (by decide))), (gHq.refl.pu UM2 (by decide))⟩
theorem c_X12_odds (G : pG) (Kr : pK) (M : pM) (I : Iv gTT M) (a1 : Int32) (a2 : Int32) (a3 : Int32) (hK : ∀ (x : Int32) (M1 : pM), Iv gTT M1 → Fr [40, 42, 48] M M1 → ((gLq M1 M) ∧ gHq M1 M) → Kr.1 (some (.int x)) 311 M1) : PW G false 6 256 (p_mc 256) (p_msl 256) Kr 0 (lv_args 0 [.ref 294, .int a1, .int a2, .int a3]) [] 311 M 0 0 := by
  have F : Fr [40, 42, 48] M M := Fr.refl
  refine PW.aload_n q_256_0 rfl ?_
  refine PW.cI q_256_1 (by decide) fun c1 hc1 => ?_
  refine PW.pI q_256_2 (Or.inl t_ft_256_1) gF_40_0 gP_40_0 kd_294 Stab0 I (by decide) rfl (n_lo _) (n_hi _) fun M2 IM2 fM2 UM2 => ?_
  have FM2 := Fr.pu F UM2.1 kd_294 (rfl : List.contains [40, 42, 48] 40 = true)
  refine PW.aload_n q_256_5 rfl ?_
  refine PW.iload_n q_256_6 rfl ?_
  refine PW.cV (as := [_]) (rest := []) q_256_7 t_mv_256_241 kd_294 IM2.1 (by decide) rfl (by decide) rfl rfl (Nat.le_of_ble_eq_true rfl) (Nat.le_of_ble_eq_true rfl) (by decide) (by decide) ?_
  refine PW.iload_n q_195_0 rfl ?_
  refine PW.cI q_195_1 (by decide) fun c3 hc3 => ?_
  refine PW.aload_n q_195_2 rfl ?_
  refine PW.gR 296 q_195_3 (Or.inl t_ft_195_33) gF_40_6 kd_294 IM2.1 (by decide) rfl ?_
  refine PW.cI q_195_6 (by decide) fun c4 hc4 => ?_
  refine PW.aI q_195_7 gA_42 kd_296 IM2.1 (by decide) gB_42_0_0 (by decide) (by omega) (by omega) fun x5 fx5 hx5 kx5 => ?_
  refine PW.cI q_195_8 (by decide) fun c6 hc6 => ?_
  refine PW.subN q_195_9 (by omega) (by omega) fun x7 hx7 => ?_
  refine PW.callS (as := [_, _, _]) (rest := []) q_195_10 t_ms_195_176 (by decide) rfl (Nat.le_of_ble_eq_true rfl) (Nat.le_of_ble_eq_true rfl) (by decide) (by decide) ?_
  refine PW.iload_n q_166_0 rfl ?_
  refine PW.iload_n q_166_1 rfl ?_
  refine PW.jc_lt q_166_2 rfl (fun h8 => ?_) (fun h8 => ?_)
  · skip
    refine PW.cI q_166_14 (by decide) fun c9 hc9 => ?_
    refine PW.rZ q_166_15 rfl (by omega) (by omega) (by decide) (by decide) ?_
    refine PW.rZ q_195_13 rfl (by omega) (by omega) (by decide) (by decide) ?_
    refine PW.jz_eq q_256_10 rfl (fun h10 => ?_) (fun h10 => False.elim (by omega))
    refine PW.cI q_256_23 (by decide) fun c11 hc11 => ?_
    refine PW.rI q_256_24 rfl (by decide) (by decide) ?_
    exact hK c11 M2 IM2 FM2 ⟨(UM2.i (c := 294) (k := 2) (Or.inr (by decide))), (gHq.refl.pu UM2 (by decide))⟩
  · skip
    refine PW.iload_n q_166_5 rfl ?_
    refine PW.iload_n q_166_6 rfl ?_
    refine PW.jc_gt q_166_7 rfl (fun h12 => ?_) (fun h12 => ?_)
    · skip
      refine PW.cI q_166_14 (by decide) fun c13 hc13 => ?_
      refine PW.rZ q_166_15 rfl (by omega) (by omega) (by decide) (by decide) ?_
      refine PW.rZ q_195_13 rfl (by omega) (by omega) (by decide) (by decide) ?_
      refine PW.jz_eq q_256_10 rfl (fun h14 => ?_) (fun h14 => False.elim (by omega))
      refine PW.cI q_256_23 (by decide) fun c15 hc15 => ?_
      refine PW.rI q_256_24 rfl (by decide) (by decide) ?_
      exact hK c15 M2 IM2 FM2 ⟨(UM2.i (c := 294) (k := 2) (Or.inr (by decide))), (gHq.refl.pu UM2 (by decide))⟩
    · skip
      refine PW.cI q_166_10 (by decide) fun c16 hc16 => ?_
      refine PW.goto q_166_11 rfl ?_
      refine PW.rZ q_166_15 rfl (by omega) (by omega) (by decide) (by decide) ?_
      refine PW.rZ q_195_13 rfl (by omega) (by omega) (by decide) (by decide) ?_
      refine PW.jz_eq q_256_10 rfl (fun h17 => False.elim (by omega)) (fun h17 => ?_)
      refine PW.iload_n q_256_13 rfl ?_
      refine PW.cI q_256_14 (by decide) fun c18 hc18 => ?_
      refine PW.cB q_256_15 (by decide) fun c19 hc19 => ?_
      refine PW.callS (as := [_, _, _]) (rest := []) q_256_17 t_ms_256_176 (by decide) rfl (Nat.le_of_ble_eq_true rfl) (Nat.le_of_ble_eq_true rfl) (by decide) (by decide) ?_
      refine PW.iload_n q_166_0 rfl ?_
      refine PW.iload_n q_166_1 rfl ?_
      refine PW.jc_lt q_166_2 rfl (fun h20 => ?_) (fun h20 => ?_)
      · skip
        refine PW.cI q_166_14 (by decide) fun c21 hc21 => ?_
        refine PW.rZ q_166_15 rfl (by omega) (by omega) (by decide) (by decide) ?_
        refine PW.jz_ne q_256_20 rfl (fun h22 => False.elim (by omega)) (fun h22 => ?_)
        refine PW.cI q_256_23 (by decide) fun c23 hc23 => ?_
        refine PW.rI q_256_24 rfl (by decide) (by decide) ?_
        exact hK c23 M2 IM2 FM2 ⟨(UM2.i (c := 294) (k := 2) (Or.inr (by decide))), (gHq.refl.pu UM2 (by decide))⟩
      · skip
        refine PW.iload_n q_166_5 rfl ?_
        refine PW.iload_n q_166_6 rfl ?_
        refine PW.jc_gt q_166_7 rfl (fun h24 => ?_) (fun h24 => ?_)
        · skip
          refine PW.cI q_166_14 (by decide) fun c25 hc25 => ?_
          refine PW.rZ q_166_15 rfl (by omega) (by omega) (by decide) (by decide) ?_
          refine PW.jz_ne q_256_20 rfl (fun h26 => False.elim (by omega)) (fun h26 => ?_)
          refine PW.cI q_256_23 (by decide) fun c27 hc27 => ?_
          refine PW.rI q_256_24 rfl (by decide) (by decide) ?_
          exact hK c27 M2 IM2 FM2 ⟨(UM2.i (c := 294) (k := 2) (Or.inr (by decide))), (gHq.refl.pu UM2 (by decide))⟩
        · skip
          refine PW.cI q_166_10 (by decide) fun c28 hc28 => ?_
          refine PW.goto q_166_11 rfl ?_
          refine PW.rZ q_166_15 rfl (by omega) (by omega) (by decide) (by decide) ?_
          refine PW.jz_ne q_256_20 rfl (fun h29 => ?_) (fun h29 => False.elim (by omega))
          refine PW.aload_n q_256_25 rfl ?_
          refine PW.cV (as := []) (rest := []) q_256_26 t_mv_256_308 kd_294 IM2.1 (by decide) rfl (by decide) rfl rfl (Nat.le_of_ble_eq_true rfl) (Nat.le_of_ble_eq_true rfl) (by decide) (by decide) ?_
          refine PW.up (by decide) (c_X12_tries G _ M2 IM2  fun M30 IM30 GM30 TM30 => ?_)
          have FM30 := Fr.trans FM2 GM30 (rfl)
          refine PW.cI q_256_29 (by decide) fun c31 hc31 => ?_
          refine PW.istore q_256_30 (by decide) ?_
          refine PW.cI q_256_32 (by decide) fun c32 hc32 => ?_
          refine PW.istore q_256_33 (by decide) ?_
          have L256_35_33 : ∀ (n : Nat) (ML256_35_33 : pM) (v34 v35 : Int32), Iv (gTT) ML256_35_33 → Fr [40, 42, 48] M ML256_35_33 → 0 ≤ v35.toInt → v35.toInt ≤ 30 → (gLq ML256_35_33 M ∧ gHq ML256_35_33 M) → (30 - v35.toInt).toNat = n → PW G false 6 256 (p_mc 256) (p_msl 256) Kr 35 [(0, .ref 294), (1, .int a1), (2, .int a2), (3, .int a3), (4, .int v34), (5, .int v35)] [] 311 ML256_35_33 0 0 := by
            intro n
            induction n using Nat.strongRecOn with
            | ind n ih_L256_35_33 =>
            intro ML256_35_33 v34 v35 IML256_35_33 FML256_35_33 hbL256_35_330 hbL256_35_331 hbL256_35_332 hmL256_35_33
            refine PW.iload q_256_35 rfl ?_
            refine PW.iload_n q_256_37 rfl ?_
            refine PW.jc_ge q_256_38 rfl (fun h36 => ?_) (fun h36 => ?_)
            · skip
              refine PW.iload q_256_97 rfl ?_
              refine PW.rI q_256_99 rfl (by decide) (by decide) ?_
              exact hK v34 ML256_35_33 IML256_35_33 FML256_35_33 ⟨hbL256_35_332.1, hbL256_35_332.2⟩
            · skip
              refine PW.aload_n q_256_41 rfl ?_
              refine PW.gR 296 q_256_42 (Or.inl t_ft_256_33) gF_40_6 kd_294 IML256_35_33.1 (by decide) rfl ?_
              refine PW.cB q_256_45 (by decide) fun c37 hc37 => ?_
              refine PW.iload_n q_256_47 rfl ?_
              refine PW.addN q_256_48 (by have := n_lo a1; have := n_hi a1; omega) (by have := n_lo a1; have := n_hi a1; omega) fun x38 hx38 => ?_
              refine PW.aH q_256_49 gA_42 kd_296 IML256_35_33.1 (by decide) (by omega) (by omega) fun x39 fx39 => ?_
              refine PW.istore q_256_50 (by decide) ?_
              refine PW.aload_n q_256_52 rfl ?_
              refine PW.cB q_256_53 (by decide) fun c40 hc40 => ?_
              refine PW.iload_n q_256_55 rfl ?_
              refine PW.iload q_256_56 rfl ?_
              refine PW.addH q_256_58 fun x41 => ?_
              refine PW.cV (as := [_, _]) (rest := []) q_256_59 t_mv_256_366 kd_294 IML256_35_33.1 (by decide) rfl (by decide) rfl rfl (Nat.le_of_ble_eq_true rfl) (Nat.le_of_ble_eq_true rfl) (by decide) (by decide) ?_
              refine PW.up (by decide) (c_X12_draws G _ ML256_35_33 IML256_35_33 c40 x41 fun x43 M42 IM42 GM42 TM42 => ?_)
              have FM42 := Fr.trans FML256_35_33 GM42 (rfl)
              refine PW.pop q_256_62 rfl ?_
              refine PW.iload q_256_63 rfl ?_
              refine PW.aload_n q_256_65 rfl ?_
              refine PW.gR 296 q_256_66 (Or.inl t_ft_256_33) gF_40_6 kd_294 IM42.1 (by decide) rfl ?_
              refine PW.cB q_256_69 (by decide) fun c44 hc44 => ?_
              refine PW.iload_n q_256_71 rfl ?_
              refine PW.addN q_256_72 (by have := n_lo a1; have := n_hi a1; omega) (by have := n_lo a1; have := n_hi a1; omega) fun x45 hx45 => ?_
              refine PW.aH q_256_73 gA_42 kd_296 IM42.1 (by decide) (by omega) (by omega) fun x46 fx46 => ?_
              refine PW.iload q_256_74 rfl ?_
              have J84_48 : ∀ (MJ84_48 : pM) (s49 : Int32), Iv (gTT) MJ84_48 → Fr [40, 42, 48] M MJ84_48 → 0 ≤ s49.toInt → s49.toInt ≤ 1 → (gLq MJ84_48 M ∧ gHq MJ84_48 M) → PW G false 6 256 (p_mc 256) (p_msl 256) Kr 84 [(0, .ref 294), (1, .int a1), (2, .int a2), (3, .int a3), (4, .int v34), (5, .int v35), (6, .int x39)] [.int s49, .int v34] 311 MJ84_48 0 0 := by
                intro MJ84_48 s49 IMJ84_48 FMJ84_48 hbJ84_480 hbJ84_481 hbJ84_482
                refine PW.addH q_256_84 fun x50 => ?_
                refine PW.istore q_256_85 (by decide) ?_
                refine PW.aload_n q_256_87 rfl ?_
                refine PW.cV (as := []) (rest := []) q_256_88 t_mv_256_311 kd_294 IMJ84_48.1 (by decide) rfl (by decide) rfl rfl (Nat.le_of_ble_eq_true rfl) (Nat.le_of_ble_eq_true rfl) (by decide) (by decide) ?_
                refine PW.up (by decide) (c_X12_back G _ MJ84_48 IMJ84_48  fun M51 IM51 GM51 TM51 => ?_)
                have FM51 := Fr.trans FMJ84_48 GM51 (rfl)
                refine PW.incN q_256_91 rfl (by decide) (by decide) (by omega) (by omega) fun x52 hx52 => ?_
                refine PW.goto q_256_94 rfl ?_
                refine PW.lvS (lk1 rfl (lk1 rfl (lk1 rfl (lk1 rfl (lk1 rfl (lk1 rfl lk0)))))) (ih_L256_35_33 _ ?_ M51 x50 x52 IM51 FM51 (by omega) (by omega) ⟨((congrArg (fun e => o_i e 2) (Fr.at GM51 kd_294 rfl)).trans hbJ84_482.1), (hbJ84_482.2.tr TM51.2)⟩ rfl)
                omega
              refine PW.jc_le q_256_76 rfl (fun h47 => ?_) (fun h47 => ?_)
              · skip
                refine PW.cI q_256_83 (by decide) fun c53 hc53 => ?_
                exact PW.lvS (lk1 rfl (lk1 rfl (lk1 rfl (lk1 rfl (lk1 rfl (lk1 rfl (lk1 rfl lk0))))))) (J84_48 M42 c53 IM42 FM42 (by omega) (by omega) ⟨(TM42.1.trans hbL256_35_332.1), (hbL256_35_332.2.tr TM42.2)⟩)
              · skip
                refine PW.cI q_256_79 (by decide) fun c54 hc54 => ?_
                refine PW.goto q_256_80 rfl ?_
                exact PW.lvS (lk1 rfl (lk1 rfl (lk1 rfl (lk1 rfl (lk1 rfl (lk1 rfl (lk1 rfl lk0))))))) (J84_48 M42 c54 IM42 FM42 (by omega) (by omega) ⟨(TM42.1.trans hbL256_35_332.1), (hbL256_35_332.2.tr TM42.2)⟩)
          exact PW.lvS (lk1 rfl (lk1 rfl (lk1 rfl (lk1 rfl (lk1 rfl (lk1 rfl lk0)))))) (L256_35_33 _ M30 c31 c32 IM30 FM30 (by omega) (by omega) ⟨((congrArg (fun e => o_i e 2) (Fr.at GM30 kd_294 rfl)).trans (UM2.i (c := 294) (k := 2) (Or.inr (by decide)))), ((gHq.refl.pu UM2 (by decide)).cg (Fr.at GM30 kd_296 rfl) (Fr.at GM30 kd_294 rfl))⟩ rfl)
theorem c_X12_logged (G : pG) (Kr : pK) (M : pM) (I : Iv gTT M) (a1 : Int32) (hK : ∀ (x : Int32) (M1 : pM), Iv gTT M1 → Fr [40] M M1 → ((gLq M1 M) ∧ gHq M1 M) → Kr.1 (some (.int x)) 311 M1) : PW G false 1 260 (p_mc 260) (p_msl 260) Kr 0 (lv_args 0 [.ref 294, .int a1]) [] 311 M 0 0 := by
  have F : Fr [40] M M := Fr.refl
  refine PW.aload_n q_260_0 rfl ?_
  refine PW.cI q_260_1 (by decide) fun c1 hc1 => ?_
  refine PW.pI q_260_2 (Or.inl t_ft_260_1) gF_40_0 gP_40_0 kd_294 Stab0 I (by decide) rfl (n_lo _) (n_hi _) fun M2 IM2 fM2 UM2 => ?_
  have FM2 := Fr.pu F UM2.1 kd_294 (rfl : List.contains [40] 40 = true)
  refine PW.aload_n q_260_5 rfl ?_
  refine PW.gI q_260_6 (Or.inl t_ft_260_378) gF_40_31 kd_294 IM2.1 (by decide) fun x3 fx3 hx3 kx3 => ?_
  refine PW.jz_eq q_260_9 rfl (fun h4 => ?_) (fun h4 => ?_)
  · skip
    refine PW.cI q_260_30 (by decide) fun c5 hc5 => ?_
    refine PW.rI q_260_31 rfl (by decide) (by decide) ?_
    exact hK c5 M2 IM2 FM2 ⟨(UM2.i (c := 294) (k := 2) (Or.inr (by decide))), (gHq.refl.pu UM2 (by decide))⟩
  · skip
    refine PW.iload_n q_260_12 rfl ?_
    refine PW.cI q_260_13 (by decide) fun c6 hc6 => ?_
    refine PW.cI q_260_14 (by decide) fun c7 hc7 => ?_
    refine PW.callS (as := [_, _, _]) (rest := []) q_260_15 t_ms_260_176 (by decide) rfl (Nat.le_of_ble_eq_true rfl) (Nat.le_of_ble_eq_true rfl) (by decide) (by decide) ?_
    refine PW.iload_n q_166_0 rfl ?_
    refine PW.iload_n q_166_1 rfl ?_
    refine PW.jc_lt q_166_2 rfl (fun h8 => ?_) (fun h8 => ?_)
    · skip
      refine PW.cI q_166_14 (by decide) fun c9 hc9 => ?_
      refine PW.rZ q_166_15 rfl (by omega) (by omega) (by decide) (by decide) ?_
      refine PW.jz_eq q_260_18 rfl (fun h10 => ?_) (fun h10 => False.elim (by omega))
      refine PW.cI q_260_30 (by decide) fun c11 hc11 => ?_
      refine PW.rI q_260_31 rfl (by decide) (by decide) ?_
      exact hK c11 M2 IM2 FM2 ⟨(UM2.i (c := 294) (k := 2) (Or.inr (by decide))), (gHq.refl.pu UM2 (by decide))⟩
    · skip
      refine PW.iload_n q_166_5 rfl ?_
      refine PW.iload_n q_166_6 rfl ?_
      refine PW.jc_gt q_166_7 rfl (fun h12 => ?_) (fun h12 => ?_)
      · skip
        refine PW.cI q_166_14 (by decide) fun c13 hc13 => ?_
        refine PW.rZ q_166_15 rfl (by omega) (by omega) (by decide) (by decide) ?_
        refine PW.jz_eq q_260_18 rfl (fun h14 => ?_) (fun h14 => False.elim (by omega))
        refine PW.cI q_260_30 (by decide) fun c15 hc15 => ?_
        refine PW.rI q_260_31 rfl (by decide) (by decide) ?_
        exact hK c15 M2 IM2 FM2 ⟨(UM2.i (c := 294) (k := 2) (Or.inr (by decide))), (gHq.refl.pu UM2 (by decide))⟩
      · skip
        refine PW.cI q_166_10 (by decide) fun c16 hc16 => ?_
        refine PW.goto q_166_11 rfl ?_
        refine PW.rZ q_166_15 rfl (by omega) (by omega) (by decide) (by decide) ?_
        refine PW.jz_eq q_260_18 rfl (fun h17 => False.elim (by omega)) (fun h17 => ?_)
        refine PW.aload_n q_260_21 rfl ?_
        refine PW.gR 304 q_260_22 (Or.inl t_ft_260_59) gF_40_30 kd_294 IM2.1 (by decide) rfl ?_
        refine PW.iload_n q_260_25 rfl ?_
        refine PW.aH q_260_26 gA_50 kd_304 IM2.1 (by decide) (by omega) (by omega) fun x18 fx18 => ?_
        refine PW.goto q_260_27 rfl ?_
        refine PW.rI q_260_31 rfl (by decide) (by decide) ?_
        exact hK x18 M2 IM2 FM2 ⟨(UM2.i (c := 294) (k := 2) (Or.inr (by decide))), (gHq.refl.pu UM2 (by decide))⟩
theorem c_X12_count (G : pG) (Kr : pK) (M : pM) (I : Iv gTT M) (a1 : Int32) (hK : ∀ (x : Int32) (M1 : pM), Iv gTT M1 → Fr [40] M M1 → ((gLq M1 M) ∧ gHq M1 M) → Kr.1 (some (.int x)) 311 M1) : PW G false 0 274 (p_mc 274) (p_msl 274) Kr 0 (lv_args 0 [.ref 294, .int a1]) [] 311 M 0 0 := by
  have F : Fr [40] M M := Fr.refl
  refine PW.aload_n q_274_0 rfl ?_
  refine PW.cI q_274_1 (by decide) fun c1 hc1 => ?_
  refine PW.pI q_274_2 (Or.inl t_ft_274_1) gF_40_0 gP_40_0 kd_294 Stab0 I (by decide) rfl (n_lo _) (n_hi _) fun M2 IM2 fM2 UM2 => ?_
  have FM2 := Fr.pu F UM2.1 kd_294 (rfl : List.contains [40] 40 = true)
  refine PW.iload_n q_274_5 rfl ?_
  have h3 : a1.toInt = 0 ∨ a1.toInt = 1 ∨ a1.toInt = 2 ∨ a1.toInt = 3 ∨ a1.toInt = 4 ∨ a1.toInt = 5 ∨ (a1.toInt < 0 ∨ 5 < a1.toInt) := by omega
  rcases h3 with h3 | h3 | h3 | h3 | h3 | h3 | h3
  · skip
    refine PW.sw1 (0) h3 q_274_6 (by decide) (by decide) rfl rfl ?_
    refine PW.aload_n q_274_44 rfl ?_
    refine PW.gR 296 q_274_45 (Or.inl t_ft_274_33) gF_40_6 kd_294 IM2.1 (by decide) rfl ?_
    refine PW.cI q_274_48 (by decide) fun c4 hc4 => ?_
    refine PW.aI q_274_49 gA_42 kd_296 IM2.1 (by decide) gB_42_0_0 (by decide) (by omega) (by omega) fun x5 fx5 hx5 kx5 => ?_
    refine PW.rI q_274_50 rfl (by decide) (by decide) ?_
    exact hK x5 M2 IM2 FM2 ⟨(UM2.i (c := 294) (k := 2) (Or.inr (by decide))), (gHq.refl.pu UM2 (by decide))⟩
  · skip
    refine PW.sw1 (1) h3 q_274_6 (by decide) (by decide) rfl rfl ?_
    refine PW.aload_n q_274_51 rfl ?_
    refine PW.gR 296 q_274_52 (Or.inl t_ft_274_33) gF_40_6 kd_294 IM2.1 (by decide) rfl ?_
    refine PW.cI q_274_55 (by decide) fun c6 hc6 => ?_
    refine PW.aI q_274_56 gA_42 kd_296 IM2.1 (by decide) gB_42_1_1 (by decide) (by omega) (by omega) fun x7 fx7 hx7 kx7 => ?_
    refine PW.rI q_274_57 rfl (by decide) (by decide) ?_
    exact hK x7 M2 IM2 FM2 ⟨(UM2.i (c := 294) (k := 2) (Or.inr (by decide))), (gHq.refl.pu UM2 (by decide))⟩
  · skip
    refine PW.sw1 (2) h3 q_274_6 (by decide) (by decide) rfl rfl ?_
    refine PW.aload_n q_274_58 rfl ?_
    refine PW.gR 296 q_274_59 (Or.inl t_ft_274_33) gF_40_6 kd_294 IM2.1 (by decide) rfl ?_
    refine PW.cI q_274_62 (by decide) fun c8 hc8 => ?_
    refine PW.aH q_274_63 gA_42 kd_296 IM2.1 (by decide) (by omega) (by omega) fun x9 fx9 => ?_
    refine PW.rI q_274_64 rfl (by decide) (by decide) ?_
    exact hK x9 M2 IM2 FM2 ⟨(UM2.i (c := 294) (k := 2) (Or.inr (by decide))), (gHq.refl.pu UM2 (by decide))⟩
  · skip
    refine PW.sw1 (3) h3 q_274_6 (by decide) (by decide) rfl rfl ?_
    refine PW.aload_n q_274_65 rfl ?_
    refine PW.gR 296 q_274_66 (Or.inl t_ft_274_33) gF_40_6 kd_294 IM2.1 (by decide) rfl ?_
    refine PW.cI q_274_69 (by decide) fun c10 hc10 => ?_
    refine PW.aH q_274_70 gA_42 kd_296 IM2.1 (by decide) (by omega) (by omega) fun x11 fx11 => ?_
    refine PW.rI q_274_71 rfl (by decide) (by decide) ?_
    exact hK x11 M2 IM2 FM2 ⟨(UM2.i (c := 294) (k := 2) (Or.inr (by decide))), (gHq.refl.pu UM2 (by decide))⟩
  · skip
    refine PW.sw1 (4) h3 q_274_6 (by decide) (by decide) rfl rfl ?_
    refine PW.aload_n q_274_72 rfl ?_
    refine PW.gR 296 q_274_73 (Or.inl t_ft_274_33) gF_40_6 kd_294 IM2.1 (by decide) rfl ?_
    refine PW.cI q_274_76 (by decide) fun c12 hc12 => ?_
    refine PW.aH q_274_77 gA_42 kd_296 IM2.1 (by decide) (by omega) (by omega) fun x13 fx13 => ?_
    refine PW.jz_ne q_274_78 rfl (fun h14 => ?_) (fun h14 => ?_)
    · skip
      refine PW.aload_n q_274_85 rfl ?_
      refine PW.gR 296 q_274_86 (Or.inl t_ft_274_33) gF_40_6 kd_294 IM2.1 (by decide) rfl ?_
      refine PW.cI q_274_89 (by decide) fun c15 hc15 => ?_
      refine PW.aH q_274_90 gA_42 kd_296 IM2.1 (by decide) (by omega) (by omega) fun x16 fx16 => ?_
      refine PW.rI q_274_91 rfl (by decide) (by decide) ?_
      exact hK x16 M2 IM2 FM2 ⟨(UM2.i (c := 294) (k := 2) (Or.inr (by decide))), (gHq.refl.pu UM2 (by decide))⟩
    · skip
      refine PW.cI q_274_81 (by decide) fun c17 hc17 => ?_
      refine PW.goto q_274_82 rfl ?_
      refine PW.rI q_274_91 rfl (by decide) (by decide) ?_
      exact hK c17 M2 IM2 FM2 ⟨(UM2.i (c := 294) (k := 2) (Or.inr (by decide))), (gHq.refl.pu UM2 (by decide))⟩
  · skip
    refine PW.sw1 (5) h3 q_274_6 (by decide) (by decide) rfl rfl ?_
    refine PW.aload_n q_274_92 rfl ?_
    refine PW.gI q_274_93 (Or.inl t_ft_274_7) gF_40_2 kd_294 IM2.1 (by decide) fun x18 fx18 hx18 kx18 => ?_
    refine PW.rI q_274_96 rfl (by decide) (by decide) ?_
    exact hK x18 M2 IM2 FM2 ⟨(UM2.i (c := 294) (k := 2) (Or.inr (by decide))), (gHq.refl.pu UM2 (by decide))⟩
  · skip
    refine PW.tswO q_274_6 h3 rfl ?_
    refine PW.cI q_274_97 (by decide) fun c19 hc19 => ?_
    refine PW.rI q_274_98 rfl (by decide) (by decide) ?_
    exact hK c19 M2 IM2 FM2 ⟨(UM2.i (c := 294) (k := 2) (Or.inr (by decide))), (gHq.refl.pu UM2 (by decide))⟩
